set_option maxRecDepth 20000 in
theorem ggX0_waysToLose_X0_lostByFinds : GoodIn wsX0_waysToLose wsX0_lostByFinds := goodIn_r _ [4, 5, 6, 7, 8, 9, 10, 11, 12, 13, 14, 15, 16, 17, 18, 19, 20, 21, 22, 23, 24, 30, 31, 32, 33, 34, 35, 36] (by decide +kernel) (by decide +kernel)
set_option maxRecDepth 20000 in
theorem gX0_waysToLose_X0_lostByFinds : GoodIn wsX0_waysToLose (va_wsS RX0 7 yX0_lostByFinds wsX0_lostByFinds) := goodIn_app (goodIn_of _ (by decide +kernel)) ggX0_waysToLose_X0_lostByFinds
set_option maxRecDepth 20000 in
theorem ggX0_waysToLose_J6_bitCount_0f7a4 : GoodIn wsX0_waysToLose wsJ6_bitCount_0f7a4 := goodIn_r _ [15, 16, 17, 18] (by decide +kernel) (by decide +kernel)
set_option maxRecDepth 20000 in
theorem gX0_waysToLose_J6_bitCount_0f7a4 : GoodIn wsX0_waysToLose (va_wsS RX0 13 yJ6_bitCount_0f7a4 wsJ6_bitCount_0f7a4) := goodIn_app (goodIn_of _ (by decide +kernel)) ggX0_waysToLose_J6_bitCount_0f7a4
set_option maxRecDepth 20000 in
theorem ggX0_waysToLose_X1_power : GoodIn wsX0_waysToLose wsX1_power := goodIn_r _ [29] (by decide +kernel) (by decide +kernel)
set_option maxRecDepth 20000 in
theorem gX0_waysToLose_X1_power : GoodIn wsX0_waysToLose (va_wsS RX0 19 yX1_power wsX1_power) := goodIn_app (goodIn_of _ (by decide +kernel)) ggX0_waysToLose_X1_power
set_option maxRecDepth 20000 in
theorem ggX0_lostByFinds_X7_behindDay : GoodIn wsX0_lostByFinds wsX7_behindDay := goodIn_r _ [5, 6, 7, 8, 9, 10, 11, 12, 13, 14, 15, 16, 17, 4, 18, 19, 20, 21, 22, 23, 24, 25, 26, 27] (by decide +kernel) (by decide +kernel)
set_option maxRecDepth 20000 in
theorem gX0_lostByFinds_X7_behindDay : GoodIn wsX0_lostByFinds (wsV RX0 37 RX7 yX7_behindDay wsX7_behindDay) := goodIn_app (goodIn_of _ (by decide +kernel)) ggX0_lostByFinds_X7_behindDay
set_option maxRecDepth 20000 in
theorem ggX1_part_X1_greatestCommon : GoodIn wsX1_part wsX1_greatestCommon := goodIn_r _ [4] (by decide +kernel) (by decide +kernel)
set_option maxRecDepth 20000 in
theorem gX1_part_X1_greatestCommon : GoodIn wsX1_part (va_wsS RX1 7 yX1_greatestCommon wsX1_greatestCommon) := goodIn_app (goodIn_of _ (by decide +kernel)) ggX1_part_X1_greatestCommon
set_option maxRecDepth 20000 in
theorem ggX2_firstSettled_X2_isSettled : GoodIn wsX2_firstSettled wsX2_isSettled := goodIn_r _ [4, 5, 6, 3, 7, 8, 9, 10, 11, 12, 13, 14, 15, 16, 17, 18, 19, 20, 21, 22, 23, 24, 25, 26, 27, 28, 29, 30, 31, 32, 33, 34, 35, 36, 37, 38, 39, 40, 41, 42] (by decide +kernel) (by decide +kernel)
set_option maxRecDepth 20000 in
theorem gX2_firstSettled_X2_isSettled : GoodIn wsX2_firstSettled (va_wsS RX2 9 yX2_isSettled wsX2_isSettled) := goodIn_app (goodIn_of _ (by decide +kernel)) ggX2_firstSettled_X2_isSettled
set_option maxRecDepth 20000 in
theorem ggX2_isSettled_X2_lostBy : GoodIn wsX2_isSettled wsX2_lostBy := goodIn_r _ [4, 5, 6, 7, 8, 9, 10, 11, 12, 13, 14, 15, 16, 17, 18, 19, 20, 21, 22, 23, 24, 25, 26, 27, 28, 29, 33, 34, 35, 36, 37, 38, 39] (by decide +kernel) (by decide +kernel)
set_option maxRecDepth 20000 in
theorem gX2_isSettled_X2_lostBy : GoodIn wsX2_isSettled (va_wsS RX2 15 yX2_lostBy wsX2_lostBy) := goodIn_app (goodIn_of _ (by decide +kernel)) ggX2_isSettled_X2_lostBy
set_option maxRecDepth 20000 in
theorem ggX2_isSettled_X2_price : GoodIn wsX2_isSettled wsX2_price := goodIn_r _ [32] (by decide +kernel) (by decide +kernel)
set_option maxRecDepth 20000 in
theorem gX2_isSettled_X2_price : GoodIn wsX2_isSettled (va_wsS RX2 19 yX2_price wsX2_price) := goodIn_app (goodIn_of _ (by decide +kernel)) ggX2_isSettled_X2_price
set_option maxRecDepth 20000 in
theorem ggX2_lostBy_X7_behindDays : GoodIn wsX2_lostBy wsX7_behindDays := goodIn_r _ [5, 6, 7, 8, 4, 9, 10, 11, 12, 13, 14, 15, 16, 17, 18, 19, 20, 21, 22, 23, 24, 26, 27, 28, 29, 30, 31, 32] (by decide +kernel) (by decide +kernel)
set_option maxRecDepth 20000 in
theorem gX2_lostBy_X7_behindDays : GoodIn wsX2_lostBy (wsV RX2 35 RX7 yX7_behindDays wsX7_behindDays) := goodIn_app (goodIn_of _ (by decide +kernel)) ggX2_lostBy_X7_behindDays
set_option maxRecDepth 20000 in
theorem ggX2_lostBy_J6_bitCount_0f7a4 : GoodIn wsX2_lostBy wsJ6_bitCount_0f7a4 := goodIn_r _ [15, 16, 17, 18] (by decide +kernel) (by decide +kernel)
set_option maxRecDepth 20000 in
theorem gX2_lostBy_J6_bitCount_0f7a4 : GoodIn wsX2_lostBy (va_wsS RX2 39 yJ6_bitCount_0f7a4 wsJ6_bitCount_0f7a4) := goodIn_app (goodIn_of _ (by decide +kernel)) ggX2_lostBy_J6_bitCount_0f7a4
set_option maxRecDepth 20000 in
theorem ggX3_lostInWars_X3_drawNails : GoodIn wsX3_lostInWars wsX3_drawNails := goodIn_r _ [6, 7, 8, 9, 10, 11, 12, 13, 14, 15, 16, 17, 18, 19, 20, 21, 22, 23, 24, 5, 25, 1, 26, 27, 28, 56, 57, 58, 59, 60, 61, 62, 55] (by decide +kernel) (by decide +kernel)
set_option maxRecDepth 20000 in
theorem gX3_lostInWars_X3_drawNails : GoodIn wsX3_lostInWars (wsV RX3 13 RX3 yX3_drawNails wsX3_drawNails) := goodIn_app (goodIn_of _ (by decide +kernel)) ggX3_lostInWars_X3_drawNails
set_option maxRecDepth 20000 in
theorem ggX3_lostInWars_X4_lostBehind : GoodIn wsX3_lostInWars wsX4_lostBehind := goodIn_r _ [32, 33, 34, 35, 10, 36, 37, 38, 39, 40, 12, 17, 41, 42, 43, 44, 45, 46, 47, 48, 49, 50, 51, 52, 53, 56, 57, 58, 59, 60, 61, 62] (by decide +kernel) (by decide +kernel)
set_option maxRecDepth 20000 in
theorem gX3_lostInWars_X4_lostBehind : GoodIn wsX3_lostInWars (va_wsS RX3 17 yX4_lostBehind wsX4_lostBehind) := goodIn_app (goodIn_of _ (by decide +kernel)) ggX3_lostInWars_X4_lostBehind
set_option maxRecDepth 20000 in
theorem ggX3_lostInWars_J6_bitCount_0f7a4 : GoodIn wsX3_lostInWars wsJ6_bitCount_0f7a4 := goodIn_r _ [44, 45, 46, 47] (by decide +kernel) (by decide +kernel)
set_option maxRecDepth 20000 in
theorem gX3_lostInWars_J6_bitCount_0f7a4 : GoodIn wsX3_lostInWars (va_wsS RX3 23 yJ6_bitCount_0f7a4 wsJ6_bitCount_0f7a4) := goodIn_app (goodIn_of _ (by decide +kernel)) ggX3_lostInWars_J6_bitCount_0f7a4
set_option maxRecDepth 20000 in
theorem ggX3_drawNails_X7_withoutCauses : GoodIn wsX3_drawNails wsX7_withoutCauses := goodIn_r _ [5, 6, 7, 8, 9, 4, 10, 11, 12, 13, 14, 15, 25, 26, 27, 28, 29, 30, 31] (by decide +kernel) (by decide +kernel)
set_option maxRecDepth 20000 in
theorem gX3_drawNails_X7_withoutCauses : GoodIn wsX3_drawNails (wsV RX3 29 RX7 yX7_withoutCauses wsX7_withoutCauses) := goodIn_app (goodIn_of _ (by decide +kernel)) ggX3_drawNails_X7_withoutCauses
set_option maxRecDepth 20000 in
theorem ggX3_drawNails_X3_drawBelow : GoodIn wsX3_drawNails wsX3_drawBelow := goodIn_r _ [20, 21, 22, 23, 24, 32] (by decide +kernel) (by decide +kernel)
set_option maxRecDepth 20000 in
theorem gX3_drawNails_X3_drawBelow : GoodIn wsX3_drawNails (wsV RX3 41 RX3 yX3_drawBelow wsX3_drawBelow) := goodIn_app (goodIn_of _ (by decide +kernel)) ggX3_drawNails_X3_drawBelow
set_option maxRecDepth 20000 in
theorem ggX4_lostBehind_X7_behindDays : GoodIn wsX4_lostBehind wsX7_behindDays := goodIn_r _ [5, 6, 7, 8, 4, 9, 10, 11, 12, 13, 14, 15, 16, 17, 18, 19, 20, 21, 22, 23, 24, 25, 26, 27, 28, 29, 30, 31] (by decide +kernel) (by decide +kernel)
set_option maxRecDepth 20000 in
theorem gX4_lostBehind_X7_behindDays : GoodIn wsX4_lostBehind (wsV RX4 18 RX7 yX7_behindDays wsX7_behindDays) := goodIn_app (goodIn_of _ (by decide +kernel)) ggX4_lostBehind_X7_behindDays
set_option maxRecDepth 20000 in
theorem ggX4_daysUntilLost_X7_behindDay : GoodIn wsX4_daysUntilLost wsX7_behindDay := goodIn_r _ [5, 6, 7, 8, 9, 10, 11, 12, 13, 14, 15, 16, 17, 4, 18, 19, 20, 21, 22, 23, 24, 25, 26, 27] (by decide +kernel) (by decide +kernel)
set_option maxRecDepth 20000 in
theorem gX4_daysUntilLost_X7_behindDay : GoodIn wsX4_daysUntilLost (wsV RX4 22 RX7 yX7_behindDay wsX7_behindDay) := goodIn_app (goodIn_of _ (by decide +kernel)) ggX4_daysUntilLost_X7_behindDay
set_option maxRecDepth 20000 in
theorem ggX4_firstToFall_X7_behindDay : GoodIn wsX4_firstToFall wsX7_behindDay := goodIn_r _ [5, 6, 7, 8, 9, 10, 11, 12, 13, 14, 15, 16, 17, 4, 18, 19, 20, 25, 26, 27, 28, 29, 30, 31] (by decide +kernel) (by decide +kernel)
set_option maxRecDepth 20000 in
theorem gX4_firstToFall_X7_behindDay : GoodIn wsX4_firstToFall (wsV RX4 22 RX7 yX7_behindDay wsX7_behindDay) := goodIn_app (goodIn_of _ (by decide +kernel)) ggX4_firstToFall_X7_behindDay
set_option maxRecDepth 20000 in
theorem ggX4_firstToFall_J6_numberOfTrailingZeros_0f7a4 : GoodIn wsX4_firstToFall wsJ6_numberOfTrailingZeros_0f7a4 := goodIn_r _ [23, 24] (by decide +kernel) (by decide +kernel)
set_option maxRecDepth 20000 in
theorem gX4_firstToFall_J6_numberOfTrailingZeros_0f7a4 : GoodIn wsX4_firstToFall (va_wsS RX4 29 yJ6_numberOfTrailingZeros_0f7a4 wsJ6_numberOfTrailingZeros_0f7a4) := goodIn_app (goodIn_of _ (by decide +kernel)) ggX4_firstToFall_J6_numberOfTrailingZeros_0f7a4
set_option maxRecDepth 20000 in
theorem ggX4_daysUntilStill_X7_behindDays : GoodIn wsX4_daysUntilStill wsX7_behindDays := goodIn_r _ [5, 6, 7, 8, 4, 9, 10, 11, 12, 13, 14, 15, 16, 17, 18, 19, 20, 21, 22, 23, 24, 26, 27, 28, 29, 30, 31, 32] (by decide +kernel) (by decide +kernel)
set_option maxRecDepth 20000 in
theorem gX4_daysUntilStill_X7_behindDays : GoodIn wsX4_daysUntilStill (wsV RX4 18 RX7 yX7_behindDays wsX7_behindDays) := goodIn_app (goodIn_of _ (by decide +kernel)) ggX4_daysUntilStill_X7_behindDays
set_option maxRecDepth 20000 in
theorem ggX4_daysUntilStill_X7_behindDay : GoodIn wsX4_daysUntilStill wsX7_behindDay := goodIn_r _ [9, 10, 11, 12, 13, 14, 15, 16, 17, 18, 19, 20, 21, 4, 22, 23, 24, 26, 27, 28, 29, 30, 31, 32] (by decide +kernel) (by decide +kernel)
set_option maxRecDepth 20000 in
theorem gX4_daysUntilStill_X7_behindDay : GoodIn wsX4_daysUntilStill (wsV RX4 22 RX7 yX7_behindDay wsX7_behindDay) := goodIn_app (goodIn_of _ (by decide +kernel)) ggX4_daysUntilStill_X7_behindDay
set_option maxRecDepth 20000 in
theorem ggX4_fewestToGuard_X7_isLost : GoodIn wsX4_fewestToGuard wsX7_isLost := goodIn_r _ [5, 6, 7, 8, 9, 4, 10, 11, 50, 51, 52, 53, 54, 55, 56] (by decide +kernel) (by decide +kernel)
set_option maxRecDepth 20000 in
theorem gX4_fewestToGuard_X7_isLost : GoodIn wsX4_fewestToGuard (wsV RX4 37 RX7 yX7_isLost wsX7_isLost) := goodIn_app (goodIn_of _ (by decide +kernel)) ggX4_fewestToGuard_X7_isLost
set_option maxRecDepth 20000 in
theorem ggX4_fewestToGuard_X4_lostBehind : GoodIn wsX4_fewestToGuard wsX4_lostBehind := goodIn_r _ [15, 16, 17, 18, 4, 19, 20, 21, 22, 23, 11, 24, 25, 26, 27, 28, 29, 30, 31, 32, 33, 34, 35, 36, 37, 50, 51, 52, 53, 54, 55, 56] (by decide +kernel) (by decide +kernel)
set_option maxRecDepth 20000 in
theorem gX4_fewestToGuard_X4_lostBehind : GoodIn wsX4_fewestToGuard (va_wsS RX4 41 yX4_lostBehind wsX4_lostBehind) := goodIn_app (goodIn_of _ (by decide +kernel)) ggX4_fewestToGuard_X4_lostBehind
set_option maxRecDepth 20000 in
theorem ggX4_fewestToGuard_X7_open : GoodIn wsX4_fewestToGuard wsX7_open := goodIn_r _ [41, 6, 42, 43, 44, 45, 4, 46, 11, 50, 51, 52, 53, 54, 55, 56] (by decide +kernel) (by decide +kernel)
set_option maxRecDepth 20000 in
theorem gX4_fewestToGuard_X7_open : GoodIn wsX4_fewestToGuard (wsV RX4 48 RX7 yX7_open wsX7_open) := goodIn_app (goodIn_of _ (by decide +kernel)) ggX4_fewestToGuard_X7_open
set_option maxRecDepth 20000 in
theorem ggX4_fewestToGuard_X4_lostIfGuarded : GoodIn wsX4_fewestToGuard wsX4_lostIfGuarded := goodIn_r _ [49, 16, 17, 18, 4, 19, 20, 21, 22, 23, 11, 24, 25, 26, 27, 28, 29, 30, 31, 32, 33, 34, 35, 36, 37, 50, 51, 52, 53, 54, 55, 56] (by decide +kernel) (by decide +kernel)
set_option maxRecDepth 20000 in
theorem gX4_fewestToGuard_X4_lostIfGuarded : GoodIn wsX4_fewestToGuard (va_wsS RX4 52 yX4_lostIfGuarded wsX4_lostIfGuarded) := goodIn_app (goodIn_of _ (by decide +kernel)) ggX4_fewestToGuard_X4_lostIfGuarded
set_option maxRecDepth 20000 in
theorem ggX4_lostIfGuarded_X7_behindDays : GoodIn wsX4_lostIfGuarded wsX7_behindDays := goodIn_r _ [5, 6, 7, 8, 4, 9, 10, 11, 12, 13, 14, 15, 16, 17, 18, 19, 20, 21, 22, 23, 24, 25, 26, 27, 28, 29, 30, 31] (by decide +kernel) (by decide +kernel)
set_option maxRecDepth 20000 in
theorem gX4_lostIfGuarded_X7_behindDays : GoodIn wsX4_lostIfGuarded (wsV RX4 18 RX7 yX7_behindDays wsX7_behindDays) := goodIn_app (goodIn_of _ (by decide +kernel)) ggX4_lostIfGuarded_X7_behindDays
set_option maxRecDepth 20000 in
theorem ggX4_bestToGuard_X4_lostBehind : GoodIn wsX4_bestToGuard wsX4_lostBehind := goodIn_r _ [4, 5, 6, 7, 8, 9, 10, 11, 12, 13, 14, 15, 16, 17, 18, 19, 20, 21, 22, 23, 24, 25, 26, 27, 28, 43, 44, 45, 46, 47, 48, 49] (by decide +kernel) (by decide +kernel)
set_option maxRecDepth 20000 in
theorem gX4_bestToGuard_X4_lostBehind : GoodIn wsX4_bestToGuard (va_wsS RX4 41 yX4_lostBehind wsX4_lostBehind) := goodIn_app (goodIn_of _ (by decide +kernel)) ggX4_bestToGuard_X4_lostBehind
set_option maxRecDepth 20000 in
theorem ggX4_bestToGuard_J6_bitCount_0f7a4 : GoodIn wsX4_bestToGuard wsJ6_bitCount_0f7a4 := goodIn_r _ [19, 20, 21, 22] (by decide +kernel) (by decide +kernel)
set_option maxRecDepth 20000 in
theorem gX4_bestToGuard_J6_bitCount_0f7a4 : GoodIn wsX4_bestToGuard (va_wsS RX4 55 yJ6_bitCount_0f7a4 wsJ6_bitCount_0f7a4) := goodIn_app (goodIn_of _ (by decide +kernel)) ggX4_bestToGuard_J6_bitCount_0f7a4
set_option maxRecDepth 20000 in
theorem ggX4_bestToGuard_X7_open : GoodIn wsX4_bestToGuard wsX7_open := goodIn_r _ [33, 34, 35, 36, 37, 38, 8, 39, 14, 43, 44, 45, 46, 47, 48, 49] (by decide +kernel) (by decide +kernel)
set_option maxRecDepth 20000 in
theorem gX4_bestToGuard_X7_open : GoodIn wsX4_bestToGuard (wsV RX4 48 RX7 yX7_open wsX7_open) := goodIn_app (goodIn_of _ (by decide +kernel)) ggX4_bestToGuard_X7_open
set_option maxRecDepth 20000 in
theorem ggX4_bestToGuard_X4_lostIfGuarded : GoodIn wsX4_bestToGuard wsX4_lostIfGuarded := goodIn_r _ [42, 5, 6, 7, 8, 9, 10, 11, 12, 13, 14, 15, 16, 17, 18, 19, 20, 21, 22, 23, 24, 25, 26, 27, 28, 43, 44, 45, 46, 47, 48, 49] (by decide +kernel) (by decide +kernel)
set_option maxRecDepth 20000 in
theorem gX4_bestToGuard_X4_lostIfGuarded : GoodIn wsX4_bestToGuard (va_wsS RX4 52 yX4_lostIfGuarded wsX4_lostIfGuarded) := goodIn_app (goodIn_of _ (by decide +kernel)) ggX4_bestToGuard_X4_lostIfGuarded
set_option maxRecDepth 20000 in
theorem ggX4_soonestNail_X4_daysUntilLost : GoodIn wsX4_soonestNail wsX4_daysUntilLost := goodIn_r _ [4, 5, 6, 7, 8, 9, 10, 11, 12, 13, 14, 15, 16, 17, 18, 19, 20, 21, 22, 23, 24, 51, 52, 53, 54, 55, 56, 57] (by decide +kernel) (by decide +kernel)
set_option maxRecDepth 20000 in
theorem gX4_soonestNail_X4_daysUntilLost : GoodIn wsX4_soonestNail (va_wsS RX4 58 yX4_daysUntilLost wsX4_daysUntilLost) := goodIn_app (goodIn_of _ (by decide +kernel)) ggX4_soonestNail_X4_daysUntilLost
set_option maxRecDepth 20000 in
theorem ggX4_soonestNail_X7_openNails : GoodIn wsX4_soonestNail wsX7_openNails := goodIn_r _ [28, 29, 30, 31, 8, 32, 10, 33, 34, 35, 36, 11, 37, 38, 39, 40, 41, 42, 43, 44, 45, 46, 47, 48, 49, 50, 51, 52, 53, 54, 55, 56, 57] (by decide +kernel) (by decide +kernel)
set_option maxRecDepth 20000 in
theorem gX4_soonestNail_X7_openNails : GoodIn wsX4_soonestNail (wsV RX4 61 RX7 yX7_openNails wsX7_openNails) := goodIn_app (goodIn_of _ (by decide +kernel)) ggX4_soonestNail_X7_openNails
set_option maxRecDepth 20000 in
theorem ggX4_worstNail_X4_lostBehind : GoodIn wsX4_worstNail wsX4_lostBehind := goodIn_r _ [4, 5, 6, 7, 8, 9, 10, 11, 12, 13, 14, 15, 16, 17, 18, 19, 20, 21, 22, 23, 24, 25, 26, 27, 28, 56, 57, 58, 59, 60, 61, 62] (by decide +kernel) (by decide +kernel)
set_option maxRecDepth 20000 in
theorem gX4_worstNail_X4_lostBehind : GoodIn wsX4_worstNail (va_wsS RX4 41 yX4_lostBehind wsX4_lostBehind) := goodIn_app (goodIn_of _ (by decide +kernel)) ggX4_worstNail_X4_lostBehind
set_option maxRecDepth 20000 in
theorem ggX4_worstNail_J6_bitCount_0f7a4 : GoodIn wsX4_worstNail wsJ6_bitCount_0f7a4 := goodIn_r _ [19, 20, 21, 22] (by decide +kernel) (by decide +kernel)
set_option maxRecDepth 20000 in
theorem gX4_worstNail_J6_bitCount_0f7a4 : GoodIn wsX4_worstNail (va_wsS RX4 55 yJ6_bitCount_0f7a4 wsJ6_bitCount_0f7a4) := goodIn_app (goodIn_of _ (by decide +kernel)) ggX4_worstNail_J6_bitCount_0f7a4
set_option maxRecDepth 20000 in
theorem ggX4_worstNail_X7_openNails : GoodIn wsX4_worstNail wsX7_openNails := goodIn_r _ [33, 34, 35, 36, 8, 37, 14, 38, 39, 40, 41, 15, 42, 43, 44, 45, 46, 47, 48, 49, 50, 51, 52, 53, 54, 55, 56, 57, 58, 59, 60, 61, 62] (by decide +kernel) (by decide +kernel)
set_option maxRecDepth 20000 in
theorem gX4_worstNail_X7_openNails : GoodIn wsX4_worstNail (wsV RX4 61 RX7 yX7_openNails wsX7_openNails) := goodIn_app (goodIn_of _ (by decide +kernel)) ggX4_worstNail_X7_openNails
set_option maxRecDepth 20000 in
theorem ggX4_fewestToLose_X7_openNails : GoodIn wsX4_fewestToLose wsX7_openNails := goodIn_r _ [5, 6, 7, 8, 4, 9, 10, 11, 12, 13, 14, 15, 16, 17, 18, 19, 20, 21, 22, 23, 24, 25, 26, 27, 28, 29, 53, 54, 55, 56, 57, 58, 59] (by decide +kernel) (by decide +kernel)
set_option maxRecDepth 20000 in
theorem gX4_fewestToLose_X7_openNails : GoodIn wsX4_fewestToLose (wsV RX4 61 RX7 yX7_openNails wsX7_openNails) := goodIn_app (goodIn_of _ (by decide +kernel)) ggX4_fewestToLose_X7_openNails
set_option maxRecDepth 20000 in
theorem ggX4_fewestToLose_X7_all : GoodIn wsX4_fewestToLose wsX7_all := goodIn_r _ [29, 10, 53, 54, 55, 56, 57, 58, 59] (by decide +kernel) (by decide +kernel)
set_option maxRecDepth 20000 in
theorem gX4_fewestToLose_X7_all : GoodIn wsX4_fewestToLose (wsV RX4 64 RX7 yX7_all wsX7_all) := goodIn_app (goodIn_of _ (by decide +kernel)) ggX4_fewestToLose_X7_all
set_option maxRecDepth 20000 in
theorem ggX4_fewestToLose_J6_bitCount_0f7a4 : GoodIn wsX4_fewestToLose wsJ6_bitCount_0f7a4 := goodIn_r _ [34, 35, 36, 37] (by decide +kernel) (by decide +kernel)
set_option maxRecDepth 20000 in
theorem gX4_fewestToLose_J6_bitCount_0f7a4 : GoodIn wsX4_fewestToLose (va_wsS RX4 55 yJ6_bitCount_0f7a4 wsJ6_bitCount_0f7a4) := goodIn_app (goodIn_of _ (by decide +kernel)) ggX4_fewestToLose_J6_bitCount_0f7a4
set_option maxRecDepth 20000 in
theorem ggX4_fewestToLose_X4_daysUntilLost : GoodIn wsX4_fewestToLose wsX4_daysUntilLost := goodIn_r _ [41, 42, 43, 44, 4, 45, 10, 15, 46, 32, 33, 34, 35, 36, 37, 47, 48, 49, 50, 51, 52, 53, 54, 55, 56, 57, 58, 59] (by decide +kernel) (by decide +kernel)
set_option maxRecDepth 20000 in
theorem gX4_fewestToLose_X4_daysUntilLost : GoodIn wsX4_fewestToLose (va_wsS RX4 58 yX4_daysUntilLost wsX4_daysUntilLost) := goodIn_app (goodIn_of _ (by decide +kernel)) ggX4_fewestToLose_X4_daysUntilLost
set_option maxRecDepth 20000 in
theorem ggX4_savedBy_X4_lostBehind : GoodIn wsX4_savedBy wsX4_lostBehind := goodIn_r _ [4, 5, 6, 7, 8, 9, 10, 11, 12, 13, 14, 15, 16, 17, 18, 19, 20, 21, 22, 23, 24, 25, 26, 27, 28, 30, 31, 32, 33, 34, 35, 36] (by decide +kernel) (by decide +kernel)
set_option maxRecDepth 20000 in
theorem gX4_savedBy_X4_lostBehind : GoodIn wsX4_savedBy (va_wsS RX4 41 yX4_lostBehind wsX4_lostBehind) := goodIn_app (goodIn_of _ (by decide +kernel)) ggX4_savedBy_X4_lostBehind
set_option maxRecDepth 20000 in
theorem ggX4_savedBy_J6_bitCount_0f7a4 : GoodIn wsX4_savedBy wsJ6_bitCount_0f7a4 := goodIn_r _ [19, 20, 21, 22] (by decide +kernel) (by decide +kernel)
set_option maxRecDepth 20000 in
theorem gX4_savedBy_J6_bitCount_0f7a4 : GoodIn wsX4_savedBy (va_wsS RX4 55 yJ6_bitCount_0f7a4 wsJ6_bitCount_0f7a4) := goodIn_app (goodIn_of _ (by decide +kernel)) ggX4_savedBy_J6_bitCount_0f7a4
set_option maxRecDepth 20000 in
theorem ggX5_add_X5_isFull : GoodIn wsX5_add wsX5_isFull := goodIn_r _ [7, 2, 8, 9] (by decide +kernel) (by decide +kernel)
set_option maxRecDepth 20000 in
theorem gX5_add_X5_isFull : GoodIn wsX5_add (wsV RX5 19 RX5 yX5_isFull wsX5_isFull) := goodIn_app (goodIn_of _ (by decide +kernel)) ggX5_add_X5_isFull
set_option maxRecDepth 20000 in
theorem ggX5_tellLosses_X7_behindDay : GoodIn wsX5_tellLosses wsX7_behindDay := goodIn_r _ [6, 7, 8, 9, 10, 11, 12, 13, 14, 15, 16, 17, 18, 5, 19, 20, 21, 29, 30, 31, 32, 33, 34, 35] (by decide +kernel) (by decide +kernel)
set_option maxRecDepth 20000 in
theorem gX5_tellLosses_X7_behindDay : GoodIn wsX5_tellLosses (wsV RX5 34 RX7 yX7_behindDay wsX7_behindDay) := goodIn_app (goodIn_of _ (by decide +kernel)) ggX5_tellLosses_X7_behindDay
set_option maxRecDepth 20000 in
theorem ggX5_tellLosses_X5_at : GoodIn wsX5_tellLosses wsX5_at := goodIn_r _ [26, 1, 27, 36, 37] (by decide +kernel) (by decide +kernel)
set_option maxRecDepth 20000 in
theorem gX5_tellLosses_X5_at : GoodIn wsX5_tellLosses (wsV RX5 38 RX5 yX5_at wsX5_at) := goodIn_app (goodIn_of _ (by decide +kernel)) ggX5_tellLosses_X5_at
set_option maxRecDepth 20000 in
theorem ggX5_tellLosses_J6_bitCount_0f7a4 : GoodIn wsX5_tellLosses wsJ6_bitCount_0f7a4 := goodIn_r _ [12, 13, 14, 15] (by decide +kernel) (by decide +kernel)
set_option maxRecDepth 20000 in
theorem gX5_tellLosses_J6_bitCount_0f7a4 : GoodIn wsX5_tellLosses (va_wsS RX5 42 yJ6_bitCount_0f7a4 wsJ6_bitCount_0f7a4) := goodIn_app (goodIn_of _ (by decide +kernel)) ggX5_tellLosses_J6_bitCount_0f7a4
set_option maxRecDepth 20000 in
theorem ggX6_firstNails_X7_withoutCauses : GoodIn wsX6_firstNails wsX7_withoutCauses := goodIn_r _ [5, 6, 7, 8, 9, 4, 10, 11, 12, 13, 14, 15, 23, 24, 25, 26, 27, 28, 29] (by decide +kernel) (by decide +kernel)
set_option maxRecDepth 20000 in
theorem gX6_firstNails_X7_withoutCauses : GoodIn wsX6_firstNails (wsV RX6 7 RX7 yX7_withoutCauses wsX7_withoutCauses) := goodIn_app (goodIn_of _ (by decide +kernel)) ggX6_firstNails_X7_withoutCauses
set_option maxRecDepth 20000 in
theorem ggX6_firstNails_J6_bitCount_0f7a4 : GoodIn wsX6_firstNails wsJ6_bitCount_0f7a4 := goodIn_r _ [19, 20, 21, 22] (by decide +kernel) (by decide +kernel)
set_option maxRecDepth 20000 in
theorem gX6_firstNails_J6_bitCount_0f7a4 : GoodIn wsX6_firstNails (va_wsS RX6 17 yJ6_bitCount_0f7a4 wsJ6_bitCount_0f7a4) := goodIn_app (goodIn_of _ (by decide +kernel)) ggX6_firstNails_J6_bitCount_0f7a4
set_option maxRecDepth 20000 in
theorem ggX6_blaming_X6_firstNails : GoodIn wsX6_blaming wsX6_firstNails := goodIn_r _ [4, 5, 6, 7, 8, 9, 10, 11, 12, 13, 14, 15, 16, 17, 18, 19, 20, 21, 22, 23, 24, 25, 26, 48, 49, 50, 51, 52, 53, 54] (by decide +kernel) (by decide +kernel)
set_option maxRecDepth 20000 in
theorem gX6_blaming_X6_firstNails : GoodIn wsX6_blaming (va_wsS RX6 25 yX6_firstNails wsX6_firstNails) := goodIn_app (goodIn_of _ (by decide +kernel)) ggX6_blaming_X6_firstNails
set_option maxRecDepth 20000 in
theorem ggX6_blaming_X6_blamingOf : GoodIn wsX6_blaming wsX6_blamingOf := goodIn_r _ [29, 30, 31, 32, 8, 33, 34, 35, 36, 37, 10, 15, 38, 21, 22, 23, 24, 25, 26, 39, 40, 41, 42, 43, 44, 27, 28, 3, 20, 45, 46, 47, 48, 49, 50, 51, 52, 53, 54] (by decide +kernel) (by decide +kernel)
set_option maxRecDepth 20000 in
theorem gX6_blaming_X6_blamingOf : GoodIn wsX6_blaming (va_wsS RX6 29 yX6_blamingOf wsX6_blamingOf) := goodIn_app (goodIn_of _ (by decide +kernel)) ggX6_blaming_X6_blamingOf
set_option maxRecDepth 20000 in
theorem ggX6_blamingOf_X7_behindDays : GoodIn wsX6_blamingOf wsX7_behindDays := goodIn_r _ [5, 6, 7, 8, 4, 9, 10, 11, 12, 13, 14, 15, 16, 17, 18, 19, 20, 21, 22, 23, 24, 32, 33, 34, 35, 36, 37, 38] (by decide +kernel) (by decide +kernel)
set_option maxRecDepth 20000 in
theorem gX6_blamingOf_X7_behindDays : GoodIn wsX6_blamingOf (wsV RX6 36 RX7 yX7_behindDays wsX7_behindDays) := goodIn_app (goodIn_of _ (by decide +kernel)) ggX6_blamingOf_X7_behindDays
set_option maxRecDepth 20000 in
theorem ggX6_blamingOf_X6_blamingOf : GoodIn wsX6_blamingOf wsX6_blamingOf := goodIn_r _ [0, 1, 2, 3, 4, 5, 6, 7, 8, 9, 10, 11, 12, 13, 14, 15, 16, 17, 18, 19, 20, 21, 22, 23, 24, 25, 26, 27, 28, 29, 30, 31, 32, 33, 34, 35, 36, 37, 38] (by decide +kernel) (by decide +kernel)
set_option maxRecDepth 20000 in
theorem gX6_blamingOf_X6_blamingOf : GoodIn wsX6_blamingOf (va_wsS RX6 29 yX6_blamingOf wsX6_blamingOf) := goodIn_app (goodIn_of _ (by decide +kernel)) ggX6_blamingOf_X6_blamingOf
set_option maxRecDepth 20000 in
theorem ggX6_blamingOf_J6_bitCount_0f7a4 : GoodIn wsX6_blamingOf wsJ6_bitCount_0f7a4 := goodIn_r _ [15, 16, 17, 18] (by decide +kernel) (by decide +kernel)
set_option maxRecDepth 20000 in
theorem gX6_blamingOf_J6_bitCount_0f7a4 : GoodIn wsX6_blamingOf (va_wsS RX6 17 yJ6_bitCount_0f7a4 wsJ6_bitCount_0f7a4) := goodIn_app (goodIn_of _ (by decide +kernel)) ggX6_blamingOf_J6_bitCount_0f7a4
set_option maxRecDepth 20000 in
theorem ggX6_blamingOf_X6_ofThese : GoodIn wsX6_blamingOf wsX6_ofThese := goodIn_r _ [31] (by decide +kernel) (by decide +kernel)
set_option maxRecDepth 20000 in
theorem gX6_blamingOf_X6_ofThese : GoodIn wsX6_blamingOf (va_wsS RX6 40 yX6_ofThese wsX6_ofThese) := goodIn_app (goodIn_of _ (by decide +kernel)) ggX6_blamingOf_X6_ofThese
set_option maxRecDepth 20000 in
theorem ggX7_kindOf_X7_has : GoodIn wsX7_kindOf wsX7_has := goodIn_r _ [6, 7, 8, 9, 10, 11, 12, 13, 14] (by decide +kernel) (by decide +kernel)
set_option maxRecDepth 20000 in
theorem gX7_kindOf_X7_has : GoodIn wsX7_kindOf (wsV RX7 34 RX7 yX7_has wsX7_has) := goodIn_app (goodIn_of _ (by decide +kernel)) ggX7_kindOf_X7_has
set_option maxRecDepth 20000 in
theorem ggX7_figureOf_X7_has : GoodIn wsX7_figureOf wsX7_has := goodIn_r _ [6, 7, 8, 9, 10, 11, 12, 13, 14] (by decide +kernel) (by decide +kernel)
set_option maxRecDepth 20000 in
theorem gX7_figureOf_X7_has : GoodIn wsX7_figureOf (wsV RX7 34 RX7 yX7_has wsX7_has) := goodIn_app (goodIn_of _ (by decide +kernel)) ggX7_figureOf_X7_has
set_option maxRecDepth 20000 in
theorem ggX7_causesOf_X7_has : GoodIn wsX7_causesOf wsX7_has := goodIn_r _ [6, 7, 8, 9, 10, 11, 12, 13, 14] (by decide +kernel) (by decide +kernel)
set_option maxRecDepth 20000 in
theorem gX7_causesOf_X7_has : GoodIn wsX7_causesOf (wsV RX7 34 RX7 yX7_has wsX7_has) := goodIn_app (goodIn_of _ (by decide +kernel)) ggX7_causesOf_X7_has
set_option maxRecDepth 20000 in
theorem ggX7_isLost_X7_has : GoodIn wsX7_isLost wsX7_has := goodIn_r _ [6, 7, 8, 9, 10, 11, 12, 13, 14] (by decide +kernel) (by decide +kernel)
set_option maxRecDepth 20000 in
theorem gX7_isLost_X7_has : GoodIn wsX7_isLost (wsV RX7 34 RX7 yX7_has wsX7_has) := goodIn_app (goodIn_of _ (by decide +kernel)) ggX7_isLost_X7_has
set_option maxRecDepth 20000 in
theorem ggX7_isGuarded_X7_has : GoodIn wsX7_isGuarded wsX7_has := goodIn_r _ [6, 7, 8, 9, 10, 11, 12, 13, 14] (by decide +kernel) (by decide +kernel)
set_option maxRecDepth 20000 in
theorem gX7_isGuarded_X7_has : GoodIn wsX7_isGuarded (wsV RX7 34 RX7 yX7_has wsX7_has) := goodIn_app (goodIn_of _ (by decide +kernel)) ggX7_isGuarded_X7_has
set_option maxRecDepth 20000 in
theorem ggX7_add_X7_isKind : GoodIn wsX7_add wsX7_isKind := goodIn_r _ [8] (by decide +kernel) (by decide +kernel)
set_option maxRecDepth 20000 in
theorem gX7_add_X7_isKind : GoodIn wsX7_add (va_wsS RX7 38 yX7_isKind wsX7_isKind) := goodIn_app (goodIn_of _ (by decide +kernel)) ggX7_add_X7_isKind
set_option maxRecDepth 20000 in
theorem ggX7_add_X7_isFigure : GoodIn wsX7_add wsX7_isFigure := goodIn_r _ [11] (by decide +kernel) (by decide +kernel)
set_option maxRecDepth 20000 in
theorem gX7_add_X7_isFigure : GoodIn wsX7_add (va_wsS RX7 41 yX7_isFigure wsX7_isFigure) := goodIn_app (goodIn_of _ (by decide +kernel)) ggX7_add_X7_isFigure
set_option maxRecDepth 20000 in
theorem ggX7_setKind_X7_has : GoodIn wsX7_setKind wsX7_has := goodIn_r _ [6, 7, 11, 12, 13, 14, 15, 16, 17] (by decide +kernel) (by decide +kernel)
set_option maxRecDepth 20000 in
theorem gX7_setKind_X7_has : GoodIn wsX7_setKind (wsV RX7 34 RX7 yX7_has wsX7_has) := goodIn_app (goodIn_of _ (by decide +kernel)) ggX7_setKind_X7_has
set_option maxRecDepth 20000 in
theorem ggX7_setKind_X7_isKind : GoodIn wsX7_setKind wsX7_isKind := goodIn_r _ [10] (by decide +kernel) (by decide +kernel)
set_option maxRecDepth 20000 in
theorem gX7_setKind_X7_isKind : GoodIn wsX7_setKind (va_wsS RX7 38 yX7_isKind wsX7_isKind) := goodIn_app (goodIn_of _ (by decide +kernel)) ggX7_setKind_X7_isKind
set_option maxRecDepth 20000 in
theorem ggX7_setFigure_X7_has : GoodIn wsX7_setFigure wsX7_has := goodIn_r _ [6, 7, 11, 12, 13, 14, 15, 16, 17] (by decide +kernel) (by decide +kernel)
set_option maxRecDepth 20000 in
theorem gX7_setFigure_X7_has : GoodIn wsX7_setFigure (wsV RX7 34 RX7 yX7_has wsX7_has) := goodIn_app (goodIn_of _ (by decide +kernel)) ggX7_setFigure_X7_has
set_option maxRecDepth 20000 in
theorem ggX7_setFigure_X7_isFigure : GoodIn wsX7_setFigure wsX7_isFigure := goodIn_r _ [10] (by decide +kernel) (by decide +kernel)
set_option maxRecDepth 20000 in
theorem gX7_setFigure_X7_isFigure : GoodIn wsX7_setFigure (va_wsS RX7 41 yX7_isFigure wsX7_isFigure) := goodIn_app (goodIn_of _ (by decide +kernel)) ggX7_setFigure_X7_isFigure
set_option maxRecDepth 20000 in
theorem ggX7_flipCause_X7_has : GoodIn wsX7_flipCause wsX7_has := goodIn_r _ [6, 7, 8, 9, 10, 11, 12, 13, 14] (by decide +kernel) (by decide +kernel)
set_option maxRecDepth 20000 in
theorem gX7_flipCause_X7_has : GoodIn wsX7_flipCause (wsV RX7 34 RX7 yX7_has wsX7_has) := goodIn_app (goodIn_of _ (by decide +kernel)) ggX7_flipCause_X7_has
set_option maxRecDepth 20000 in
theorem ggX7_lose_X7_has : GoodIn wsX7_lose wsX7_has := goodIn_r _ [6, 7, 13, 14, 15, 16, 17, 18, 19] (by decide +kernel) (by decide +kernel)
set_option maxRecDepth 20000 in
theorem gX7_lose_X7_has : GoodIn wsX7_lose (wsV RX7 34 RX7 yX7_has wsX7_has) := goodIn_app (goodIn_of _ (by decide +kernel)) ggX7_lose_X7_has
set_option maxRecDepth 20000 in
theorem ggX7_lose_X7_isGuarded : GoodIn wsX7_lose wsX7_isGuarded := goodIn_r _ [11, 12, 2, 3, 4, 5, 6, 7, 13, 14, 15, 16, 17, 18, 19] (by decide +kernel) (by decide +kernel)
set_option maxRecDepth 20000 in
theorem gX7_lose_X7_isGuarded : GoodIn wsX7_lose (wsV RX7 44 RX7 yX7_isGuarded wsX7_isGuarded) := goodIn_app (goodIn_of _ (by decide +kernel)) ggX7_lose_X7_isGuarded
set_option maxRecDepth 20000 in
theorem ggX7_mend_X7_has : GoodIn wsX7_mend wsX7_has := goodIn_r _ [6, 7, 8, 9, 10, 11, 12, 13, 14] (by decide +kernel) (by decide +kernel)
set_option maxRecDepth 20000 in
theorem gX7_mend_X7_has : GoodIn wsX7_mend (wsV RX7 34 RX7 yX7_has wsX7_has) := goodIn_app (goodIn_of _ (by decide +kernel)) ggX7_mend_X7_has
set_option maxRecDepth 20000 in
theorem ggX7_flipGuard_X7_has : GoodIn wsX7_flipGuard wsX7_has := goodIn_r _ [6, 7, 8, 9, 10, 11, 12, 13, 14] (by decide +kernel) (by decide +kernel)
set_option maxRecDepth 20000 in
theorem gX7_flipGuard_X7_has : GoodIn wsX7_flipGuard (wsV RX7 34 RX7 yX7_has wsX7_has) := goodIn_app (goodIn_of _ (by decide +kernel)) ggX7_flipGuard_X7_has
set_option maxRecDepth 20000 in
theorem ggX7_passDays_X7_behindDays : GoodIn wsX7_passDays wsX7_behindDays := goodIn_r _ [8, 9, 10, 11, 7, 12, 13, 14, 15, 16, 17, 18, 19, 20, 21, 22, 23, 24, 25, 26, 27, 28, 29, 30, 31, 32, 33, 34] (by decide +kernel) (by decide +kernel)
set_option maxRecDepth 20000 in
theorem gX7_passDays_X7_behindDays : GoodIn wsX7_passDays (wsV RX7 47 RX7 yX7_behindDays wsX7_behindDays) := goodIn_app (goodIn_of _ (by decide +kernel)) ggX7_passDays_X7_behindDays
set_option maxRecDepth 20000 in
theorem ggX7_behindDay_J6_bitCount_0f7a4 : GoodIn wsX7_behindDay wsJ6_bitCount_0f7a4 := goodIn_r _ [6, 7, 8, 9] (by decide +kernel) (by decide +kernel)
set_option maxRecDepth 20000 in
theorem gX7_behindDay_J6_bitCount_0f7a4 : GoodIn wsX7_behindDay (va_wsS RX7 51 yJ6_bitCount_0f7a4 wsJ6_bitCount_0f7a4) := goodIn_app (goodIn_of _ (by decide +kernel)) ggX7_behindDay_J6_bitCount_0f7a4
set_option maxRecDepth 20000 in
theorem ggX7_behindDay_X7_needed : GoodIn wsX7_behindDay wsX7_needed := goodIn_r _ [14, 15, 16, 17, 18, 19, 20, 21, 22, 23] (by decide +kernel) (by decide +kernel)
set_option maxRecDepth 20000 in
theorem gX7_behindDay_X7_needed : GoodIn wsX7_behindDay (wsV RX7 57 RX7 yX7_needed wsX7_needed) := goodIn_app (goodIn_of _ (by decide +kernel)) ggX7_behindDay_X7_needed
set_option maxRecDepth 20000 in
theorem ggX7_behindDays_X7_behindDay : GoodIn wsX7_behindDays wsX7_behindDay := goodIn_r _ [5, 6, 7, 8, 9, 10, 11, 12, 13, 14, 15, 16, 17, 4, 18, 19, 20, 21, 22, 23, 24, 25, 26, 27] (by decide +kernel) (by decide +kernel)
set_option maxRecDepth 20000 in
theorem gX7_behindDays_X7_behindDay : GoodIn wsX7_behindDays (wsV RX7 61 RX7 yX7_behindDay wsX7_behindDay) := goodIn_app (goodIn_of _ (by decide +kernel)) ggX7_behindDays_X7_behindDay
set_option maxRecDepth 20000 in
theorem ggX7_withoutCauses_X7_causesOf : GoodIn wsX7_withoutCauses wsX7_causesOf := goodIn_r _ [6, 7, 8, 9, 10, 5, 11, 1, 12, 13, 14, 15, 16, 17, 18] (by decide +kernel) (by decide +kernel)
set_option maxRecDepth 20000 in
theorem gX7_withoutCauses_X7_causesOf : GoodIn wsX7_withoutCauses (wsV RX7 64 RX7 yX7_causesOf wsX7_causesOf) := goodIn_app (goodIn_of _ (by decide +kernel)) ggX7_withoutCauses_X7_causesOf
set_option maxRecDepth 20000 in
theorem ggX7_open_X7_all : GoodIn wsX7_open wsX7_all := goodIn_r _ [7, 8, 9, 10, 11, 12, 13, 14, 15] (by decide +kernel) (by decide +kernel)
set_option maxRecDepth 20000 in
theorem gX7_open_X7_all : GoodIn wsX7_open (wsV RX7 67 RX7 yX7_all wsX7_all) := goodIn_app (goodIn_of _ (by decide +kernel)) ggX7_open_X7_all
set_option maxRecDepth 20000 in
theorem ggX7_openNails_X7_withoutCauses : GoodIn wsX7_openNails wsX7_withoutCauses := goodIn_r _ [5, 6, 7, 8, 9, 4, 10, 11, 12, 13, 14, 15, 26, 27, 28, 29, 30, 31, 32] (by decide +kernel) (by decide +kernel)
set_option maxRecDepth 20000 in
theorem gX7_openNails_X7_withoutCauses : GoodIn wsX7_openNails (wsV RX7 71 RX7 yX7_withoutCauses wsX7_withoutCauses) := goodIn_app (goodIn_of _ (by decide +kernel)) ggX7_openNails_X7_withoutCauses
set_option maxRecDepth 20000 in
theorem ggX7_openNails_X7_open : GoodIn wsX7_openNails wsX7_open := goodIn_r _ [19, 20, 21, 22, 23, 24, 4, 25, 6, 26, 27, 28, 29, 30, 31, 32] (by decide +kernel) (by decide +kernel)
set_option maxRecDepth 20000 in
theorem gX7_openNails_X7_open : GoodIn wsX7_openNails (wsV RX7 74 RX7 yX7_open wsX7_open) := goodIn_app (goodIn_of _ (by decide +kernel)) ggX7_openNails_X7_open
set_option maxRecDepth 20000 in
theorem ggX7_allCauses_X7_causesOf : GoodIn wsX7_allCauses wsX7_causesOf := goodIn_r _ [6, 7, 8, 9, 10, 5, 11, 1, 19, 20, 21, 22, 23, 24, 25] (by decide +kernel) (by decide +kernel)
set_option maxRecDepth 20000 in
theorem gX7_allCauses_X7_causesOf : GoodIn wsX7_allCauses (wsV RX7 64 RX7 yX7_causesOf wsX7_causesOf) := goodIn_app (goodIn_of _ (by decide +kernel)) ggX7_allCauses_X7_causesOf
set_option maxRecDepth 20000 in
theorem ggX7_allCauses_J6_bitCount_0f7a4 : GoodIn wsX7_allCauses wsJ6_bitCount_0f7a4 := goodIn_r _ [15, 16, 17, 18] (by decide +kernel) (by decide +kernel)
set_option maxRecDepth 20000 in
theorem gX7_allCauses_J6_bitCount_0f7a4 : GoodIn wsX7_allCauses (va_wsS RX7 51 yJ6_bitCount_0f7a4 wsJ6_bitCount_0f7a4) := goodIn_app (goodIn_of _ (by decide +kernel)) ggX7_allCauses_J6_bitCount_0f7a4
set_option maxRecDepth 20000 in
theorem ggX7_rootsOf_X7_causesOf : GoodIn wsX7_rootsOf wsX7_causesOf := goodIn_r _ [5, 6, 7, 8, 9, 4, 10, 11, 12, 13, 14, 15, 16, 17, 18] (by decide +kernel) (by decide +kernel)
set_option maxRecDepth 20000 in
theorem gX7_rootsOf_X7_causesOf : GoodIn wsX7_rootsOf (wsV RX7 64 RX7 yX7_causesOf wsX7_causesOf) := goodIn_app (goodIn_of _ (by decide +kernel)) ggX7_rootsOf_X7_causesOf
set_option maxRecDepth 20000 in
theorem ggX7_fruitsOf_X7_rootsOf : GoodIn wsX7_fruitsOf wsX7_rootsOf := goodIn_r _ [6, 7, 8, 9, 5, 10, 11, 12, 13, 14, 15, 1, 16, 17, 18, 19, 20, 21, 22] (by decide +kernel) (by decide +kernel)
set_option maxRecDepth 20000 in
theorem gX7_fruitsOf_X7_rootsOf : GoodIn wsX7_fruitsOf (wsV RX7 77 RX7 yX7_rootsOf wsX7_rootsOf) := goodIn_app (goodIn_of _ (by decide +kernel)) ggX7_fruitsOf_X7_rootsOf
set_option maxRecDepth 20000 in
theorem ggX7_depthOf_X7_causesOf : GoodIn wsX7_depthOf wsX7_causesOf := goodIn_r _ [5, 6, 7, 8, 9, 4, 10, 11, 16, 17, 18, 19, 20, 21, 22] (by decide +kernel) (by decide +kernel)
set_option maxRecDepth 20000 in
theorem gX7_depthOf_X7_causesOf : GoodIn wsX7_depthOf (wsV RX7 64 RX7 yX7_causesOf wsX7_causesOf) := goodIn_app (goodIn_of _ (by decide +kernel)) ggX7_depthOf_X7_causesOf
set_option maxRecDepth 20000 in
theorem ggX7_depthOf_X7_causesOfThese : GoodIn wsX7_depthOf wsX7_causesOfThese := goodIn_r _ [15, 11, 1, 2, 3, 4, 5, 6, 7, 8, 9, 10, 16, 17, 18, 19, 20, 21, 22] (by decide +kernel) (by decide +kernel)
set_option maxRecDepth 20000 in
theorem gX7_depthOf_X7_causesOfThese : GoodIn wsX7_depthOf (wsV RX7 80 RX7 yX7_causesOfThese wsX7_causesOfThese) := goodIn_app (goodIn_of _ (by decide +kernel)) ggX7_depthOf_X7_causesOfThese
set_option maxRecDepth 20000 in
theorem ggX7_causesOfThese_X7_causesOf : GoodIn wsX7_causesOfThese wsX7_causesOf := goodIn_r _ [6, 7, 8, 9, 10, 5, 11, 1, 12, 13, 14, 15, 16, 17, 18] (by decide +kernel) (by decide +kernel)
set_option maxRecDepth 20000 in
theorem gX7_causesOfThese_X7_causesOf : GoodIn wsX7_causesOfThese (wsV RX7 64 RX7 yX7_causesOf wsX7_causesOf) := goodIn_app (goodIn_of _ (by decide +kernel)) ggX7_causesOfThese_X7_causesOf
set_option maxRecDepth 20000 in
theorem ggX7_withMostFruits_X7_fruitsOf : GoodIn wsX7_withMostFruits wsX7_fruitsOf := goodIn_r _ [6, 1, 7, 8, 9, 5, 10, 11, 12, 13, 14, 15, 16, 17, 18, 19, 27, 28, 29, 30, 31, 32, 33] (by decide +kernel) (by decide +kernel)
set_option maxRecDepth 20000 in
theorem gX7_withMostFruits_X7_fruitsOf : GoodIn wsX7_withMostFruits (wsV RX7 83 RX7 yX7_fruitsOf wsX7_fruitsOf) := goodIn_app (goodIn_of _ (by decide +kernel)) ggX7_withMostFruits_X7_fruitsOf
set_option maxRecDepth 20000 in
theorem ggX7_withMostFruits_J6_bitCount_0f7a4 : GoodIn wsX7_withMostFruits wsJ6_bitCount_0f7a4 := goodIn_r _ [23, 24, 25, 26] (by decide +kernel) (by decide +kernel)
set_option maxRecDepth 20000 in
theorem gX7_withMostFruits_J6_bitCount_0f7a4 : GoodIn wsX7_withMostFruits (va_wsS RX7 51 yJ6_bitCount_0f7a4 wsJ6_bitCount_0f7a4) := goodIn_app (goodIn_of _ (by decide +kernel)) ggX7_withMostFruits_J6_bitCount_0f7a4
set_option maxRecDepth 20000 in
theorem ggX7_areTwins_X7_kindOf : GoodIn wsX7_areTwins wsX7_kindOf := goodIn_r _ [5, 6, 7, 8, 9, 4, 10, 11, 17, 18, 19, 20, 21, 22, 23] (by decide +kernel) (by decide +kernel)
set_option maxRecDepth 20000 in
theorem gX7_areTwins_X7_kindOf : GoodIn wsX7_areTwins (wsV RX7 86 RX7 yX7_kindOf wsX7_kindOf) := goodIn_app (goodIn_of _ (by decide +kernel)) ggX7_areTwins_X7_kindOf
set_option maxRecDepth 20000 in
theorem ggX7_areTwins_X7_causesOf : GoodIn wsX7_areTwins wsX7_causesOf := goodIn_r _ [15, 16, 7, 8, 9, 4, 10, 11, 17, 18, 19, 20, 21, 22, 23] (by decide +kernel) (by decide +kernel)
set_option maxRecDepth 20000 in
theorem gX7_areTwins_X7_causesOf : GoodIn wsX7_areTwins (wsV RX7 64 RX7 yX7_causesOf wsX7_causesOf) := goodIn_app (goodIn_of _ (by decide +kernel)) ggX7_areTwins_X7_causesOf
set_option maxRecDepth 20000 in
theorem ggX7_howManyTwins_X7_areTwins : GoodIn wsX7_howManyTwins wsX7_areTwins := goodIn_r _ [6, 7, 8, 9, 5, 10, 11, 12, 13, 14, 15, 1, 16, 17, 18, 19, 20, 21, 22, 23, 24, 25, 26, 27] (by decide +kernel) (by decide +kernel)
set_option maxRecDepth 20000 in
theorem gX7_howManyTwins_X7_areTwins : GoodIn wsX7_howManyTwins (wsV RX7 89 RX7 yX7_areTwins wsX7_areTwins) := goodIn_app (goodIn_of _ (by decide +kernel)) ggX7_howManyTwins_X7_areTwins
set_option maxRecDepth 20000 in
theorem ggX7_firstTwins_X7_areTwins : GoodIn wsX7_firstTwins wsX7_areTwins := goodIn_r _ [6, 7, 8, 9, 5, 10, 11, 12, 13, 14, 15, 1, 16, 17, 18, 19, 20, 21, 22, 23, 24, 25, 26, 27] (by decide +kernel) (by decide +kernel)
set_option maxRecDepth 20000 in
theorem gX7_firstTwins_X7_areTwins : GoodIn wsX7_firstTwins (wsV RX7 89 RX7 yX7_areTwins wsX7_areTwins) := goodIn_app (goodIn_of _ (by decide +kernel)) ggX7_firstTwins_X7_areTwins
set_option maxRecDepth 20000 in
theorem ggX8_add_X8_isFull : GoodIn wsX8_add wsX8_isFull := goodIn_r _ [7, 2, 8, 9] (by decide +kernel) (by decide +kernel)
set_option maxRecDepth 20000 in
theorem gX8_add_X8_isFull : GoodIn wsX8_add (wsV RX8 17 RX8 yX8_isFull wsX8_isFull) := goodIn_app (goodIn_of _ (by decide +kernel)) ggX8_add_X8_isFull
set_option maxRecDepth 20000 in
theorem ggX8_faultOfForm_X8_at : GoodIn wsX8_faultOfForm wsX8_at := goodIn_r _ [6, 1, 7, 106, 107] (by decide +kernel) (by decide +kernel)
set_option maxRecDepth 20000 in
theorem gX8_faultOfForm_X8_at : GoodIn wsX8_faultOfForm (wsV RX8 21 RX8 yX8_at wsX8_at) := goodIn_app (goodIn_of _ (by decide +kernel)) ggX8_faultOfForm_X8_at
set_option maxRecDepth 20000 in
theorem ggX8_faultOfForm_X8_lengthBy : GoodIn wsX8_faultOfForm wsX8_lengthBy := goodIn_r _ [10] (by decide +kernel) (by decide +kernel)
set_option maxRecDepth 20000 in
theorem gX8_faultOfForm_X8_lengthBy : GoodIn wsX8_faultOfForm (va_wsS RX8 25 yX8_lengthBy wsX8_lengthBy) := goodIn_app (goodIn_of _ (by decide +kernel)) ggX8_faultOfForm_X8_lengthBy
set_option maxRecDepth 20000 in
theorem ggX8_faultOfForm_X8_goesOn : GoodIn wsX8_faultOfForm wsX8_goesOn := goodIn_r _ [13, 14, 15, 5, 16, 17, 18, 19, 20, 21, 22, 23, 24, 25, 26, 27, 28, 29, 30, 31, 32, 33, 34, 35, 36, 37, 38, 39, 40, 41, 42, 43, 44, 45, 46, 47, 48, 49, 50, 51, 52, 53, 54, 55, 56, 57, 58, 59, 60, 61, 62, 63, 64, 65, 66, 67, 68, 69, 70, 71, 72, 73, 74, 75, 76, 77, 78, 79, 80, 81, 82, 83, 84, 85, 86, 87, 88, 89, 90, 91, 92, 93, 94, 95, 96, 97, 98, 99, 100, 101, 102, 103, 104, 105] (by decide +kernel) (by decide +kernel)
set_option maxRecDepth 20000 in
theorem gX8_faultOfForm_X8_goesOn : GoodIn wsX8_faultOfForm (va_wsS RX8 28 yX8_goesOn wsX8_goesOn) := goodIn_app (goodIn_of _ (by decide +kernel)) ggX8_faultOfForm_X8_goesOn
set_option maxRecDepth 20000 in
theorem ggX8_goesOn_X8_kindBy : GoodIn wsX8_goesOn wsX8_kindBy := goodIn_r _ [4, 5, 6, 7, 8, 9, 10, 11, 12, 13, 14, 15, 16, 17, 18, 19, 20, 21, 22, 23, 24, 25, 26, 27, 28, 29, 30, 31, 32, 33, 34, 35, 36, 37, 38, 39, 40, 41, 42, 43, 44, 45, 46, 47, 48, 49, 50, 51, 52, 53, 54, 55, 56, 57, 58, 59, 60, 61, 62, 63, 64, 65, 66, 67, 68, 69, 70, 71, 72, 73, 74, 75, 76, 77, 78, 79, 80, 81, 82, 83, 84, 85, 86, 87, 88, 89, 90, 91, 92, 93] (by decide +kernel) (by decide +kernel)
set_option maxRecDepth 20000 in
theorem gX8_goesOn_X8_kindBy : GoodIn wsX8_goesOn (va_wsS RX8 32 yX8_kindBy wsX8_kindBy) := goodIn_app (goodIn_of _ (by decide +kernel)) ggX8_goesOn_X8_kindBy
set_option maxRecDepth 20000 in
theorem ggX8_kindBy_J0_indexOf_0f7a4 : GoodIn wsX8_kindBy wsJ0_indexOf_0f7a4 := goodIn_r _ [5, 6, 7, 8, 4, 9, 10, 11, 12, 13, 14, 15, 16, 17, 18, 19, 20, 21, 22, 23, 24, 25, 26, 27, 28, 29, 30, 31, 32, 33, 34, 35, 36, 37, 38, 39, 40, 41, 42, 43, 44, 45, 46, 47, 48, 49, 50, 51, 52, 53, 54, 55, 56, 57, 58, 59, 60, 61, 62, 63, 64, 65, 66, 67, 68, 69, 70, 71, 72, 73, 74, 75, 76, 77, 78, 79, 80, 81, 82, 83, 84, 85, 86, 87, 88, 89] (by decide +kernel) (by decide +kernel)
set_option maxRecDepth 20000 in
theorem gX8_kindBy_J0_indexOf_0f7a4 : GoodIn wsX8_kindBy (wsV RX8 37 RJ0 yJ0_indexOf_0f7a4 wsJ0_indexOf_0f7a4) := goodIn_app (goodIn_of _ (by decide +kernel)) ggX8_kindBy_J0_indexOf_0f7a4
set_option maxRecDepth 20000 in
theorem ggX8_comeOver_X8_comes : GoodIn wsX8_comeOver wsX8_comes := goodIn_r _ [10, 11, 12, 13, 9, 14, 1, 15, 16, 17, 18, 19, 20, 21, 22, 23, 24, 25, 26, 27, 28, 29, 30, 31, 32, 33, 34, 35, 36, 37, 38, 39, 40, 41, 42, 43, 44, 45, 46, 47, 3, 4, 5, 48, 49, 50, 51, 52, 53, 54, 55, 56, 57, 58, 59, 60, 61, 62, 63, 64, 65, 66, 67, 68, 69, 70, 71, 72, 73, 74, 75, 76, 77, 78, 79, 80, 81, 82, 83, 84, 85, 86, 87, 88, 89, 90, 91, 92, 93, 94, 95, 96, 97, 98, 99, 100, 101, 102, 103, 104, 105, 106, 107, 108, 109, 110, 111, 112, 113, 114, 115, 116, 117, 118, 119, 120, 121, 122, 123, 124, 125, 126, 127, 128, 129, 130, 131, 132, 133, 134, 135, 136, 137, 138, 139, 140, 141, 142, 143, 144, 145, 146, 147, 148, 149, 150, 151, 152, 153, 154, 155, 156, 157, 158, 159, 160, 161, 162, 163, 164, 165, 166, 167, 168, 169, 173, 174, 175, 176, 177, 178, 179, 180, 181] (by decide +kernel) (by decide +kernel)
set_option maxRecDepth 20000 in
theorem gX8_comeOver_X8_comes : GoodIn wsX8_comeOver (wsV RX8 42 RX8 yX8_comes wsX8_comes) := goodIn_app (goodIn_of _ (by decide +kernel)) ggX8_comeOver_X8_comes
set_option maxRecDepth 20000 in
theorem ggX8_comeOver_X8_at : GoodIn wsX8_comeOver wsX8_at := goodIn_r _ [14, 1, 15, 173, 174] (by decide +kernel) (by decide +kernel)
set_option maxRecDepth 20000 in
theorem gX8_comeOver_X8_at : GoodIn wsX8_comeOver (wsV RX8 21 RX8 yX8_at wsX8_at) := goodIn_app (goodIn_of _ (by decide +kernel)) ggX8_comeOver_X8_at
set_option maxRecDepth 20000 in
theorem ggX8_comeOver_X8_lengthBy : GoodIn wsX8_comeOver wsX8_lengthBy := goodIn_r _ [172] (by decide +kernel) (by decide +kernel)
set_option maxRecDepth 20000 in
theorem gX8_comeOver_X8_lengthBy : GoodIn wsX8_comeOver (va_wsS RX8 25 yX8_lengthBy wsX8_lengthBy) := goodIn_app (goodIn_of _ (by decide +kernel)) ggX8_comeOver_X8_lengthBy
set_option maxRecDepth 20000 in
theorem ggX8_comes_X8_at : GoodIn wsX8_comes wsX8_at := goodIn_r _ [5, 6, 7, 165, 166] (by decide +kernel) (by decide +kernel)
set_option maxRecDepth 20000 in
theorem gX8_comes_X8_at : GoodIn wsX8_comes (wsV RX8 21 RX8 yX8_at wsX8_at) := goodIn_app (goodIn_of _ (by decide +kernel)) ggX8_comes_X8_at
set_option maxRecDepth 20000 in
theorem ggX8_comes_X8_kindBy : GoodIn wsX8_comes wsX8_kindBy := goodIn_r _ [10, 11, 12, 13, 14, 15, 16, 17, 18, 19, 20, 21, 22, 23, 24, 25, 26, 27, 28, 29, 30, 31, 32, 33, 34, 35, 36, 37, 38, 39, 40, 41, 42, 43, 44, 45, 46, 47, 48, 49, 50, 51, 52, 53, 54, 55, 56, 57, 58, 59, 60, 61, 62, 63, 64, 65, 66, 67, 68, 69, 70, 71, 72, 73, 74, 75, 76, 77, 78, 79, 80, 81, 82, 83, 84, 85, 86, 87, 88, 89, 90, 91, 92, 93, 94, 95, 96, 97, 98, 99] (by decide +kernel) (by decide +kernel)
set_option maxRecDepth 20000 in
theorem gX8_comes_X8_kindBy : GoodIn wsX8_comes (va_wsS RX8 32 yX8_kindBy wsX8_kindBy) := goodIn_app (goodIn_of _ (by decide +kernel)) ggX8_comes_X8_kindBy
set_option maxRecDepth 20000 in
theorem ggX8_comes_X7_add : GoodIn wsX8_comes wsX7_add := goodIn_r _ [104, 105, 106, 107, 108, 109, 110, 103, 111, 112, 113, 114, 167, 168, 169, 170, 171, 172, 173] (by decide +kernel) (by decide +kernel)
set_option maxRecDepth 20000 in
theorem gX8_comes_X7_add : GoodIn wsX8_comes (wsV RX8 52 RX7 yX7_add wsX7_add) := goodIn_app (goodIn_of _ (by decide +kernel)) ggX8_comes_X7_add
set_option maxRecDepth 20000 in
theorem ggX8_comes_X7_flipCause : GoodIn wsX8_comes wsX7_flipCause := goodIn_r _ [118, 108, 119, 120, 121, 103, 122, 105, 167, 168, 169, 170, 171, 172, 173] (by decide +kernel) (by decide +kernel)
set_option maxRecDepth 20000 in
theorem gX8_comes_X7_flipCause : GoodIn wsX8_comes (wsV RX8 58 RX7 yX7_flipCause wsX7_flipCause) := goodIn_app (goodIn_of _ (by decide +kernel)) ggX8_comes_X7_flipCause
set_option maxRecDepth 20000 in
theorem ggX8_comes_X7_lose : GoodIn wsX8_comes wsX7_lose := goodIn_r _ [126, 127, 119, 120, 121, 103, 122, 105, 128, 129, 130, 131, 132, 167, 168, 169, 170, 171, 172, 173] (by decide +kernel) (by decide +kernel)
set_option maxRecDepth 20000 in
theorem gX8_comes_X7_lose : GoodIn wsX8_comes (wsV RX8 61 RX7 yX7_lose wsX7_lose) := goodIn_app (goodIn_of _ (by decide +kernel)) ggX8_comes_X7_lose
set_option maxRecDepth 20000 in
theorem ggX8_comes_X7_mend : GoodIn wsX8_comes wsX7_mend := goodIn_r _ [136, 127, 119, 120, 121, 103, 122, 105, 167, 168, 169, 170, 171, 172, 173] (by decide +kernel) (by decide +kernel)
set_option maxRecDepth 20000 in
theorem gX8_comes_X7_mend : GoodIn wsX8_comes (wsV RX8 65 RX7 yX7_mend wsX7_mend) := goodIn_app (goodIn_of _ (by decide +kernel)) ggX8_comes_X7_mend
set_option maxRecDepth 20000 in
theorem ggX8_comes_X7_flipGuard : GoodIn wsX8_comes wsX7_flipGuard := goodIn_r _ [140, 132, 119, 120, 121, 103, 122, 105, 167, 168, 169, 170, 171, 172, 173] (by decide +kernel) (by decide +kernel)
set_option maxRecDepth 20000 in
theorem gX8_comes_X7_flipGuard : GoodIn wsX8_comes (wsV RX8 68 RX7 yX7_flipGuard wsX7_flipGuard) := goodIn_app (goodIn_of _ (by decide +kernel)) ggX8_comes_X7_flipGuard
set_option maxRecDepth 20000 in
theorem ggX8_comes_X7_passDays : GoodIn wsX8_comes wsX7_passDays := goodIn_r _ [144, 145, 127, 132, 146, 147, 148, 103, 149, 150, 151, 152, 153, 105, 108, 154, 155, 156, 157, 158, 159, 160, 161, 162, 163, 164, 106, 107, 167, 168, 169, 170, 171, 172, 173] (by decide +kernel) (by decide +kernel)
set_option maxRecDepth 20000 in
theorem gX8_comes_X7_passDays : GoodIn wsX8_comes (wsV RX8 71 RX7 yX7_passDays wsX7_passDays) := goodIn_app (goodIn_of _ (by decide +kernel)) ggX8_comes_X7_passDays
set_option maxRecDepth 20000 in
theorem ggX9_init_X7_init : GoodIn wsX9_init wsX7_init := goodIn_r _ [27, 28, 2, 3, 22, 29, 30, 31, 45, 46, 47, 48, 49, 50, 51] (by decide +kernel) (by decide +kernel)
set_option maxRecDepth 20000 in
theorem gX9_init_X7_init : GoodIn wsX9_init (wsX7_init) := ggX9_init_X7_init
set_option maxRecDepth 20000 in
theorem ggX9_init_X8_init : GoodIn wsX9_init wsX8_init := goodIn_r _ [34, 35, 2, 3, 22, 36, 60, 61] (by decide +kernel) (by decide +kernel)
set_option maxRecDepth 20000 in
theorem gX9_init_X8_init : GoodIn wsX9_init (wsX8_init) := ggX9_init_X8_init
set_option maxRecDepth 20000 in
theorem ggX9_init_X5_init : GoodIn wsX9_init wsX5_init := goodIn_r _ [39, 40, 2, 3, 22, 41, 62, 63] (by decide +kernel) (by decide +kernel)
set_option maxRecDepth 20000 in
theorem gX9_init_X5_init : GoodIn wsX9_init (wsX5_init) := ggX9_init_X5_init
set_option maxRecDepth 20000 in
theorem ggX9_init_X3_init : GoodIn wsX9_init wsX3_init := goodIn_r _ [43, 44, 2, 3] (by decide +kernel) (by decide +kernel)
set_option maxRecDepth 20000 in
theorem gX9_init_X3_init_n38 : GoodIn wsX9_init (wsX3_init) := ggX9_init_X3_init
set_option maxRecDepth 20000 in
theorem ggX9_letter_X9_refuse : GoodIn wsX9_letter wsX9_refuse := goodIn_r _ [6, 7, 20, 21, 22, 23, 24, 25, 26, 27] (by decide +kernel) (by decide +kernel)
set_option maxRecDepth 20000 in
theorem gX9_letter_X9_refuse : GoodIn wsX9_letter (wsV RX9 51 RX9 yX9_refuse wsX9_refuse) := goodIn_app (goodIn_of _ (by decide +kernel)) ggX9_letter_X9_refuse
set_option maxRecDepth 20000 in
theorem ggX9_letter_X8_isFull : GoodIn wsX9_letter wsX8_isFull := goodIn_r _ [12, 13, 28, 29] (by decide +kernel) (by decide +kernel)
set_option maxRecDepth 20000 in
theorem gX9_letter_X8_isFull : GoodIn wsX9_letter (wsV RX9 55 RX8 yX8_isFull wsX8_isFull) := goodIn_app (goodIn_of _ (by decide +kernel)) ggX9_letter_X8_isFull
set_option maxRecDepth 20000 in
theorem ggX9_letter_X8_add : GoodIn wsX9_letter wsX8_add := goodIn_r _ [17, 18, 13, 19, 9, 10, 11, 12, 28, 29] (by decide +kernel) (by decide +kernel)
set_option maxRecDepth 20000 in
theorem gX9_letter_X8_add : GoodIn wsX9_letter (wsV RX9 59 RX8 yX8_add wsX8_add) := goodIn_app (goodIn_of _ (by decide +kernel)) ggX9_letter_X8_add
set_option maxRecDepth 20000 in
theorem ggX9_state_X8_faultOfForm : GoodIn wsX9_state wsX8_faultOfForm := goodIn_r _ [8, 9, 10, 11, 12, 7, 13, 14, 15, 16, 17, 18, 19, 20, 21, 22, 23, 24, 25, 26, 27, 28, 29, 30, 31, 32, 33, 34, 35, 36, 37, 38, 39, 40, 41, 42, 43, 44, 45, 46, 47, 48, 49, 50, 51, 52, 53, 54, 55, 56, 57, 58, 59, 60, 61, 62, 63, 64, 65, 66, 67, 68, 69, 70, 71, 72, 73, 74, 75, 76, 77, 78, 79, 80, 81, 82, 83, 84, 85, 86, 87, 88, 89, 90, 91, 92, 93, 94, 95, 96, 97, 98, 99, 100, 101, 102, 103, 104, 105, 106, 107, 108, 109, 110, 111, 112, 203, 204] (by decide +kernel) (by decide +kernel)
set_option maxRecDepth 20000 in
theorem gX9_state_X8_faultOfForm : GoodIn wsX9_state (wsV RX9 62 RX8 yX8_faultOfForm wsX8_faultOfForm) := goodIn_app (goodIn_of _ (by decide +kernel)) ggX9_state_X8_faultOfForm
set_option maxRecDepth 20000 in
theorem ggX9_state_X7_becomes : GoodIn wsX9_state wsX7_becomes := goodIn_r _ [117, 118, 119, 120, 121, 122, 123, 124, 205, 206, 207, 208, 209, 210, 211] (by decide +kernel) (by decide +kernel)
set_option maxRecDepth 20000 in
theorem gX9_state_X7_becomes : GoodIn wsX9_state (wsV RX9 66 RX7 yX7_becomes wsX7_becomes) := goodIn_app (goodIn_of _ (by decide +kernel)) ggX9_state_X7_becomes
set_option maxRecDepth 20000 in
theorem ggX9_state_X8_comeOver : GoodIn wsX9_state wsX8_comeOver := goodIn_r _ [128, 9, 129, 53, 54, 55, 130, 131, 132, 7, 133, 10, 11, 12, 13, 14, 21, 22, 23, 24, 25, 26, 27, 28, 29, 30, 31, 32, 33, 34, 35, 36, 37, 38, 39, 40, 41, 42, 43, 44, 45, 46, 47, 48, 49, 50, 51, 52, 56, 57, 58, 59, 60, 61, 62, 63, 64, 65, 66, 67, 68, 69, 70, 71, 72, 73, 74, 75, 76, 77, 78, 79, 80, 81, 82, 83, 84, 85, 86, 87, 88, 89, 90, 91, 92, 93, 94, 95, 96, 97, 98, 99, 100, 101, 102, 103, 104, 105, 106, 107, 108, 109, 110, 111, 112, 134, 135, 136, 116, 137, 121, 118, 119, 120, 138, 139, 140, 141, 142, 143, 144, 145, 146, 147, 148, 149, 150, 151, 152, 153, 154, 155, 122, 156, 157, 158, 159, 123, 160, 161, 162, 163, 164, 165, 166, 167, 168, 169, 170, 171, 124, 172, 173, 174, 175, 176, 177, 178, 179, 180, 181, 182, 183, 184, 185, 186, 187, 188, 189, 190, 15, 16, 17, 203, 204, 205, 206, 207, 208, 209, 210, 211] (by decide +kernel) (by decide +kernel)
set_option maxRecDepth 20000 in
theorem gX9_state_X8_comeOver : GoodIn wsX9_state (wsV RX9 70 RX8 yX8_comeOver wsX8_comeOver) := goodIn_app (goodIn_of _ (by decide +kernel)) ggX9_state_X8_comeOver
set_option maxRecDepth 20000 in
theorem ggX9_state_X8_forget : GoodIn wsX9_state wsX8_forget := goodIn_r _ [194, 9, 203, 204] (by decide +kernel) (by decide +kernel)
set_option maxRecDepth 20000 in
theorem gX9_state_X8_forget : GoodIn wsX9_state (wsV RX9 74 RX8 yX8_forget wsX8_forget) := goodIn_app (goodIn_of _ (by decide +kernel)) ggX9_state_X8_forget
set_option maxRecDepth 20000 in
theorem ggX9_thing_X7_has : GoodIn wsX9_thing wsX7_has := goodIn_r _ [6, 7, 57, 58, 59, 60, 61, 62, 63] (by decide +kernel) (by decide +kernel)
set_option maxRecDepth 20000 in
theorem gX9_thing_X7_has : GoodIn wsX9_thing (wsV RX9 77 RX7 yX7_has wsX7_has) := goodIn_app (goodIn_of _ (by decide +kernel)) ggX9_thing_X7_has
set_option maxRecDepth 20000 in
theorem ggX9_thing_X9_refuse : GoodIn wsX9_thing wsX9_refuse := goodIn_r _ [12, 13, 49, 50, 51, 52, 53, 54, 55, 56] (by decide +kernel) (by decide +kernel)
set_option maxRecDepth 20000 in
theorem gX9_thing_X9_refuse : GoodIn wsX9_thing (wsV RX9 51 RX9 yX9_refuse wsX9_refuse) := goodIn_app (goodIn_of _ (by decide +kernel)) ggX9_thing_X9_refuse
set_option maxRecDepth 20000 in
theorem ggX9_thing_X7_kindOf : GoodIn wsX9_thing wsX7_kindOf := goodIn_r _ [17, 18, 19, 3, 4, 5, 6, 7, 57, 58, 59, 60, 61, 62, 63] (by decide +kernel) (by decide +kernel)
set_option maxRecDepth 20000 in
theorem gX9_thing_X7_kindOf : GoodIn wsX9_thing (wsV RX9 81 RX7 yX7_kindOf wsX7_kindOf) := goodIn_app (goodIn_of _ (by decide +kernel)) ggX9_thing_X7_kindOf
set_option maxRecDepth 20000 in
theorem ggX9_thing_X7_figureOf : GoodIn wsX9_thing wsX7_figureOf := goodIn_r _ [23, 24, 19, 3, 4, 5, 6, 7, 57, 58, 59, 60, 61, 62, 63] (by decide +kernel) (by decide +kernel)
set_option maxRecDepth 20000 in
theorem gX9_thing_X7_figureOf : GoodIn wsX9_thing (wsV RX9 84 RX7 yX7_figureOf wsX7_figureOf) := goodIn_app (goodIn_of _ (by decide +kernel)) ggX9_thing_X7_figureOf
set_option maxRecDepth 20000 in
theorem ggX9_thing_X7_causesOf : GoodIn wsX9_thing wsX7_causesOf := goodIn_r _ [28, 29, 19, 3, 4, 5, 6, 7, 57, 58, 59, 60, 61, 62, 63] (by decide +kernel) (by decide +kernel)
set_option maxRecDepth 20000 in
theorem gX9_thing_X7_causesOf : GoodIn wsX9_thing (wsV RX9 87 RX7 yX7_causesOf wsX7_causesOf) := goodIn_app (goodIn_of _ (by decide +kernel)) ggX9_thing_X7_causesOf
set_option maxRecDepth 20000 in
theorem ggX9_thing_X7_isLost : GoodIn wsX9_thing wsX7_isLost := goodIn_r _ [33, 34, 19, 3, 4, 5, 6, 7, 57, 58, 59, 60, 61, 62, 63] (by decide +kernel) (by decide +kernel)
set_option maxRecDepth 20000 in
theorem gX9_thing_X7_isLost : GoodIn wsX9_thing (wsV RX9 90 RX7 yX7_isLost wsX7_isLost) := goodIn_app (goodIn_of _ (by decide +kernel)) ggX9_thing_X7_isLost
set_option maxRecDepth 20000 in
theorem ggX9_thing_X7_isGuarded : GoodIn wsX9_thing wsX7_isGuarded := goodIn_r _ [38, 39, 19, 3, 4, 5, 6, 7, 57, 58, 59, 60, 61, 62, 63] (by decide +kernel) (by decide +kernel)
set_option maxRecDepth 20000 in
theorem gX9_thing_X7_isGuarded : GoodIn wsX9_thing (wsV RX9 93 RX7 yX7_isGuarded wsX7_isGuarded) := goodIn_app (goodIn_of _ (by decide +kernel)) ggX9_thing_X7_isGuarded
set_option maxRecDepth 20000 in
theorem ggX9_thing_X7_depthOf : GoodIn wsX9_thing wsX7_depthOf := goodIn_r _ [43, 44, 26, 27, 5, 28, 29, 19, 3, 4, 6, 7, 45, 46, 47, 48, 57, 58, 59, 60, 61, 62, 63] (by decide +kernel) (by decide +kernel)
set_option maxRecDepth 20000 in
theorem gX9_thing_X7_depthOf : GoodIn wsX9_thing (wsV RX9 96 RX7 yX7_depthOf wsX7_depthOf) := goodIn_app (goodIn_of _ (by decide +kernel)) ggX9_thing_X7_depthOf
set_option maxRecDepth 20000 in
theorem ggX9_causes_X7_has : GoodIn wsX9_causes wsX7_has := goodIn_r _ [6, 7, 32, 33, 34, 35, 36, 37, 38] (by decide +kernel) (by decide +kernel)
set_option maxRecDepth 20000 in
theorem gX9_causes_X7_has : GoodIn wsX9_causes (wsV RX9 77 RX7 yX7_has wsX7_has) := goodIn_app (goodIn_of _ (by decide +kernel)) ggX9_causes_X7_has
set_option maxRecDepth 20000 in
theorem ggX9_causes_X9_refuse : GoodIn wsX9_causes wsX9_refuse := goodIn_r _ [12, 13, 24, 25, 26, 27, 28, 29, 30, 31] (by decide +kernel) (by decide +kernel)
set_option maxRecDepth 20000 in
theorem gX9_causes_X9_refuse : GoodIn wsX9_causes (wsV RX9 51 RX9 yX9_refuse wsX9_refuse) := goodIn_app (goodIn_of _ (by decide +kernel)) ggX9_causes_X9_refuse
set_option maxRecDepth 20000 in
theorem ggX9_causes_X7_flipCause : GoodIn wsX9_causes wsX7_flipCause := goodIn_r _ [17, 18, 19, 3, 4, 5, 6, 7, 32, 33, 34, 35, 36, 37, 38] (by decide +kernel) (by decide +kernel)
set_option maxRecDepth 20000 in
theorem gX9_causes_X7_flipCause : GoodIn wsX9_causes (wsV RX9 99 RX7 yX7_flipCause wsX7_flipCause) := goodIn_app (goodIn_of _ (by decide +kernel)) ggX9_causes_X7_flipCause
set_option maxRecDepth 20000 in
theorem ggX9_causes_X7_causesOf : GoodIn wsX9_causes wsX7_causesOf := goodIn_r _ [23, 18, 19, 3, 4, 5, 6, 7, 32, 33, 34, 35, 36, 37, 38] (by decide +kernel) (by decide +kernel)
set_option maxRecDepth 20000 in
theorem gX9_causes_X7_causesOf : GoodIn wsX9_causes (wsV RX9 87 RX7 yX7_causesOf wsX7_causesOf) := goodIn_app (goodIn_of _ (by decide +kernel)) ggX9_causes_X7_causesOf
set_option maxRecDepth 20000 in
theorem ggX9_loses_X7_has : GoodIn wsX9_loses wsX7_has := goodIn_r _ [6, 7, 44, 45, 46, 47, 48, 49, 50] (by decide +kernel) (by decide +kernel)
set_option maxRecDepth 20000 in
theorem gX9_loses_X7_has : GoodIn wsX9_loses (wsV RX9 77 RX7 yX7_has wsX7_has) := goodIn_app (goodIn_of _ (by decide +kernel)) ggX9_loses_X7_has
set_option maxRecDepth 20000 in
theorem ggX9_loses_X9_refuse : GoodIn wsX9_loses wsX9_refuse := goodIn_r _ [12, 13, 36, 37, 38, 39, 40, 41, 42, 43] (by decide +kernel) (by decide +kernel)
set_option maxRecDepth 20000 in
theorem gX9_loses_X9_refuse : GoodIn wsX9_loses (wsV RX9 51 RX9 yX9_refuse wsX9_refuse) := goodIn_app (goodIn_of _ (by decide +kernel)) ggX9_loses_X9_refuse
set_option maxRecDepth 20000 in
theorem ggX9_loses_X7_isLost : GoodIn wsX9_loses wsX7_isLost := goodIn_r _ [17, 18, 19, 3, 4, 5, 6, 7, 44, 45, 46, 47, 48, 49, 50] (by decide +kernel) (by decide +kernel)
set_option maxRecDepth 20000 in
theorem gX9_loses_X7_isLost : GoodIn wsX9_loses (wsV RX9 90 RX7 yX7_isLost wsX7_isLost) := goodIn_app (goodIn_of _ (by decide +kernel)) ggX9_loses_X7_isLost
set_option maxRecDepth 20000 in
theorem ggX9_loses_X7_lose : GoodIn wsX9_loses wsX7_lose := goodIn_r _ [23, 18, 19, 3, 4, 5, 6, 7, 24, 25, 26, 27, 28, 44, 45, 46, 47, 48, 49, 50] (by decide +kernel) (by decide +kernel)
set_option maxRecDepth 20000 in
theorem gX9_loses_X7_lose : GoodIn wsX9_loses (wsV RX9 103 RX7 yX7_lose wsX7_lose) := goodIn_app (goodIn_of _ (by decide +kernel)) ggX9_loses_X7_lose
set_option maxRecDepth 20000 in
theorem ggX9_loses_J6_bitCount_0f7a4 : GoodIn wsX9_loses wsJ6_bitCount_0f7a4 := goodIn_r _ [32, 33, 34, 35] (by decide +kernel) (by decide +kernel)
set_option maxRecDepth 20000 in
theorem gX9_loses_J6_bitCount_0f7a4 : GoodIn wsX9_loses (va_wsS RX9 110 yJ6_bitCount_0f7a4 wsJ6_bitCount_0f7a4) := goodIn_app (goodIn_of _ (by decide +kernel)) ggX9_loses_J6_bitCount_0f7a4
set_option maxRecDepth 20000 in
theorem ggX9_mends_X7_has : GoodIn wsX9_mends wsX7_has := goodIn_r _ [6, 7, 39, 40, 41, 42, 43, 44, 45] (by decide +kernel) (by decide +kernel)
set_option maxRecDepth 20000 in
theorem gX9_mends_X7_has : GoodIn wsX9_mends (wsV RX9 77 RX7 yX7_has wsX7_has) := goodIn_app (goodIn_of _ (by decide +kernel)) ggX9_mends_X7_has
set_option maxRecDepth 20000 in
theorem ggX9_mends_X9_refuse : GoodIn wsX9_mends wsX9_refuse := goodIn_r _ [12, 13, 31, 32, 33, 34, 35, 36, 37, 38] (by decide +kernel) (by decide +kernel)
set_option maxRecDepth 20000 in
theorem gX9_mends_X9_refuse : GoodIn wsX9_mends (wsV RX9 51 RX9 yX9_refuse wsX9_refuse) := goodIn_app (goodIn_of _ (by decide +kernel)) ggX9_mends_X9_refuse
set_option maxRecDepth 20000 in
theorem ggX9_mends_X7_isLost : GoodIn wsX9_mends wsX7_isLost := goodIn_r _ [17, 18, 19, 3, 4, 5, 6, 7, 39, 40, 41, 42, 43, 44, 45] (by decide +kernel) (by decide +kernel)
set_option maxRecDepth 20000 in
theorem gX9_mends_X7_isLost : GoodIn wsX9_mends (wsV RX9 90 RX7 yX7_isLost wsX7_isLost) := goodIn_app (goodIn_of _ (by decide +kernel)) ggX9_mends_X7_isLost
set_option maxRecDepth 20000 in
theorem ggX9_mends_X7_mend : GoodIn wsX9_mends wsX7_mend := goodIn_r _ [23, 18, 19, 3, 4, 5, 6, 7, 39, 40, 41, 42, 43, 44, 45] (by decide +kernel) (by decide +kernel)
set_option maxRecDepth 20000 in
theorem gX9_mends_X7_mend : GoodIn wsX9_mends (wsV RX9 115 RX7 yX7_mend wsX7_mend) := goodIn_app (goodIn_of _ (by decide +kernel)) ggX9_mends_X7_mend
set_option maxRecDepth 20000 in
theorem ggX9_mends_J6_bitCount_0f7a4 : GoodIn wsX9_mends wsJ6_bitCount_0f7a4 := goodIn_r _ [27, 28, 29, 30] (by decide +kernel) (by decide +kernel)
set_option maxRecDepth 20000 in
theorem gX9_mends_J6_bitCount_0f7a4 : GoodIn wsX9_mends (va_wsS RX9 110 yJ6_bitCount_0f7a4 wsJ6_bitCount_0f7a4) := goodIn_app (goodIn_of _ (by decide +kernel)) ggX9_mends_J6_bitCount_0f7a4
set_option maxRecDepth 20000 in
theorem ggX9_guards_X7_flipGuard : GoodIn wsX9_guards wsX7_flipGuard := goodIn_r _ [6, 7, 8, 9, 10, 5, 11, 12, 31, 32, 33, 34, 35, 36, 37] (by decide +kernel) (by decide +kernel)
set_option maxRecDepth 20000 in
theorem gX9_guards_X7_flipGuard : GoodIn wsX9_guards (wsV RX9 118 RX7 yX7_flipGuard wsX7_flipGuard) := goodIn_app (goodIn_of _ (by decide +kernel)) ggX9_guards_X7_flipGuard
set_option maxRecDepth 20000 in
theorem ggX9_guards_X9_refuse : GoodIn wsX9_guards wsX9_refuse := goodIn_r _ [17, 18, 23, 24, 25, 26, 27, 28, 29, 30] (by decide +kernel) (by decide +kernel)
set_option maxRecDepth 20000 in
theorem gX9_guards_X9_refuse : GoodIn wsX9_guards (wsV RX9 51 RX9 yX9_refuse wsX9_refuse) := goodIn_app (goodIn_of _ (by decide +kernel)) ggX9_guards_X9_refuse
set_option maxRecDepth 20000 in
theorem ggX9_guards_X7_isGuarded : GoodIn wsX9_guards wsX7_isGuarded := goodIn_r _ [22, 7, 8, 9, 10, 5, 11, 12, 31, 32, 33, 34, 35, 36, 37] (by decide +kernel) (by decide +kernel)
set_option maxRecDepth 20000 in
theorem gX9_guards_X7_isGuarded : GoodIn wsX9_guards (wsV RX9 93 RX7 yX7_isGuarded wsX7_isGuarded) := goodIn_app (goodIn_of _ (by decide +kernel)) ggX9_guards_X7_isGuarded
set_option maxRecDepth 20000 in
theorem ggX9_turn_X7_has : GoodIn wsX9_turn wsX7_has := goodIn_r _ [6, 7, 51, 52, 53, 54, 55, 56, 57] (by decide +kernel) (by decide +kernel)
set_option maxRecDepth 20000 in
theorem gX9_turn_X7_has : GoodIn wsX9_turn (wsV RX9 77 RX7 yX7_has wsX7_has) := goodIn_app (goodIn_of _ (by decide +kernel)) ggX9_turn_X7_has
set_option maxRecDepth 20000 in
theorem ggX9_turn_X9_refuse : GoodIn wsX9_turn wsX9_refuse := goodIn_r _ [12, 13, 43, 44, 45, 46, 47, 48, 49, 50] (by decide +kernel) (by decide +kernel)
set_option maxRecDepth 20000 in
theorem gX9_turn_X9_refuse : GoodIn wsX9_turn (wsV RX9 51 RX9 yX9_refuse wsX9_refuse) := goodIn_app (goodIn_of _ (by decide +kernel)) ggX9_turn_X9_refuse
set_option maxRecDepth 20000 in
theorem ggX9_turn_X7_isKind : GoodIn wsX9_turn wsX7_isKind := goodIn_r _ [16] (by decide +kernel) (by decide +kernel)
set_option maxRecDepth 20000 in
theorem gX9_turn_X7_isKind : GoodIn wsX9_turn (va_wsS RX9 121 yX7_isKind wsX7_isKind) := goodIn_app (goodIn_of _ (by decide +kernel)) ggX9_turn_X7_isKind
set_option maxRecDepth 20000 in
theorem ggX9_turn_X9_outside : GoodIn wsX9_turn wsX9_outside := goodIn_r _ [19] (by decide +kernel) (by decide +kernel)
set_option maxRecDepth 20000 in
theorem gX9_turn_X9_outside : GoodIn wsX9_turn (va_wsS RX9 124 yX9_outside wsX9_outside) := goodIn_app (goodIn_of _ (by decide +kernel)) ggX9_turn_X9_outside
set_option maxRecDepth 20000 in
theorem ggX9_turn_X7_kindOf : GoodIn wsX9_turn wsX7_kindOf := goodIn_r _ [23, 24, 25, 3, 4, 5, 6, 7, 51, 52, 53, 54, 55, 56, 57] (by decide +kernel) (by decide +kernel)
set_option maxRecDepth 20000 in
theorem gX9_turn_X7_kindOf : GoodIn wsX9_turn (wsV RX9 81 RX7 yX7_kindOf wsX7_kindOf) := goodIn_app (goodIn_of _ (by decide +kernel)) ggX9_turn_X7_kindOf
set_option maxRecDepth 20000 in
theorem ggX9_turn_X7_figureOf : GoodIn wsX9_turn wsX7_figureOf := goodIn_r _ [29, 30, 25, 3, 4, 5, 6, 7, 51, 52, 53, 54, 55, 56, 57] (by decide +kernel) (by decide +kernel)
set_option maxRecDepth 20000 in
theorem gX9_turn_X7_figureOf : GoodIn wsX9_turn (wsV RX9 84 RX7 yX7_figureOf wsX7_figureOf) := goodIn_app (goodIn_of _ (by decide +kernel)) ggX9_turn_X7_figureOf
set_option maxRecDepth 20000 in
theorem ggX9_turn_X7_setKind : GoodIn wsX9_turn wsX7_setKind := goodIn_r _ [34, 24, 25, 3, 4, 5, 6, 7, 35, 15, 16, 51, 52, 53, 54, 55, 56, 57] (by decide +kernel) (by decide +kernel)
set_option maxRecDepth 20000 in
theorem gX9_turn_X7_setKind : GoodIn wsX9_turn (wsV RX9 128 RX7 yX7_setKind wsX7_setKind) := goodIn_app (goodIn_of _ (by decide +kernel)) ggX9_turn_X7_setKind
set_option maxRecDepth 20000 in
theorem ggX9_turn_X7_setFigure : GoodIn wsX9_turn wsX7_setFigure := goodIn_r _ [39, 30, 25, 3, 4, 5, 6, 7, 40, 41, 42, 51, 52, 53, 54, 55, 56, 57] (by decide +kernel) (by decide +kernel)
set_option maxRecDepth 20000 in
theorem gX9_turn_X7_setFigure : GoodIn wsX9_turn (wsV RX9 132 RX7 yX7_setFigure wsX7_setFigure) := goodIn_app (goodIn_of _ (by decide +kernel)) ggX9_turn_X7_setFigure
set_option maxRecDepth 20000 in
theorem ggX9_days_X9_outside : GoodIn wsX9_days wsX9_outside := goodIn_r _ [5] (by decide +kernel) (by decide +kernel)
set_option maxRecDepth 20000 in
theorem gX9_days_X9_outside : GoodIn wsX9_days (va_wsS RX9 124 yX9_outside wsX9_outside) := goodIn_app (goodIn_of _ (by decide +kernel)) ggX9_days_X9_outside
set_option maxRecDepth 20000 in
theorem ggX9_days_X9_refuse : GoodIn wsX9_days wsX9_refuse := goodIn_r _ [9, 10, 43, 44, 45, 46, 47, 48, 49, 50] (by decide +kernel) (by decide +kernel)
set_option maxRecDepth 20000 in
theorem gX9_days_X9_refuse : GoodIn wsX9_days (wsV RX9 51 RX9 yX9_refuse wsX9_refuse) := goodIn_app (goodIn_of _ (by decide +kernel)) ggX9_days_X9_refuse
set_option maxRecDepth 20000 in
theorem ggX9_days_X7_passDays : GoodIn wsX9_days wsX7_passDays := goodIn_r _ [15, 16, 17, 18, 19, 20, 21, 14, 22, 23, 24, 25, 26, 27, 28, 29, 30, 31, 32, 33, 34, 35, 36, 37, 38, 39, 40, 41, 51, 52, 53, 54, 55, 56, 57] (by decide +kernel) (by decide +kernel)
set_option maxRecDepth 20000 in
theorem gX9_days_X7_passDays : GoodIn wsX9_days (wsV RX9 135 RX7 yX7_passDays wsX7_passDays) := goodIn_app (goodIn_of _ (by decide +kernel)) ggX9_days_X7_passDays
set_option maxRecDepth 20000 in
theorem ggX9_days_J6_bitCount_0f7a4 : GoodIn wsX9_days wsJ6_bitCount_0f7a4 := goodIn_r _ [32, 33, 34, 35] (by decide +kernel) (by decide +kernel)
set_option maxRecDepth 20000 in
theorem gX9_days_J6_bitCount_0f7a4 : GoodIn wsX9_days (va_wsS RX9 110 yJ6_bitCount_0f7a4 wsJ6_bitCount_0f7a4) := goodIn_app (goodIn_of _ (by decide +kernel)) ggX9_days_J6_bitCount_0f7a4
set_option maxRecDepth 20000 in
theorem ggX9_lostThen_X9_outside : GoodIn wsX9_lostThen wsX9_outside := goodIn_r _ [5] (by decide +kernel) (by decide +kernel)
set_option maxRecDepth 20000 in
theorem gX9_lostThen_X9_outside : GoodIn wsX9_lostThen (va_wsS RX9 124 yX9_outside wsX9_outside) := goodIn_app (goodIn_of _ (by decide +kernel)) ggX9_lostThen_X9_outside
set_option maxRecDepth 20000 in
theorem ggX9_lostThen_X9_refuse : GoodIn wsX9_lostThen wsX9_refuse := goodIn_r _ [9, 10, 39, 40, 41, 42, 43, 44, 45, 46] (by decide +kernel) (by decide +kernel)
set_option maxRecDepth 20000 in
theorem gX9_lostThen_X9_refuse : GoodIn wsX9_lostThen (wsV RX9 51 RX9 yX9_refuse wsX9_refuse) := goodIn_app (goodIn_of _ (by decide +kernel)) ggX9_lostThen_X9_refuse
set_option maxRecDepth 20000 in
theorem ggX9_lostThen_X4_lostBehind : GoodIn wsX9_lostThen wsX4_lostBehind := goodIn_r _ [14, 15, 16, 17, 18, 19, 20, 21, 22, 23, 24, 25, 26, 27, 28, 29, 30, 31, 32, 33, 34, 35, 36, 37, 38, 47, 48, 49, 50, 51, 52, 53] (by decide +kernel) (by decide +kernel)
set_option maxRecDepth 20000 in
theorem gX9_lostThen_X4_lostBehind : GoodIn wsX9_lostThen (va_wsS RX9 138 yX4_lostBehind wsX4_lostBehind) := goodIn_app (goodIn_of _ (by decide +kernel)) ggX9_lostThen_X4_lostBehind
set_option maxRecDepth 20000 in
theorem ggX9_when_X7_has : GoodIn wsX9_when wsX7_has := goodIn_r _ [6, 7, 44, 45, 46, 47, 48, 49, 50] (by decide +kernel) (by decide +kernel)
set_option maxRecDepth 20000 in
theorem gX9_when_X7_has : GoodIn wsX9_when (wsV RX9 77 RX7 yX7_has wsX7_has) := goodIn_app (goodIn_of _ (by decide +kernel)) ggX9_when_X7_has
set_option maxRecDepth 20000 in
theorem ggX9_when_X4_daysUntilLost : GoodIn wsX9_when wsX4_daysUntilLost := goodIn_r _ [11, 12, 13, 14, 5, 15, 7, 16, 17, 18, 19, 20, 21, 22, 23, 24, 25, 26, 27, 28, 29, 44, 45, 46, 47, 48, 49, 50] (by decide +kernel) (by decide +kernel)
set_option maxRecDepth 20000 in
theorem gX9_when_X4_daysUntilLost : GoodIn wsX9_when (va_wsS RX9 144 yX4_daysUntilLost wsX4_daysUntilLost) := goodIn_app (goodIn_of _ (by decide +kernel)) ggX9_when_X4_daysUntilLost
set_option maxRecDepth 20000 in
theorem ggX9_when_X9_refuse : GoodIn wsX9_when wsX9_refuse := goodIn_r _ [34, 35, 36, 37, 38, 39, 40, 41, 42, 43] (by decide +kernel) (by decide +kernel)
set_option maxRecDepth 20000 in
theorem gX9_when_X9_refuse : GoodIn wsX9_when (wsV RX9 51 RX9 yX9_refuse wsX9_refuse) := goodIn_app (goodIn_of _ (by decide +kernel)) ggX9_when_X9_refuse
set_option maxRecDepth 20000 in
theorem ggX9_next_X4_firstToFall : GoodIn wsX9_next wsX4_firstToFall := goodIn_r _ [5, 6, 7, 8, 9, 10, 11, 12, 13, 14, 15, 16, 17, 18, 19, 20, 21, 22, 23, 24, 25, 26, 27, 28, 29, 55, 56, 57, 58, 59, 60, 61] (by decide +kernel) (by decide +kernel)
set_option maxRecDepth 20000 in
theorem gX9_next_X4_firstToFall : GoodIn wsX9_next (va_wsS RX9 147 yX4_firstToFall wsX4_firstToFall) := goodIn_app (goodIn_of _ (by decide +kernel)) ggX9_next_X4_firstToFall
set_option maxRecDepth 20000 in
theorem ggX9_next_X4_daysUntilLost : GoodIn wsX9_next wsX4_daysUntilLost := goodIn_r _ [32, 6, 7, 8, 9, 10, 11, 12, 13, 14, 15, 16, 17, 18, 19, 20, 21, 22, 23, 24, 25, 55, 56, 57, 58, 59, 60, 61] (by decide +kernel) (by decide +kernel)
set_option maxRecDepth 20000 in
theorem gX9_next_X4_daysUntilLost : GoodIn wsX9_next (va_wsS RX9 144 yX4_daysUntilLost wsX4_daysUntilLost) := goodIn_app (goodIn_of _ (by decide +kernel)) ggX9_next_X4_daysUntilLost
set_option maxRecDepth 20000 in
theorem ggX9_next_X4_daysUntilStill : GoodIn wsX9_next wsX4_daysUntilStill := goodIn_r _ [35, 36, 37, 38, 9, 39, 40, 7, 8, 10, 11, 12, 13, 14, 15, 16, 17, 18, 19, 20, 21, 22, 23, 24, 25, 6, 55, 56, 57, 58, 59, 60, 61] (by decide +kernel) (by decide +kernel)
set_option maxRecDepth 20000 in
theorem gX9_next_X4_daysUntilStill : GoodIn wsX9_next (va_wsS RX9 150 yX4_daysUntilStill wsX4_daysUntilStill) := goodIn_app (goodIn_of _ (by decide +kernel)) ggX9_next_X4_daysUntilStill
set_option maxRecDepth 20000 in
theorem ggX9_next_X9_refuse : GoodIn wsX9_next wsX9_refuse := goodIn_r _ [45, 46, 47, 48, 49, 50, 51, 52, 53, 54] (by decide +kernel) (by decide +kernel)
set_option maxRecDepth 20000 in
theorem gX9_next_X9_refuse : GoodIn wsX9_next (wsV RX9 51 RX9 yX9_refuse wsX9_refuse) := goodIn_app (goodIn_of _ (by decide +kernel)) ggX9_next_X9_refuse
set_option maxRecDepth 20000 in
theorem ggX9_roots_X7_has : GoodIn wsX9_roots wsX7_has := goodIn_r _ [6, 7, 40, 41, 42, 43, 44, 45, 46] (by decide +kernel) (by decide +kernel)
set_option maxRecDepth 20000 in
theorem gX9_roots_X7_has : GoodIn wsX9_roots (wsV RX9 77 RX7 yX7_has wsX7_has) := goodIn_app (goodIn_of _ (by decide +kernel)) ggX9_roots_X7_has
set_option maxRecDepth 20000 in
theorem ggX9_roots_X9_refuse : GoodIn wsX9_roots wsX9_refuse := goodIn_r _ [12, 13, 32, 33, 34, 35, 36, 37, 38, 39] (by decide +kernel) (by decide +kernel)
set_option maxRecDepth 20000 in
theorem gX9_roots_X9_refuse : GoodIn wsX9_roots (wsV RX9 51 RX9 yX9_refuse wsX9_refuse) := goodIn_app (goodIn_of _ (by decide +kernel)) ggX9_roots_X9_refuse
set_option maxRecDepth 20000 in
theorem ggX9_roots_X9_isPart : GoodIn wsX9_roots wsX9_isPart := goodIn_r _ [16] (by decide +kernel) (by decide +kernel)
set_option maxRecDepth 20000 in
theorem gX9_roots_X9_isPart : GoodIn wsX9_roots (va_wsS RX9 153 yX9_isPart wsX9_isPart) := goodIn_app (goodIn_of _ (by decide +kernel)) ggX9_roots_X9_isPart
set_option maxRecDepth 20000 in
theorem ggX9_roots_X7_rootsOf : GoodIn wsX9_roots wsX7_rootsOf := goodIn_r _ [20, 21, 22, 23, 5, 24, 25, 26, 3, 4, 6, 7, 40, 41, 42, 43, 44, 45, 46] (by decide +kernel) (by decide +kernel)
set_option maxRecDepth 20000 in
theorem gX9_roots_X7_rootsOf : GoodIn wsX9_roots (wsV RX9 156 RX7 yX7_rootsOf wsX7_rootsOf) := goodIn_app (goodIn_of _ (by decide +kernel)) ggX9_roots_X7_rootsOf
set_option maxRecDepth 20000 in
theorem ggX9_roots_X7_fruitsOf : GoodIn wsX9_roots wsX7_fruitsOf := goodIn_r _ [30, 7, 31, 18, 19, 5, 20, 21, 22, 23, 24, 25, 26, 3, 4, 6, 40, 41, 42, 43, 44, 45, 46] (by decide +kernel) (by decide +kernel)
set_option maxRecDepth 20000 in
theorem gX9_roots_X7_fruitsOf : GoodIn wsX9_roots (wsV RX9 159 RX7 yX7_fruitsOf wsX7_fruitsOf) := goodIn_app (goodIn_of _ (by decide +kernel)) ggX9_roots_X7_fruitsOf
set_option maxRecDepth 20000 in
theorem ggX9_nails_X7_withoutCauses : GoodIn wsX9_nails wsX7_withoutCauses := goodIn_r _ [6, 7, 8, 9, 10, 5, 11, 12, 13, 14, 15, 16, 25, 26, 27, 28, 29, 30, 31] (by decide +kernel) (by decide +kernel)
set_option maxRecDepth 20000 in
theorem gX9_nails_X7_withoutCauses : GoodIn wsX9_nails (wsV RX9 162 RX7 yX7_withoutCauses wsX7_withoutCauses) := goodIn_app (goodIn_of _ (by decide +kernel)) ggX9_nails_X7_withoutCauses
set_option maxRecDepth 20000 in
theorem ggX9_guard_X7_has : GoodIn wsX9_guard wsX7_has := goodIn_r _ [6, 7, 72, 73, 74, 75, 76, 77, 78] (by decide +kernel) (by decide +kernel)
set_option maxRecDepth 20000 in
theorem gX9_guard_X7_has : GoodIn wsX9_guard (wsV RX9 77 RX7 yX7_has wsX7_has) := goodIn_app (goodIn_of _ (by decide +kernel)) ggX9_guard_X7_has
set_option maxRecDepth 20000 in
theorem ggX9_guard_X9_refuse : GoodIn wsX9_guard wsX9_refuse := goodIn_r _ [12, 13, 64, 65, 66, 67, 68, 69, 70, 71] (by decide +kernel) (by decide +kernel)
set_option maxRecDepth 20000 in
theorem gX9_guard_X9_refuse : GoodIn wsX9_guard (wsV RX9 51 RX9 yX9_refuse wsX9_refuse) := goodIn_app (goodIn_of _ (by decide +kernel)) ggX9_guard_X9_refuse
set_option maxRecDepth 20000 in
theorem ggX9_guard_X9_outside : GoodIn wsX9_guard wsX9_outside := goodIn_r _ [16] (by decide +kernel) (by decide +kernel)
set_option maxRecDepth 20000 in
theorem gX9_guard_X9_outside : GoodIn wsX9_guard (va_wsS RX9 124 yX9_outside wsX9_outside) := goodIn_app (goodIn_of _ (by decide +kernel)) ggX9_guard_X9_outside
set_option maxRecDepth 20000 in
theorem ggX9_guard_X4_fewestToGuard : GoodIn wsX9_guard wsX4_fewestToGuard := goodIn_r _ [20, 21, 22, 23, 5, 24, 25, 26, 3, 4, 6, 7, 27, 28, 19, 29, 30, 31, 32, 33, 34, 35, 36, 37, 38, 39, 40, 41, 42, 43, 44, 45, 46, 47, 48, 49, 50, 51, 52, 53, 54, 55, 56, 57, 58, 59, 60, 61, 62, 63, 72, 73, 74, 75, 76, 77, 78] (by decide +kernel) (by decide +kernel)
set_option maxRecDepth 20000 in
theorem gX9_guard_X4_fewestToGuard : GoodIn wsX9_guard (va_wsS RX9 165 yX4_fewestToGuard wsX4_fewestToGuard) := goodIn_app (goodIn_of _ (by decide +kernel)) ggX9_guard_X4_fewestToGuard
set_option maxRecDepth 20000 in
theorem ggX9_weak_X9_outside : GoodIn wsX9_weak wsX9_outside := goodIn_r _ [5] (by decide +kernel) (by decide +kernel)
set_option maxRecDepth 20000 in
theorem gX9_weak_X9_outside : GoodIn wsX9_weak (va_wsS RX9 124 yX9_outside wsX9_outside) := goodIn_app (goodIn_of _ (by decide +kernel)) ggX9_weak_X9_outside
set_option maxRecDepth 20000 in
theorem ggX9_weak_X9_refuse : GoodIn wsX9_weak wsX9_refuse := goodIn_r _ [9, 10, 56, 57, 58, 59, 60, 61, 62, 63] (by decide +kernel) (by decide +kernel)
set_option maxRecDepth 20000 in
theorem gX9_weak_X9_refuse : GoodIn wsX9_weak (wsV RX9 51 RX9 yX9_refuse wsX9_refuse) := goodIn_app (goodIn_of _ (by decide +kernel)) ggX9_weak_X9_refuse
set_option maxRecDepth 20000 in
theorem ggX9_weak_X4_bestToGuard : GoodIn wsX9_weak wsX4_bestToGuard := goodIn_r _ [14, 15, 16, 13, 17, 18, 19, 20, 21, 22, 23, 24, 25, 26, 27, 28, 29, 30, 31, 32, 33, 34, 35, 36, 37, 38, 39, 40, 41, 42, 43, 44, 45, 46, 47, 48, 49, 50, 51, 52, 53, 54, 55, 64, 65, 66, 67, 68, 69, 70] (by decide +kernel) (by decide +kernel)
set_option maxRecDepth 20000 in
theorem gX9_weak_X4_bestToGuard : GoodIn wsX9_weak (va_wsS RX9 168 yX4_bestToGuard wsX4_bestToGuard) := goodIn_app (goodIn_of _ (by decide +kernel)) ggX9_weak_X4_bestToGuard
set_option maxRecDepth 20000 in
theorem ggX9_tack_X7_has : GoodIn wsX9_tack wsX7_has := goodIn_r _ [6, 7, 70, 71, 72, 73, 74, 75, 76] (by decide +kernel) (by decide +kernel)
set_option maxRecDepth 20000 in
theorem gX9_tack_X7_has : GoodIn wsX9_tack (wsV RX9 77 RX7 yX7_has wsX7_has) := goodIn_app (goodIn_of _ (by decide +kernel)) ggX9_tack_X7_has
set_option maxRecDepth 20000 in
theorem ggX9_tack_X4_soonestNail : GoodIn wsX9_tack wsX4_soonestNail := goodIn_r _ [11, 12, 13, 10, 14, 15, 16, 17, 5, 18, 7, 19, 20, 21, 22, 23, 24, 25, 26, 27, 28, 29, 30, 31, 32, 33, 34, 35, 36, 37, 38, 39, 40, 41, 42, 43, 44, 45, 3, 4, 6, 46, 47, 48, 49, 50, 51, 52, 53, 54, 55, 70, 71, 72, 73, 74, 75, 76] (by decide +kernel) (by decide +kernel)
set_option maxRecDepth 20000 in
theorem gX9_tack_X4_soonestNail : GoodIn wsX9_tack (va_wsS RX9 172 yX4_soonestNail wsX4_soonestNail) := goodIn_app (goodIn_of _ (by decide +kernel)) ggX9_tack_X4_soonestNail
set_option maxRecDepth 20000 in
theorem ggX9_tack_X9_refuse : GoodIn wsX9_tack wsX9_refuse := goodIn_r _ [60, 61, 62, 63, 64, 65, 66, 67, 68, 69] (by decide +kernel) (by decide +kernel)
set_option maxRecDepth 20000 in
theorem gX9_tack_X9_refuse : GoodIn wsX9_tack (wsV RX9 51 RX9 yX9_refuse wsX9_refuse) := goodIn_app (goodIn_of _ (by decide +kernel)) ggX9_tack_X9_refuse
set_option maxRecDepth 20000 in
theorem ggX9_worst_X9_outside : GoodIn wsX9_worst wsX9_outside := goodIn_r _ [5] (by decide +kernel) (by decide +kernel)
set_option maxRecDepth 20000 in
theorem gX9_worst_X9_outside : GoodIn wsX9_worst (va_wsS RX9 124 yX9_outside wsX9_outside) := goodIn_app (goodIn_of _ (by decide +kernel)) ggX9_worst_X9_outside
set_option maxRecDepth 20000 in
theorem ggX9_worst_X9_refuse : GoodIn wsX9_worst wsX9_refuse := goodIn_r _ [9, 10, 69, 70, 71, 72, 73, 74, 75, 76] (by decide +kernel) (by decide +kernel)
set_option maxRecDepth 20000 in
theorem gX9_worst_X9_refuse : GoodIn wsX9_worst (wsV RX9 51 RX9 yX9_refuse wsX9_refuse) := goodIn_app (goodIn_of _ (by decide +kernel)) ggX9_worst_X9_refuse
set_option maxRecDepth 20000 in
theorem ggX9_worst_X4_worstNail : GoodIn wsX9_worst wsX4_worstNail := goodIn_r _ [14, 15, 16, 13, 17, 18, 19, 20, 21, 22, 23, 24, 25, 26, 27, 28, 29, 30, 31, 32, 33, 34, 35, 36, 37, 38, 39, 40, 41, 42, 43, 44, 45, 46, 47, 48, 49, 50, 51, 52, 53, 54, 55, 56, 57, 58, 59, 60, 61, 62, 63, 64, 65, 66, 67, 68, 77, 78, 79, 80, 81, 82, 83] (by decide +kernel) (by decide +kernel)
set_option maxRecDepth 20000 in
theorem gX9_worst_X4_worstNail : GoodIn wsX9_worst (va_wsS RX9 175 yX4_worstNail wsX4_worstNail) := goodIn_app (goodIn_of _ (by decide +kernel)) ggX9_worst_X4_worstNail
set_option maxRecDepth 20000 in
theorem ggX9_fewest_X7_has : GoodIn wsX9_fewest wsX7_has := goodIn_r _ [6, 7, 72, 73, 74, 75, 76, 77, 78] (by decide +kernel) (by decide +kernel)
set_option maxRecDepth 20000 in
theorem gX9_fewest_X7_has : GoodIn wsX9_fewest (wsV RX9 77 RX7 yX7_has wsX7_has) := goodIn_app (goodIn_of _ (by decide +kernel)) ggX9_fewest_X7_has
set_option maxRecDepth 20000 in
theorem ggX9_fewest_X4_fewestToLose : GoodIn wsX9_fewest wsX4_fewestToLose := goodIn_r _ [11, 12, 13, 14, 5, 15, 16, 17, 18, 19, 7, 20, 21, 22, 23, 24, 25, 3, 4, 6, 26, 27, 28, 29, 30, 31, 32, 33, 34, 35, 36, 37, 38, 39, 40, 41, 42, 43, 44, 45, 10, 46, 47, 48, 49, 50, 51, 52, 53, 54, 55, 56, 57, 72, 73, 74, 75, 76, 77, 78] (by decide +kernel) (by decide +kernel)
set_option maxRecDepth 20000 in
theorem gX9_fewest_X4_fewestToLose : GoodIn wsX9_fewest (va_wsS RX9 178 yX4_fewestToLose wsX4_fewestToLose) := goodIn_app (goodIn_of _ (by decide +kernel)) ggX9_fewest_X4_fewestToLose
set_option maxRecDepth 20000 in
theorem ggX9_fewest_X9_refuse : GoodIn wsX9_fewest wsX9_refuse := goodIn_r _ [62, 63, 64, 65, 66, 67, 68, 69, 70, 71] (by decide +kernel) (by decide +kernel)
set_option maxRecDepth 20000 in
theorem gX9_fewest_X9_refuse : GoodIn wsX9_fewest (wsV RX9 51 RX9 yX9_refuse wsX9_refuse) := goodIn_app (goodIn_of _ (by decide +kernel)) ggX9_fewest_X9_refuse
set_option maxRecDepth 20000 in
theorem ggX9_blame_X7_has : GoodIn wsX9_blame wsX7_has := goodIn_r _ [6, 7, 85, 86, 87, 88, 89, 90, 91] (by decide +kernel) (by decide +kernel)
set_option maxRecDepth 20000 in
theorem gX9_blame_X7_has : GoodIn wsX9_blame (wsV RX9 77 RX7 yX7_has wsX7_has) := goodIn_app (goodIn_of _ (by decide +kernel)) ggX9_blame_X7_has
set_option maxRecDepth 20000 in
theorem ggX9_blame_X9_refuseLong : GoodIn wsX9_blame wsX9_refuseLong := goodIn_r _ [12, 13, 14, 15, 16, 11, 17, 18, 77, 78, 79, 80, 81, 82, 83, 84] (by decide +kernel) (by decide +kernel)
set_option maxRecDepth 20000 in
theorem gX9_blame_X9_refuseLong : GoodIn wsX9_blame (wsV RX9 181 RX9 yX9_refuseLong wsX9_refuseLong) := goodIn_app (goodIn_of _ (by decide +kernel)) ggX9_blame_X9_refuseLong
set_option maxRecDepth 20000 in
theorem ggX9_blame_X6_firstNails : GoodIn wsX9_blame wsX6_firstNails := goodIn_r _ [22, 23, 24, 25, 5, 26, 7, 27, 28, 29, 30, 31, 32, 3, 4, 6, 33, 34, 35, 36, 37, 38, 39, 85, 86, 87, 88, 89, 90, 91] (by decide +kernel) (by decide +kernel)
set_option maxRecDepth 20000 in
theorem gX9_blame_X6_firstNails : GoodIn wsX9_blame (va_wsS RX9 185 yX6_firstNails wsX6_firstNails) := goodIn_app (goodIn_of _ (by decide +kernel)) ggX9_blame_X6_firstNails
set_option maxRecDepth 20000 in
theorem ggX9_blame_X9_isPart : GoodIn wsX9_blame wsX9_isPart := goodIn_r _ [42] (by decide +kernel) (by decide +kernel)
set_option maxRecDepth 20000 in
theorem gX9_blame_X9_isPart : GoodIn wsX9_blame (va_wsS RX9 153 yX9_isPart wsX9_isPart) := goodIn_app (goodIn_of _ (by decide +kernel)) ggX9_blame_X9_isPart
set_option maxRecDepth 20000 in
theorem ggX9_blame_X6_blaming : GoodIn wsX9_blame wsX6_blaming := goodIn_r _ [45, 46, 20, 21, 22, 23, 24, 25, 5, 26, 7, 27, 28, 29, 30, 31, 32, 3, 4, 6, 33, 34, 35, 36, 37, 38, 39, 47, 48, 49, 50, 51, 52, 53, 54, 55, 56, 57, 58, 59, 60, 61, 62, 63, 64, 65, 66, 67, 85, 86, 87, 88, 89, 90, 91] (by decide +kernel) (by decide +kernel)
set_option maxRecDepth 20000 in
theorem gX9_blame_X6_blaming : GoodIn wsX9_blame (va_wsS RX9 190 yX6_blaming wsX6_blaming) := goodIn_app (goodIn_of _ (by decide +kernel)) ggX9_blame_X6_blaming
set_option maxRecDepth 20000 in
theorem ggX9_blame_J6_bitCount_0f7a4 : GoodIn wsX9_blame wsJ6_bitCount_0f7a4 := goodIn_r _ [36, 37, 38, 39] (by decide +kernel) (by decide +kernel)
set_option maxRecDepth 20000 in
theorem gX9_blame_J6_bitCount_0f7a4 : GoodIn wsX9_blame (va_wsS RX9 110 yJ6_bitCount_0f7a4 wsJ6_bitCount_0f7a4) := goodIn_app (goodIn_of _ (by decide +kernel)) ggX9_blame_J6_bitCount_0f7a4
set_option maxRecDepth 20000 in
theorem ggX9_blame_X6_ofThese : GoodIn wsX9_blame wsX6_ofThese := goodIn_r _ [67] (by decide +kernel) (by decide +kernel)
set_option maxRecDepth 20000 in
theorem gX9_blame_X6_ofThese : GoodIn wsX9_blame (va_wsS RX9 194 yX6_ofThese wsX6_ofThese) := goodIn_app (goodIn_of _ (by decide +kernel)) ggX9_blame_X6_ofThese
set_option maxRecDepth 20000 in
theorem ggX9_blame_X1_part : GoodIn wsX9_blame wsX1_part := goodIn_r _ [73, 74, 75, 72, 76] (by decide +kernel) (by decide +kernel)
set_option maxRecDepth 20000 in
theorem gX9_blame_X1_part : GoodIn wsX9_blame (va_wsS RX9 197 yX1_part wsX1_part) := goodIn_app (goodIn_of _ (by decide +kernel)) ggX9_blame_X1_part
set_option maxRecDepth 20000 in
theorem ggX9_saved_X7_has : GoodIn wsX9_saved wsX7_has := goodIn_r _ [6, 7, 55, 56, 57, 58, 59, 60, 61] (by decide +kernel) (by decide +kernel)
set_option maxRecDepth 20000 in
theorem gX9_saved_X7_has : GoodIn wsX9_saved (wsV RX9 77 RX7 yX7_has wsX7_has) := goodIn_app (goodIn_of _ (by decide +kernel)) ggX9_saved_X7_has
set_option maxRecDepth 20000 in
theorem ggX9_saved_X9_refuse : GoodIn wsX9_saved wsX9_refuse := goodIn_r _ [12, 13, 47, 48, 49, 50, 51, 52, 53, 54] (by decide +kernel) (by decide +kernel)
set_option maxRecDepth 20000 in
theorem gX9_saved_X9_refuse : GoodIn wsX9_saved (wsV RX9 51 RX9 yX9_refuse wsX9_refuse) := goodIn_app (goodIn_of _ (by decide +kernel)) ggX9_saved_X9_refuse
set_option maxRecDepth 20000 in
theorem ggX9_saved_X9_outside : GoodIn wsX9_saved wsX9_outside := goodIn_r _ [16] (by decide +kernel) (by decide +kernel)
set_option maxRecDepth 20000 in
theorem gX9_saved_X9_outside : GoodIn wsX9_saved (va_wsS RX9 124 yX9_outside wsX9_outside) := goodIn_app (goodIn_of _ (by decide +kernel)) ggX9_saved_X9_outside
set_option maxRecDepth 20000 in
theorem ggX9_saved_X4_savedBy : GoodIn wsX9_saved wsX4_savedBy := goodIn_r _ [20, 21, 22, 19, 23, 24, 25, 26, 5, 27, 28, 29, 30, 31, 7, 32, 33, 34, 35, 36, 37, 38, 39, 40, 41, 42, 43, 44, 45, 46, 55, 56, 57, 58, 59, 60, 61] (by decide +kernel) (by decide +kernel)
set_option maxRecDepth 20000 in
theorem gX9_saved_X4_savedBy : GoodIn wsX9_saved (va_wsS RX9 203 yX4_savedBy wsX4_savedBy) := goodIn_app (goodIn_of _ (by decide +kernel)) ggX9_saved_X4_savedBy
set_option maxRecDepth 20000 in
theorem ggX9_hooks_X9_isPart : GoodIn wsX9_hooks wsX9_isPart := goodIn_r _ [5] (by decide +kernel) (by decide +kernel)
set_option maxRecDepth 20000 in
theorem gX9_hooks_X9_isPart : GoodIn wsX9_hooks (va_wsS RX9 153 yX9_isPart wsX9_isPart) := goodIn_app (goodIn_of _ (by decide +kernel)) ggX9_hooks_X9_isPart
set_option maxRecDepth 20000 in
theorem ggX9_hooks_X9_refuse : GoodIn wsX9_hooks wsX9_refuse := goodIn_r _ [9, 10, 43, 44, 45, 46, 47, 48, 49, 50] (by decide +kernel) (by decide +kernel)
set_option maxRecDepth 20000 in
theorem gX9_hooks_X9_refuse : GoodIn wsX9_hooks (wsV RX9 51 RX9 yX9_refuse wsX9_refuse) := goodIn_app (goodIn_of _ (by decide +kernel)) ggX9_hooks_X9_refuse
set_option maxRecDepth 20000 in
theorem ggX9_hooks_X4_lostBehind : GoodIn wsX9_hooks wsX4_lostBehind := goodIn_r _ [14, 15, 16, 17, 18, 19, 20, 21, 22, 23, 24, 25, 26, 27, 28, 29, 30, 31, 32, 33, 34, 35, 36, 37, 38, 51, 52, 53, 54, 55, 56, 57] (by decide +kernel) (by decide +kernel)
set_option maxRecDepth 20000 in
theorem gX9_hooks_X4_lostBehind : GoodIn wsX9_hooks (va_wsS RX9 138 yX4_lostBehind wsX4_lostBehind) := goodIn_app (goodIn_of _ (by decide +kernel)) ggX9_hooks_X4_lostBehind
set_option maxRecDepth 20000 in
theorem ggX9_hooks_X7_all : GoodIn wsX9_hooks wsX7_all := goodIn_r _ [42, 24, 51, 52, 53, 54, 55, 56, 57] (by decide +kernel) (by decide +kernel)
set_option maxRecDepth 20000 in
theorem gX9_hooks_X7_all : GoodIn wsX9_hooks (wsV RX9 206 RX7 yX7_all wsX7_all) := goodIn_app (goodIn_of _ (by decide +kernel)) ggX9_hooks_X7_all
set_option maxRecDepth 20000 in
theorem ggX9_key_X7_withMostFruits : GoodIn wsX9_key wsX7_withMostFruits := goodIn_r _ [6, 7, 8, 9, 10, 5, 11, 12, 13, 14, 15, 16, 17, 18, 19, 20, 21, 22, 23, 24, 25, 26, 27, 28, 29, 30, 31, 40, 41, 42, 43, 44, 45, 46] (by decide +kernel) (by decide +kernel)
set_option maxRecDepth 20000 in
theorem gX9_key_X7_withMostFruits : GoodIn wsX9_key (wsV RX9 209 RX7 yX7_withMostFruits wsX7_withMostFruits) := goodIn_app (goodIn_of _ (by decide +kernel)) ggX9_key_X7_withMostFruits
set_option maxRecDepth 20000 in
theorem ggX9_twins_X9_isPart : GoodIn wsX9_twins wsX9_isPart := goodIn_r _ [5] (by decide +kernel) (by decide +kernel)
set_option maxRecDepth 20000 in
theorem gX9_twins_X9_isPart : GoodIn wsX9_twins (va_wsS RX9 153 yX9_isPart wsX9_isPart) := goodIn_app (goodIn_of _ (by decide +kernel)) ggX9_twins_X9_isPart
set_option maxRecDepth 20000 in
theorem ggX9_twins_X9_refuse : GoodIn wsX9_twins wsX9_refuse := goodIn_r _ [9, 10, 39, 40, 41, 42, 43, 44, 45, 46] (by decide +kernel) (by decide +kernel)
set_option maxRecDepth 20000 in
theorem gX9_twins_X9_refuse : GoodIn wsX9_twins (wsV RX9 51 RX9 yX9_refuse wsX9_refuse) := goodIn_app (goodIn_of _ (by decide +kernel)) ggX9_twins_X9_refuse
set_option maxRecDepth 20000 in
theorem ggX9_twins_X7_howManyTwins : GoodIn wsX9_twins wsX7_howManyTwins := goodIn_r _ [15, 16, 17, 18, 19, 14, 20, 21, 22, 23, 24, 25, 26, 27, 28, 29, 30, 31, 32, 33, 34, 47, 48, 49, 50, 51, 52, 53] (by decide +kernel) (by decide +kernel)
set_option maxRecDepth 20000 in
theorem gX9_twins_X7_howManyTwins : GoodIn wsX9_twins (wsV RX9 212 RX7 yX7_howManyTwins wsX7_howManyTwins) := goodIn_app (goodIn_of _ (by decide +kernel)) ggX9_twins_X7_howManyTwins
set_option maxRecDepth 20000 in
theorem ggX9_twins_X7_firstTwins : GoodIn wsX9_twins wsX7_firstTwins := goodIn_r _ [38, 16, 17, 18, 19, 14, 20, 21, 22, 23, 24, 25, 26, 27, 28, 29, 30, 31, 32, 33, 34, 47, 48, 49, 50, 51, 52, 53] (by decide +kernel) (by decide +kernel)
set_option maxRecDepth 20000 in
theorem gX9_twins_X7_firstTwins : GoodIn wsX9_twins (wsV RX9 215 RX7 yX7_firstTwins wsX7_firstTwins) := goodIn_app (goodIn_of _ (by decide +kernel)) ggX9_twins_X7_firstTwins
set_option maxRecDepth 20000 in
theorem ggX9_two_X7_has : GoodIn wsX9_two wsX7_has := goodIn_r _ [6, 7, 84, 85, 86, 87, 88, 89, 90] (by decide +kernel) (by decide +kernel)
set_option maxRecDepth 20000 in
theorem gX9_two_X7_has : GoodIn wsX9_two (wsV RX9 77 RX7 yX7_has wsX7_has) := goodIn_app (goodIn_of _ (by decide +kernel)) ggX9_two_X7_has
set_option maxRecDepth 20000 in
theorem ggX9_two_X9_refuse : GoodIn wsX9_two wsX9_refuse := goodIn_r _ [12, 13, 76, 77, 78, 79, 80, 81, 82, 83] (by decide +kernel) (by decide +kernel)
set_option maxRecDepth 20000 in
theorem gX9_two_X9_refuse : GoodIn wsX9_two (wsV RX9 51 RX9 yX9_refuse wsX9_refuse) := goodIn_app (goodIn_of _ (by decide +kernel)) ggX9_two_X9_refuse
set_option maxRecDepth 20000 in
theorem ggX9_two_X9_outside : GoodIn wsX9_two wsX9_outside := goodIn_r _ [16] (by decide +kernel) (by decide +kernel)
set_option maxRecDepth 20000 in
theorem gX9_two_X9_outside : GoodIn wsX9_two (va_wsS RX9 124 yX9_outside wsX9_outside) := goodIn_app (goodIn_of _ (by decide +kernel)) ggX9_two_X9_outside
set_option maxRecDepth 20000 in
theorem ggX9_two_X7_openNails : GoodIn wsX9_two wsX7_openNails := goodIn_r _ [20, 21, 22, 23, 5, 24, 7, 25, 26, 27, 28, 29, 30, 3, 4, 6, 31, 32, 33, 34, 35, 36, 37, 38, 39, 40, 84, 85, 86, 87, 88, 89, 90] (by decide +kernel) (by decide +kernel)
set_option maxRecDepth 20000 in
theorem gX9_two_X7_openNails : GoodIn wsX9_two (wsV RX9 218 RX7 yX7_openNails wsX7_openNails) := goodIn_app (goodIn_of _ (by decide +kernel)) ggX9_two_X7_openNails
set_option maxRecDepth 20000 in
theorem ggX9_two_X2_firstSettled : GoodIn wsX9_two wsX2_firstSettled := goodIn_r _ [44, 45, 46, 43, 47, 48, 49, 50, 51, 52, 53, 5, 54, 55, 56, 57, 58, 7, 29, 59, 60, 61, 62, 63, 64, 65, 66, 67, 68, 69, 70, 71, 72, 73, 74, 75, 84, 85, 86, 87, 88, 89, 90] (by decide +kernel) (by decide +kernel)
set_option maxRecDepth 20000 in
theorem gX9_two_X2_firstSettled : GoodIn wsX9_two (va_wsS RX9 221 yX2_firstSettled wsX2_firstSettled) := goodIn_app (goodIn_of _ (by decide +kernel)) ggX9_two_X2_firstSettled
set_option maxRecDepth 20000 in
theorem ggX9_boys_X7_has : GoodIn wsX9_boys wsX7_has := goodIn_r _ [6, 7, 67, 68, 69, 70, 71, 72, 73] (by decide +kernel) (by decide +kernel)
set_option maxRecDepth 20000 in
theorem gX9_boys_X7_has : GoodIn wsX9_boys (wsV RX9 77 RX7 yX7_has wsX7_has) := goodIn_app (goodIn_of _ (by decide +kernel)) ggX9_boys_X7_has
set_option maxRecDepth 20000 in
theorem ggX9_boys_X9_refuseLong : GoodIn wsX9_boys wsX9_refuseLong := goodIn_r _ [12, 13, 14, 15, 16, 11, 17, 18, 59, 60, 61, 62, 63, 64, 65, 66] (by decide +kernel) (by decide +kernel)
set_option maxRecDepth 20000 in
theorem gX9_boys_X9_refuseLong : GoodIn wsX9_boys (wsV RX9 181 RX9 yX9_refuseLong wsX9_refuseLong) := goodIn_app (goodIn_of _ (by decide +kernel)) ggX9_boys_X9_refuseLong
set_option maxRecDepth 20000 in
theorem ggX9_boys_X9_isPart : GoodIn wsX9_boys wsX9_isPart := goodIn_r _ [21] (by decide +kernel) (by decide +kernel)
set_option maxRecDepth 20000 in
theorem gX9_boys_X9_isPart : GoodIn wsX9_boys (va_wsS RX9 153 yX9_isPart wsX9_isPart) := goodIn_app (goodIn_of _ (by decide +kernel)) ggX9_boys_X9_isPart
set_option maxRecDepth 20000 in
theorem ggX9_boys_X0_waysToLose : GoodIn wsX9_boys wsX0_waysToLose := goodIn_r _ [25, 26, 27, 24, 28, 29, 30, 31, 5, 32, 7, 33, 34, 35, 36, 37, 38, 39, 40, 41, 42, 43, 44, 45, 46, 47, 48, 49, 50, 51, 67, 68, 69, 70, 71, 72, 73] (by decide +kernel) (by decide +kernel)
set_option maxRecDepth 20000 in
theorem gX9_boys_X0_waysToLose : GoodIn wsX9_boys (va_wsS RX9 229 yX0_waysToLose wsX0_waysToLose) := goodIn_app (goodIn_of _ (by decide +kernel)) ggX9_boys_X0_waysToLose
set_option maxRecDepth 20000 in
theorem ggX9_boys_X1_power : GoodIn wsX9_boys wsX1_power := goodIn_r _ [51] (by decide +kernel) (by decide +kernel)
set_option maxRecDepth 20000 in
theorem gX9_boys_X1_power : GoodIn wsX9_boys (va_wsS RX9 233 yX1_power wsX1_power) := goodIn_app (goodIn_of _ (by decide +kernel)) ggX9_boys_X1_power
set_option maxRecDepth 20000 in
theorem ggX9_boys_X1_part : GoodIn wsX9_boys wsX1_part := goodIn_r _ [55, 56, 57, 50, 58] (by decide +kernel) (by decide +kernel)
set_option maxRecDepth 20000 in
theorem gX9_boys_X1_part : GoodIn wsX9_boys (va_wsS RX9 197 yX1_part wsX1_part) := goodIn_app (goodIn_of _ (by decide +kernel)) ggX9_boys_X1_part
set_option maxRecDepth 20000 in
theorem ggX9_mean_X9_isPart : GoodIn wsX9_mean wsX9_isPart := goodIn_r _ [9] (by decide +kernel) (by decide +kernel)
set_option maxRecDepth 20000 in
theorem gX9_mean_X9_isPart : GoodIn wsX9_mean (va_wsS RX9 153 yX9_isPart wsX9_isPart) := goodIn_app (goodIn_of _ (by decide +kernel)) ggX9_mean_X9_isPart
set_option maxRecDepth 20000 in
theorem ggX9_mean_X9_refuseLong : GoodIn wsX9_mean wsX9_refuseLong := goodIn_r _ [13, 14, 15, 16, 17, 8, 18, 19, 49, 50, 51, 52, 53, 54, 55, 56] (by decide +kernel) (by decide +kernel)
set_option maxRecDepth 20000 in
theorem gX9_mean_X9_refuseLong : GoodIn wsX9_mean (wsV RX9 181 RX9 yX9_refuseLong wsX9_refuseLong) := goodIn_app (goodIn_of _ (by decide +kernel)) ggX9_mean_X9_refuseLong
set_option maxRecDepth 20000 in
theorem ggX9_mean_X7_allCauses : GoodIn wsX9_mean wsX7_allCauses := goodIn_r _ [24, 25, 26, 27, 28, 23, 29, 30, 31, 32, 33, 34, 35, 36, 37, 38, 39, 40, 41, 57, 58, 59, 60, 61, 62, 63] (by decide +kernel) (by decide +kernel)
set_option maxRecDepth 20000 in
theorem gX9_mean_X7_allCauses : GoodIn wsX9_mean (wsV RX9 237 RX7 yX7_allCauses wsX7_allCauses) := goodIn_app (goodIn_of _ (by decide +kernel)) ggX9_mean_X7_allCauses
set_option maxRecDepth 20000 in
theorem ggX9_mean_X1_part : GoodIn wsX9_mean wsX1_part := goodIn_r _ [45, 46, 47, 44, 48] (by decide +kernel) (by decide +kernel)
set_option maxRecDepth 20000 in
theorem gX9_mean_X1_part : GoodIn wsX9_mean (va_wsS RX9 197 yX1_part wsX1_part) := goodIn_app (goodIn_of _ (by decide +kernel)) ggX9_mean_X1_part
set_option maxRecDepth 20000 in
theorem ggX9_whatWas_X7_has : GoodIn wsX9_whatWas wsX7_has := goodIn_r _ [6, 7, 87, 88, 89, 90, 91, 92, 93] (by decide +kernel) (by decide +kernel)
set_option maxRecDepth 20000 in
theorem gX9_whatWas_X7_has : GoodIn wsX9_whatWas (wsV RX9 77 RX7 yX7_has wsX7_has) := goodIn_app (goodIn_of _ (by decide +kernel)) ggX9_whatWas_X7_has
set_option maxRecDepth 20000 in
theorem ggX9_whatWas_X9_refuse : GoodIn wsX9_whatWas wsX9_refuse := goodIn_r _ [12, 13, 79, 80, 81, 82, 83, 84, 85, 86] (by decide +kernel) (by decide +kernel)
set_option maxRecDepth 20000 in
theorem gX9_whatWas_X9_refuse : GoodIn wsX9_whatWas (wsV RX9 51 RX9 yX9_refuse wsX9_refuse) := goodIn_app (goodIn_of _ (by decide +kernel)) ggX9_whatWas_X9_refuse
set_option maxRecDepth 20000 in
theorem ggX9_whatWas_X9_isPart : GoodIn wsX9_whatWas wsX9_isPart := goodIn_r _ [16] (by decide +kernel) (by decide +kernel)
set_option maxRecDepth 20000 in
theorem gX9_whatWas_X9_isPart : GoodIn wsX9_whatWas (va_wsS RX9 153 yX9_isPart wsX9_isPart) := goodIn_app (goodIn_of _ (by decide +kernel)) ggX9_whatWas_X9_isPart
set_option maxRecDepth 20000 in
theorem ggX9_whatWas_X9_kindsBySuchNumbers : GoodIn wsX9_whatWas wsX9_kindsBySuchNumbers := goodIn_r _ [20, 21, 1, 22, 23, 24, 25, 5, 26, 27, 28, 29, 7, 30, 31, 32, 33, 34, 35, 36, 37, 3, 4, 6, 38, 39, 40, 41, 42, 43, 44, 45, 46, 47, 48, 49, 50, 51, 52, 53, 54, 55, 56, 57, 58, 59, 60, 61, 62, 63, 64, 65, 66, 67, 79, 80, 81, 82, 83, 84, 85, 86, 87, 88, 89, 90, 91, 92, 93, 94, 95] (by decide +kernel) (by decide +kernel)
set_option maxRecDepth 20000 in
theorem gX9_whatWas_X9_kindsBySuchNumbers : GoodIn wsX9_whatWas (wsV RX9 249 RX9 yX9_kindsBySuchNumbers wsX9_kindsBySuchNumbers) := goodIn_app (goodIn_of _ (by decide +kernel)) ggX9_whatWas_X9_kindsBySuchNumbers
set_option maxRecDepth 20000 in
theorem ggX9_whatWas_X9_figuresBySuchNumbers : GoodIn wsX9_whatWas wsX9_figuresBySuchNumbers := goodIn_r _ [71, 21, 1, 22, 23, 24, 25, 5, 26, 27, 28, 29, 7, 30, 31, 32, 72, 73, 74, 75, 37, 3, 4, 6, 76, 77, 78, 41, 42, 43, 44, 45, 46, 47, 48, 49, 50, 51, 52, 53, 54, 55, 56, 57, 58, 59, 60, 61, 62, 63, 64, 65, 66, 67, 79, 80, 81, 82, 83, 84, 85, 86, 87, 88, 89, 90, 91, 92, 93, 94, 95] (by decide +kernel) (by decide +kernel)
set_option maxRecDepth 20000 in
theorem gX9_whatWas_X9_figuresBySuchNumbers : GoodIn wsX9_whatWas (wsV RX9 252 RX9 yX9_figuresBySuchNumbers wsX9_figuresBySuchNumbers) := goodIn_app (goodIn_of _ (by decide +kernel)) ggX9_whatWas_X9_figuresBySuchNumbers
set_option maxRecDepth 20000 in
theorem ggX9_row_X9_refuse : GoodIn wsX9_row wsX9_refuse := goodIn_r _ [6, 7, 20, 21, 22, 23, 24, 25, 26, 27] (by decide +kernel) (by decide +kernel)
set_option maxRecDepth 20000 in
theorem gX9_row_X9_refuse : GoodIn wsX9_row (wsV RX9 51 RX9 yX9_refuse wsX9_refuse) := goodIn_app (goodIn_of _ (by decide +kernel)) ggX9_row_X9_refuse
set_option maxRecDepth 20000 in
theorem ggX9_row_X5_isFull : GoodIn wsX9_row wsX5_isFull := goodIn_r _ [12, 13, 28, 29] (by decide +kernel) (by decide +kernel)
set_option maxRecDepth 20000 in
theorem gX9_row_X5_isFull : GoodIn wsX9_row (wsV RX9 255 RX5 yX5_isFull wsX5_isFull) := goodIn_app (goodIn_of _ (by decide +kernel)) ggX9_row_X5_isFull
set_option maxRecDepth 20000 in
theorem ggX9_row_X5_add : GoodIn wsX9_row wsX5_add := goodIn_r _ [17, 18, 13, 19, 9, 10, 11, 12, 28, 29] (by decide +kernel) (by decide +kernel)
set_option maxRecDepth 20000 in
theorem gX9_row_X5_add : GoodIn wsX9_row (wsV RX9 256 RX5 yX5_add wsX5_add) := goodIn_app (goodIn_of _ (by decide +kernel)) ggX9_row_X5_add
set_option maxRecDepth 20000 in
theorem ggX9_judge_X9_firstMisjudged : GoodIn wsX9_judge wsX9_firstMisjudged := goodIn_r _ [6, 1, 7, 8, 9, 10, 11, 12, 13, 14, 15, 16, 17, 18, 19, 20, 21, 22, 23, 24, 25, 26, 27, 28, 29, 30, 31, 32, 33, 34, 35, 36, 37, 38, 39, 40, 41, 42, 47, 48, 49, 50, 51, 52, 53, 54, 55, 56, 57, 58, 59, 60, 61, 62, 63] (by decide +kernel) (by decide +kernel)
set_option maxRecDepth 20000 in
theorem gX9_judge_X9_firstMisjudged : GoodIn wsX9_judge (wsV RX9 257 RX9 yX9_firstMisjudged wsX9_firstMisjudged) := goodIn_app (goodIn_of _ (by decide +kernel)) ggX9_judge_X9_firstMisjudged
set_option maxRecDepth 20000 in
theorem ggX9_judge_X5_forget : GoodIn wsX9_judge wsX5_forget := goodIn_r _ [46, 41, 55, 56] (by decide +kernel) (by decide +kernel)
set_option maxRecDepth 20000 in
theorem gX9_judge_X5_forget : GoodIn wsX9_judge (wsV RX9 260 RX5 yX5_forget wsX5_forget) := goodIn_app (goodIn_of _ (by decide +kernel)) ggX9_judge_X5_forget
set_option maxRecDepth 20000 in
theorem ggX9_clear_X5_forget : GoodIn wsX9_clear wsX5_forget := goodIn_r _ [6, 7, 16, 17] (by decide +kernel) (by decide +kernel)
set_option maxRecDepth 20000 in
theorem gX9_clear_X5_forget : GoodIn wsX9_clear (wsV RX9 260 RX5 yX5_forget wsX5_forget) := goodIn_app (goodIn_of _ (by decide +kernel)) ggX9_clear_X5_forget
set_option maxRecDepth 20000 in
theorem ggX9_lots_X9_outside : GoodIn wsX9_lots wsX9_outside := goodIn_r _ [6] (by decide +kernel) (by decide +kernel)
set_option maxRecDepth 20000 in
theorem gX9_lots_X9_outside : GoodIn wsX9_lots (va_wsS RX9 124 yX9_outside wsX9_outside) := goodIn_app (goodIn_of _ (by decide +kernel)) ggX9_lots_X9_outside
set_option maxRecDepth 20000 in
theorem ggX9_lots_X9_refuse : GoodIn wsX9_lots wsX9_refuse := goodIn_r _ [10, 11, 77, 78, 79, 80, 81, 82, 83, 84] (by decide +kernel) (by decide +kernel)
set_option maxRecDepth 20000 in
theorem gX9_lots_X9_refuse : GoodIn wsX9_lots (wsV RX9 51 RX9 yX9_refuse wsX9_refuse) := goodIn_app (goodIn_of _ (by decide +kernel)) ggX9_lots_X9_refuse
set_option maxRecDepth 20000 in
theorem ggX9_lots_X9_isPart : GoodIn wsX9_lots wsX9_isPart := goodIn_r _ [14] (by decide +kernel) (by decide +kernel)
set_option maxRecDepth 20000 in
theorem gX9_lots_X9_isPart : GoodIn wsX9_lots (va_wsS RX9 153 yX9_isPart wsX9_isPart) := goodIn_app (goodIn_of _ (by decide +kernel)) ggX9_lots_X9_isPart
set_option maxRecDepth 20000 in
theorem ggX9_lots_X7_all : GoodIn wsX9_lots wsX7_all := goodIn_r _ [19, 20, 85, 86, 87, 88, 89, 90, 91] (by decide +kernel) (by decide +kernel)
set_option maxRecDepth 20000 in
theorem gX9_lots_X7_all : GoodIn wsX9_lots (wsV RX9 206 RX7 yX7_all wsX7_all) := goodIn_app (goodIn_of _ (by decide +kernel)) ggX9_lots_X7_all
set_option maxRecDepth 20000 in
theorem ggX9_lots_X3_lostInWars : GoodIn wsX9_lots wsX3_lostInWars := goodIn_r _ [25, 26, 27, 28, 29, 24, 30, 31, 32, 33, 18, 34, 20, 35, 36, 37, 38, 39, 40, 41, 42, 43, 44, 45, 46, 47, 48, 49, 50, 51, 52, 53, 54, 55, 56, 57, 58, 59, 60, 61, 62, 63, 64, 65, 66, 67, 68, 69, 70, 71, 72, 73, 74, 75, 76, 92, 85, 86, 87, 88, 89, 90, 91] (by decide +kernel) (by decide +kernel)
set_option maxRecDepth 20000 in
theorem gX9_lots_X3_lostInWars : GoodIn wsX9_lots (wsV RX9 262 RX3 yX3_lostInWars wsX3_lostInWars) := goodIn_app (goodIn_of _ (by decide +kernel)) ggX9_lots_X3_lostInWars
set_option maxRecDepth 20000 in
theorem ggX9_image_X7_becomes : GoodIn wsX9_image wsX7_becomes := goodIn_r _ [8, 9, 10, 11, 12, 13, 14, 15, 24, 25, 26, 27, 28, 29, 30] (by decide +kernel) (by decide +kernel)
set_option maxRecDepth 20000 in
theorem gX9_image_X7_becomes : GoodIn wsX9_image (wsV RX9 66 RX7 yX7_becomes wsX7_becomes) := goodIn_app (goodIn_of _ (by decide +kernel)) ggX9_image_X7_becomes
set_option maxRecDepth 20000 in
theorem ggX9_on_X9_refuse : GoodIn wsX9_on wsX9_refuse := goodIn_r _ [8, 9, 22, 23, 24, 25, 26, 27, 28, 29] (by decide +kernel) (by decide +kernel)
set_option maxRecDepth 20000 in
theorem gX9_on_X9_refuse : GoodIn wsX9_on (wsV RX9 51 RX9 yX9_refuse wsX9_refuse) := goodIn_app (goodIn_of _ (by decide +kernel)) ggX9_on_X9_refuse
set_option maxRecDepth 20000 in
theorem ggX9_on_X7_becomes : GoodIn wsX9_on wsX7_becomes := goodIn_r _ [14, 15, 16, 17, 18, 19, 20, 21, 30, 31, 32, 33, 34, 35, 36] (by decide +kernel) (by decide +kernel)
set_option maxRecDepth 20000 in
theorem gX9_on_X7_becomes : GoodIn wsX9_on (wsV RX9 66 RX7 yX7_becomes wsX7_becomes) := goodIn_app (goodIn_of _ (by decide +kernel)) ggX9_on_X7_becomes
set_option maxRecDepth 20000 in
theorem ggX9_count_X7_allCauses : GoodIn wsX9_count wsX7_allCauses := goodIn_r _ [9, 10, 11, 12, 13, 8, 14, 15, 16, 17, 18, 19, 20, 21, 22, 23, 24, 25, 26, 40, 41, 42, 43, 44, 45, 46] (by decide +kernel) (by decide +kernel)
set_option maxRecDepth 20000 in
theorem gX9_count_X7_allCauses : GoodIn wsX9_count (wsV RX9 237 RX7 yX7_allCauses wsX7_allCauses) := goodIn_app (goodIn_of _ (by decide +kernel)) ggX9_count_X7_allCauses
set_option maxRecDepth 20000 in
theorem ggX9_count_X7_withoutCauses : GoodIn wsX9_count wsX7_withoutCauses := goodIn_r _ [30, 10, 11, 12, 13, 8, 14, 15, 16, 17, 18, 19, 40, 41, 42, 43, 44, 45, 46] (by decide +kernel) (by decide +kernel)
set_option maxRecDepth 20000 in
theorem gX9_count_X7_withoutCauses : GoodIn wsX9_count (wsV RX9 162 RX7 yX7_withoutCauses wsX7_withoutCauses) := goodIn_app (goodIn_of _ (by decide +kernel)) ggX9_count_X7_withoutCauses
set_option maxRecDepth 20000 in
theorem ggX9_count_J6_bitCount_0f7a4 : GoodIn wsX9_count wsJ6_bitCount_0f7a4 := goodIn_r _ [23, 24, 25, 26] (by decide +kernel) (by decide +kernel)
set_option maxRecDepth 20000 in
theorem gX9_count_J6_bitCount_0f7a4 : GoodIn wsX9_count (va_wsS RX9 110 yJ6_bitCount_0f7a4 wsJ6_bitCount_0f7a4) := goodIn_app (goodIn_of _ (by decide +kernel)) ggX9_count_J6_bitCount_0f7a4
set_option maxRecDepth 20000 in
theorem ggX9_refuseLong_X9_refuse : GoodIn wsX9_refuseLong wsX9_refuse := goodIn_r _ [6, 7, 8, 9, 10, 11, 12, 13, 14, 15] (by decide +kernel) (by decide +kernel)
set_option maxRecDepth 20000 in
theorem gX9_refuseLong_X9_refuse : GoodIn wsX9_refuseLong (wsV RX9 51 RX9 yX9_refuse wsX9_refuse) := goodIn_app (goodIn_of _ (by decide +kernel)) ggX9_refuseLong_X9_refuse
set_option maxRecDepth 20000 in
theorem ggX9_kindsBySuchNumbers_X7_becomes : GoodIn wsX9_kindsBySuchNumbers wsX7_becomes := goodIn_r _ [8, 9, 10, 11, 12, 13, 14, 15, 62, 63, 64, 65, 66, 67, 68] (by decide +kernel) (by decide +kernel)
set_option maxRecDepth 20000 in
theorem gX9_kindsBySuchNumbers_X7_becomes : GoodIn wsX9_kindsBySuchNumbers (wsV RX9 66 RX7 yX7_becomes wsX7_becomes) := goodIn_app (goodIn_of _ (by decide +kernel)) ggX9_kindsBySuchNumbers_X7_becomes
set_option maxRecDepth 20000 in
theorem ggX9_kindsBySuchNumbers_X7_setKind : GoodIn wsX9_kindsBySuchNumbers wsX7_setKind := goodIn_r _ [19, 9, 20, 21, 22, 7, 23, 12, 24, 25, 26, 62, 63, 64, 65, 66, 67, 68] (by decide +kernel) (by decide +kernel)
set_option maxRecDepth 20000 in
theorem gX9_kindsBySuchNumbers_X7_setKind : GoodIn wsX9_kindsBySuchNumbers (wsV RX9 128 RX7 yX7_setKind wsX7_setKind) := goodIn_app (goodIn_of _ (by decide +kernel)) ggX9_kindsBySuchNumbers_X7_setKind
set_option maxRecDepth 20000 in
theorem ggX9_kindsBySuchNumbers_X5_tellLosses : GoodIn wsX9_kindsBySuchNumbers wsX5_tellLosses := goodIn_r _ [31, 32, 33, 34, 35, 7, 36, 12, 11, 37, 38, 39, 40, 41, 42, 43, 44, 45, 46, 47, 9, 10, 48, 49, 50, 30, 51, 52, 53, 62, 63, 64, 65, 66, 67, 68, 69, 70] (by decide +kernel) (by decide +kernel)
set_option maxRecDepth 20000 in
theorem gX9_kindsBySuchNumbers_X5_tellLosses : GoodIn wsX9_kindsBySuchNumbers (wsV RX9 274 RX5 yX5_tellLosses wsX5_tellLosses) := goodIn_app (goodIn_of _ (by decide +kernel)) ggX9_kindsBySuchNumbers_X5_tellLosses
set_option maxRecDepth 20000 in
theorem ggX9_figuresBySuchNumbers_X7_becomes : GoodIn wsX9_figuresBySuchNumbers wsX7_becomes := goodIn_r _ [8, 9, 10, 11, 12, 13, 14, 15, 62, 63, 64, 65, 66, 67, 68] (by decide +kernel) (by decide +kernel)
set_option maxRecDepth 20000 in
theorem gX9_figuresBySuchNumbers_X7_becomes : GoodIn wsX9_figuresBySuchNumbers (wsV RX9 66 RX7 yX7_becomes wsX7_becomes) := goodIn_app (goodIn_of _ (by decide +kernel)) ggX9_figuresBySuchNumbers_X7_becomes
set_option maxRecDepth 20000 in
theorem ggX9_figuresBySuchNumbers_X7_setFigure : GoodIn wsX9_figuresBySuchNumbers wsX7_setFigure := goodIn_r _ [19, 10, 20, 21, 22, 7, 23, 12, 24, 25, 26, 62, 63, 64, 65, 66, 67, 68] (by decide +kernel) (by decide +kernel)
set_option maxRecDepth 20000 in
theorem gX9_figuresBySuchNumbers_X7_setFigure : GoodIn wsX9_figuresBySuchNumbers (wsV RX9 132 RX7 yX7_setFigure wsX7_setFigure) := goodIn_app (goodIn_of _ (by decide +kernel)) ggX9_figuresBySuchNumbers_X7_setFigure
set_option maxRecDepth 20000 in
theorem ggX9_figuresBySuchNumbers_X5_tellLosses : GoodIn wsX9_figuresBySuchNumbers wsX5_tellLosses := goodIn_r _ [31, 32, 33, 34, 35, 7, 36, 12, 11, 37, 38, 39, 40, 41, 42, 43, 44, 45, 46, 47, 9, 10, 48, 49, 50, 30, 51, 52, 53, 62, 63, 64, 65, 66, 67, 68, 69, 70] (by decide +kernel) (by decide +kernel)
set_option maxRecDepth 20000 in
theorem gX9_figuresBySuchNumbers_X5_tellLosses : GoodIn wsX9_figuresBySuchNumbers (wsV RX9 274 RX5 yX5_tellLosses wsX5_tellLosses) := goodIn_app (goodIn_of _ (by decide +kernel)) ggX9_figuresBySuchNumbers_X5_tellLosses
set_option maxRecDepth 20000 in
theorem ggX9_firstMisjudged_X7_has : GoodIn wsX9_firstMisjudged wsX7_has := goodIn_r _ [7, 8, 48, 49, 50, 51, 52, 53, 54] (by decide +kernel) (by decide +kernel)
set_option maxRecDepth 20000 in
theorem gX9_firstMisjudged_X7_has : GoodIn wsX9_firstMisjudged (wsV RX9 77 RX7 yX7_has wsX7_has) := goodIn_app (goodIn_of _ (by decide +kernel)) ggX9_firstMisjudged_X7_has
set_option maxRecDepth 20000 in
theorem ggX9_firstMisjudged_X4_daysUntilLost : GoodIn wsX9_firstMisjudged wsX4_daysUntilLost := goodIn_r _ [12, 13, 14, 15, 6, 16, 8, 17, 18, 19, 20, 21, 22, 23, 24, 25, 26, 27, 28, 29, 30, 48, 49, 50, 51, 52, 53, 54] (by decide +kernel) (by decide +kernel)
set_option maxRecDepth 20000 in
theorem gX9_firstMisjudged_X4_daysUntilLost : GoodIn wsX9_firstMisjudged (va_wsS RX9 144 yX4_daysUntilLost wsX4_daysUntilLost) := goodIn_app (goodIn_of _ (by decide +kernel)) ggX9_firstMisjudged_X4_daysUntilLost
set_option maxRecDepth 20000 in
theorem ggX9_firstMisjudged_X5_at : GoodIn wsX9_firstMisjudged wsX5_at := goodIn_r _ [35, 36, 37, 46, 47] (by decide +kernel) (by decide +kernel)
set_option maxRecDepth 20000 in
theorem gX9_firstMisjudged_X5_at : GoodIn wsX9_firstMisjudged (wsV RX9 278 RX5 yX5_at wsX5_at) := goodIn_app (goodIn_of _ (by decide +kernel)) ggX9_firstMisjudged_X5_at
set_option maxRecDepth 20000 in
theorem ggX10_nth_X10_has : GoodIn wsX10_nth wsX10_has := goodIn_r _ [4] (by decide +kernel) (by decide +kernel)
set_option maxRecDepth 20000 in
theorem gX10_nth_X10_has : GoodIn wsX10_nth (va_wsS RX10 52 yX10_has wsX10_has) := goodIn_app (goodIn_of _ (by decide +kernel)) ggX10_nth_X10_has
set_option maxRecDepth 20000 in
theorem ggX10_letter_X10_bound : GoodIn wsX10_letter wsX10_bound := goodIn_r _ [6] (by decide +kernel) (by decide +kernel)
set_option maxRecDepth 20000 in
theorem gX10_letter_X10_bound : GoodIn wsX10_letter (va_wsS RX10 56 yX10_bound wsX10_bound) := goodIn_app (goodIn_of _ (by decide +kernel)) ggX10_letter_X10_bound
set_option maxRecDepth 20000 in
theorem ggX10_letter_X10_no : GoodIn wsX10_letter wsX10_no := goodIn_r _ [10, 11, 12, 13, 14, 15, 16, 17, 18, 19, 20, 21, 22, 23, 24, 25, 26, 27, 28, 29, 30, 31, 32, 33, 34, 35, 36] (by decide +kernel) (by decide +kernel)
set_option maxRecDepth 20000 in
theorem gX10_letter_X10_no : GoodIn wsX10_letter (wsV RX10 63 RX10 yX10_no wsX10_no) := goodIn_app (goodIn_of _ (by decide +kernel)) ggX10_letter_X10_no
set_option maxRecDepth 20000 in
theorem ggX10_readsDigits_X10_next : GoodIn wsX10_readsDigits wsX10_next := goodIn_r _ [7, 1, 8, 9, 13, 14, 15, 16, 17, 18, 19, 20, 21, 22, 23, 24, 25, 26, 27, 28, 29, 30, 31, 32, 33, 34, 35, 36, 37] (by decide +kernel) (by decide +kernel)
set_option maxRecDepth 20000 in
theorem gX10_readsDigits_X10_next : GoodIn wsX10_readsDigits (wsV RX10 70 RX10 yX10_next wsX10_next) := goodIn_app (goodIn_of _ (by decide +kernel)) ggX10_readsDigits_X10_next
set_option maxRecDepth 20000 in
theorem ggX10_readsDigits_X10_isIn : GoodIn wsX10_readsDigits wsX10_isIn := goodIn_r _ [12] (by decide +kernel) (by decide +kernel)
set_option maxRecDepth 20000 in
theorem gX10_readsDigits_X10_isIn : GoodIn wsX10_readsDigits (va_wsS RX10 74 yX10_isIn wsX10_isIn) := goodIn_app (goodIn_of _ (by decide +kernel)) ggX10_readsDigits_X10_isIn
set_option maxRecDepth 20000 in
theorem ggX10_readsThing_X10_next : GoodIn wsX10_readsThing wsX10_next := goodIn_r _ [7, 2, 8, 9, 20, 21, 22, 23, 24, 25, 26, 27, 28, 29, 30, 31, 32, 33, 34, 35, 36, 37, 38, 39, 40, 41, 42, 43, 44] (by decide +kernel) (by decide +kernel)
set_option maxRecDepth 20000 in
theorem gX10_readsThing_X10_next : GoodIn wsX10_readsThing (wsV RX10 70 RX10 yX10_next wsX10_next) := goodIn_app (goodIn_of _ (by decide +kernel)) ggX10_readsThing_X10_next
set_option maxRecDepth 20000 in
theorem ggX10_readsThing_X10_kindOf : GoodIn wsX10_readsThing wsX10_kindOf := goodIn_r _ [12] (by decide +kernel) (by decide +kernel)
set_option maxRecDepth 20000 in
theorem gX10_readsThing_X10_kindOf : GoodIn wsX10_readsThing (va_wsS RX10 78 yX10_kindOf wsX10_kindOf) := goodIn_app (goodIn_of _ (by decide +kernel)) ggX10_readsThing_X10_kindOf
set_option maxRecDepth 20000 in
theorem ggX10_readsThing_X10_readsDigits : GoodIn wsX10_readsThing wsX10_readsDigits := goodIn_r _ [16, 2, 1, 3, 4, 5, 6, 7, 8, 9, 17, 18, 19, 20, 21, 22, 23, 24, 25, 26, 27, 28, 29, 30, 31, 32, 33, 34, 35, 36, 37, 38, 39, 40, 41, 42, 43, 44] (by decide +kernel) (by decide +kernel)
set_option maxRecDepth 20000 in
theorem gX10_readsThing_X10_readsDigits : GoodIn wsX10_readsThing (wsV RX10 81 RX10 yX10_readsDigits wsX10_readsDigits) := goodIn_app (goodIn_of _ (by decide +kernel)) ggX10_readsThing_X10_readsDigits
set_option maxRecDepth 20000 in
theorem ggX10_readsAll_X10_readsThing : GoodIn wsX10_readsAll wsX10_readsThing := goodIn_r _ [5, 6, 7, 8, 9, 10, 4, 11, 12, 13, 14, 15, 16, 17, 18, 19, 20, 21, 22, 23, 24, 25, 26, 27, 28, 29, 30, 31, 32, 33, 34, 35, 36, 37, 38, 39, 40, 41, 42, 43, 44, 45, 46, 47, 48] (by decide +kernel) (by decide +kernel)
set_option maxRecDepth 20000 in
theorem gX10_readsAll_X10_readsThing : GoodIn wsX10_readsAll (wsV RX10 84 RX10 yX10_readsThing wsX10_readsThing) := goodIn_app (goodIn_of _ (by decide +kernel)) ggX10_readsAll_X10_readsThing
set_option maxRecDepth 20000 in
theorem ggX10_readsAll_X10_readsDigits : GoodIn wsX10_readsAll wsX10_readsDigits := goodIn_r _ [20, 7, 6, 8, 9, 10, 4, 11, 12, 13, 21, 22, 23, 24, 25, 26, 27, 28, 29, 30, 31, 32, 33, 34, 35, 36, 37, 38, 39, 40, 41, 42, 43, 44, 45, 46, 47, 48] (by decide +kernel) (by decide +kernel)
set_option maxRecDepth 20000 in
theorem gX10_readsAll_X10_readsDigits : GoodIn wsX10_readsAll (wsV RX10 81 RX10 yX10_readsDigits wsX10_readsDigits) := goodIn_app (goodIn_of _ (by decide +kernel)) ggX10_readsAll_X10_readsDigits
set_option maxRecDepth 20000 in
theorem ggX10_statement_X10_next : GoodIn wsX10_statement wsX10_next := goodIn_r _ [9, 4, 10, 11, 31, 32, 33, 34, 35, 36, 37, 38, 39, 40, 41, 42, 43, 44, 45, 46, 47, 48, 49, 50, 51, 52, 53, 54, 55] (by decide +kernel) (by decide +kernel)
set_option maxRecDepth 20000 in
theorem gX10_statement_X10_next : GoodIn wsX10_statement (wsV RX10 70 RX10 yX10_next wsX10_next) := goodIn_app (goodIn_of _ (by decide +kernel)) ggX10_statement_X10_next
set_option maxRecDepth 20000 in
theorem ggX10_statement_X10_readsAll : GoodIn wsX10_statement wsX10_readsAll := goodIn_r _ [15, 16, 17, 18, 8, 19, 20, 4, 5, 6, 7, 9, 10, 11, 21, 22, 23, 24, 25, 26, 27, 28, 29, 30, 31, 32, 33, 34, 35, 36, 37, 38, 39, 40, 41, 42, 43, 44, 45, 46, 47, 48, 49, 50, 51, 52, 53, 54, 55] (by decide +kernel) (by decide +kernel)
set_option maxRecDepth 20000 in
theorem gX10_statement_X10_readsAll : GoodIn wsX10_statement (wsV RX10 91 RX10 yX10_readsAll wsX10_readsAll) := goodIn_app (goodIn_of _ (by decide +kernel)) ggX10_statement_X10_readsAll
set_option maxRecDepth 20000 in
theorem ggX10_comesCause_X10_isThing : GoodIn wsX10_comesCause wsX10_isThing := goodIn_r _ [6, 7, 8, 9, 10, 11, 12, 13, 14, 15, 16, 17, 18, 19, 20, 21, 22, 23, 24, 25, 26, 27, 28, 29, 30, 31, 32] (by decide +kernel) (by decide +kernel)
set_option maxRecDepth 20000 in
theorem gX10_comesCause_X10_isThing : GoodIn wsX10_comesCause (wsV RX10 100 RX10 yX10_isThing wsX10_isThing) := goodIn_app (goodIn_of _ (by decide +kernel)) ggX10_comesCause_X10_isThing
set_option maxRecDepth 20000 in
theorem ggX10_comesOf_X10_isThing : GoodIn wsX10_comesOf wsX10_isThing := goodIn_r _ [7, 8, 12, 13, 14, 15, 16, 17, 18, 19, 20, 21, 22, 23, 24, 25, 26, 27, 28, 29, 30, 31, 32, 33, 34, 35, 36] (by decide +kernel) (by decide +kernel)
set_option maxRecDepth 20000 in
theorem gX10_comesOf_X10_isThing : GoodIn wsX10_comesOf (wsV RX10 100 RX10 yX10_isThing wsX10_isThing) := goodIn_app (goodIn_of _ (by decide +kernel)) ggX10_comesOf_X10_isThing
set_option maxRecDepth 20000 in
theorem ggX10_comesOf_X10_has : GoodIn wsX10_comesOf wsX10_has := goodIn_r _ [11] (by decide +kernel) (by decide +kernel)
set_option maxRecDepth 20000 in
theorem gX10_comesOf_X10_has : GoodIn wsX10_comesOf (va_wsS RX10 52 yX10_has wsX10_has) := goodIn_app (goodIn_of _ (by decide +kernel)) ggX10_comesOf_X10_has
set_option maxRecDepth 20000 in
theorem ggX10_comesDays_X10_isIn : GoodIn wsX10_comesDays wsX10_isIn := goodIn_r _ [5] (by decide +kernel) (by decide +kernel)
set_option maxRecDepth 20000 in
theorem gX10_comesDays_X10_isIn : GoodIn wsX10_comesDays (va_wsS RX10 74 yX10_isIn wsX10_isIn) := goodIn_app (goodIn_of _ (by decide +kernel)) ggX10_comesDays_X10_isIn
set_option maxRecDepth 20000 in
theorem ggX10_comesDays_X10_goes : GoodIn wsX10_comesDays wsX10_goes := goodIn_r _ [9, 10, 11, 12, 4, 13, 1, 14, 15, 16, 17, 18, 19, 20, 21, 22, 23, 24, 25, 26, 27, 28, 29, 30, 31, 32, 33, 34, 35, 36, 37, 38, 39, 40, 41, 42, 43, 44, 45, 46, 47, 48, 49, 50, 51, 52, 53, 54] (by decide +kernel) (by decide +kernel)
set_option maxRecDepth 20000 in
theorem gX10_comesDays_X10_goes : GoodIn wsX10_comesDays (wsV RX10 106 RX10 yX10_goes wsX10_goes) := goodIn_app (goodIn_of _ (by decide +kernel)) ggX10_comesDays_X10_goes
set_option maxRecDepth 20000 in
theorem ggX10_comes_X10_comesThing : GoodIn wsX10_comes wsX10_comesThing := goodIn_r _ [7, 8, 9, 10, 11, 12, 13, 52, 53, 54, 55, 56, 57, 58, 59, 60, 61, 62, 63, 64, 65, 66, 67, 68, 69, 70, 71, 72, 73, 74, 75, 76] (by decide +kernel) (by decide +kernel)
set_option maxRecDepth 20000 in
theorem gX10_comes_X10_comesThing : GoodIn wsX10_comes (wsV RX10 110 RX10 yX10_comesThing wsX10_comesThing) := goodIn_app (goodIn_of _ (by decide +kernel)) ggX10_comes_X10_comesThing
set_option maxRecDepth 20000 in
theorem ggX10_comes_X10_comesCause : GoodIn wsX10_comes wsX10_comesCause := goodIn_r _ [17, 11, 18, 19, 20, 6, 21, 8, 52, 53, 54, 55, 56, 57, 58, 59, 60, 61, 62, 63, 64, 65, 66, 67, 68, 69, 70, 71, 72, 73, 74, 75, 76] (by decide +kernel) (by decide +kernel)
set_option maxRecDepth 20000 in
theorem gX10_comes_X10_comesCause : GoodIn wsX10_comes (wsV RX10 113 RX10 yX10_comesCause wsX10_comesCause) := goodIn_app (goodIn_of _ (by decide +kernel)) ggX10_comes_X10_comesCause
set_option maxRecDepth 20000 in
theorem ggX10_comes_X10_comesDays : GoodIn wsX10_comes wsX10_comesDays := goodIn_r _ [25, 26, 27, 28, 6, 29, 30, 31, 32, 33, 34, 35, 36, 37, 8, 12, 13, 11, 38, 39, 40, 41, 42, 43, 44, 45, 46, 47, 9, 10, 52, 53, 54, 55, 56, 57, 58, 59, 60, 61, 62, 63, 64, 65, 66, 67, 68, 69, 70, 71, 72, 73, 74, 75, 76] (by decide +kernel) (by decide +kernel)
set_option maxRecDepth 20000 in
theorem gX10_comes_X10_comesDays : GoodIn wsX10_comes (wsV RX10 116 RX10 yX10_comesDays wsX10_comesDays) := goodIn_app (goodIn_of _ (by decide +kernel)) ggX10_comes_X10_comesDays
set_option maxRecDepth 20000 in
theorem ggX10_comes_X10_comesOf : GoodIn wsX10_comes wsX10_comesOf := goodIn_r _ [51, 13, 12, 18, 19, 20, 6, 21, 8, 38, 39, 40, 52, 53, 54, 55, 56, 57, 58, 59, 60, 61, 62, 63, 64, 65, 66, 67, 68, 69, 70, 71, 72, 73, 74, 75, 76] (by decide +kernel) (by decide +kernel)
set_option maxRecDepth 20000 in
theorem gX10_comes_X10_comesOf : GoodIn wsX10_comes (wsV RX10 119 RX10 yX10_comesOf wsX10_comesOf) := goodIn_app (goodIn_of _ (by decide +kernel)) ggX10_comes_X10_comesOf
set_option maxRecDepth 20000 in
theorem ggX10_state_X10_statement : GoodIn wsX10_state wsX10_statement := goodIn_r _ [9, 10, 2, 4, 1, 11, 12, 13, 8, 14, 3, 15, 16, 17, 18, 19, 20, 21, 22, 23, 24, 25, 26, 27, 28, 29, 30, 31, 32, 33, 34, 99, 100, 101, 102, 103, 104, 105, 106, 107, 108, 109, 110, 111, 112, 113, 114, 115, 116, 117, 118, 119, 120, 121, 122, 123] (by decide +kernel) (by decide +kernel)
set_option maxRecDepth 20000 in
theorem gX10_state_X10_statement : GoodIn wsX10_state (wsV RX10 122 RX10 yX10_statement wsX10_statement) := goodIn_app (goodIn_of _ (by decide +kernel)) ggX10_state_X10_statement
set_option maxRecDepth 20000 in
theorem ggX10_state_X10_passesAll : GoodIn wsX10_state wsX10_passesAll := goodIn_r _ [38, 39, 40, 41, 42, 43, 44, 45, 46, 47, 48, 49, 50, 8, 51, 52, 53, 54, 55, 56, 99, 100, 101, 102, 103, 104, 105, 106, 107, 108, 109, 110, 111, 112, 113, 114, 115, 116, 117, 118, 119, 120, 121, 122, 123] (by decide +kernel) (by decide +kernel)
set_option maxRecDepth 20000 in
theorem gX10_state_X10_passesAll : GoodIn wsX10_state (wsV RX10 126 RX10 yX10_passesAll wsX10_passesAll) := goodIn_app (goodIn_of _ (by decide +kernel)) ggX10_state_X10_passesAll
set_option maxRecDepth 20000 in
theorem ggX10_state_X10_comes : GoodIn wsX10_state wsX10_comes := goodIn_r _ [60, 10, 24, 61, 62, 63, 8, 64, 44, 41, 42, 43, 46, 47, 65, 66, 67, 68, 69, 70, 71, 72, 73, 74, 75, 76, 45, 32, 33, 34, 77, 78, 79, 80, 81, 82, 83, 84, 85, 86, 87, 88, 89, 90, 91, 92, 93, 94, 95, 96, 97, 98, 99, 100, 101, 102, 103, 104, 105, 106, 107, 108, 109, 110, 111, 112, 113, 114, 115, 116, 117, 118, 119, 120, 121, 122, 123] (by decide +kernel) (by decide +kernel)
set_option maxRecDepth 20000 in
theorem gX10_state_X10_comes : GoodIn wsX10_state (wsV RX10 130 RX10 yX10_comes wsX10_comes) := goodIn_app (goodIn_of _ (by decide +kernel)) ggX10_state_X10_comes
set_option maxRecDepth 20000 in
theorem ggX10_passesAll_X10_passes : GoodIn wsX10_passesAll wsX10_passes := goodIn_r _ [14, 2, 15, 1, 20, 21, 22, 23, 24, 25, 26, 27, 28, 29, 30, 31, 32, 33, 34, 35, 36, 37, 38, 39, 40, 41, 42, 43, 44] (by decide +kernel) (by decide +kernel)
set_option maxRecDepth 20000 in
theorem gX10_passesAll_X10_passes : GoodIn wsX10_passesAll (wsV RX10 140 RX10 yX10_passes wsX10_passes) := goodIn_app (goodIn_of _ (by decide +kernel)) ggX10_passesAll_X10_passes
set_option maxRecDepth 20000 in
theorem ggX10_passesAll_X10_passOne : GoodIn wsX10_passesAll wsX10_passOne := goodIn_r _ [19, 2, 15, 1, 20, 21, 22, 23, 24, 25, 26, 27, 28, 29, 30, 31, 32, 33, 34, 35, 36, 37, 38, 39, 40, 41, 42, 43, 44] (by decide +kernel) (by decide +kernel)
set_option maxRecDepth 20000 in
theorem gX10_passesAll_X10_passOne : GoodIn wsX10_passesAll (wsV RX10 144 RX10 yX10_passOne wsX10_passOne) := goodIn_app (goodIn_of _ (by decide +kernel)) ggX10_passesAll_X10_passOne
set_option maxRecDepth 20000 in
theorem ggX10_thinks_X10_passesAll : GoodIn wsX10_thinks wsX10_passesAll := goodIn_r _ [5, 6, 7, 8, 9, 10, 11, 12, 13, 14, 15, 16, 17, 4, 18, 19, 20, 21, 22, 23, 24, 25, 26, 27, 28, 29, 30, 31, 32, 33, 34, 35, 36, 37, 38, 39, 40, 41, 42, 43, 44, 45, 46, 47, 48] (by decide +kernel) (by decide +kernel)
set_option maxRecDepth 20000 in
theorem gX10_thinks_X10_passesAll : GoodIn wsX10_thinks (wsV RX10 126 RX10 yX10_passesAll wsX10_passesAll) := goodIn_app (goodIn_of _ (by decide +kernel)) ggX10_thinks_X10_passesAll
set_option maxRecDepth 20000 in
theorem ggX10_forgets_X10_passesAll : GoodIn wsX10_forgets wsX10_passesAll := goodIn_r _ [5, 6, 7, 8, 9, 10, 11, 12, 13, 14, 15, 16, 17, 4, 18, 19, 20, 21, 22, 23, 24, 25, 26, 27, 28, 29, 30, 31, 32, 33, 34, 35, 36, 37, 38, 39, 40, 41, 42, 43, 44, 45, 46, 47, 48] (by decide +kernel) (by decide +kernel)
set_option maxRecDepth 20000 in
theorem gX10_forgets_X10_passesAll : GoodIn wsX10_forgets (wsV RX10 126 RX10 yX10_passesAll wsX10_passesAll) := goodIn_app (goodIn_of _ (by decide +kernel)) ggX10_forgets_X10_passesAll
set_option maxRecDepth 20000 in
theorem ggX10_image_X10_passesAll : GoodIn wsX10_image wsX10_passesAll := goodIn_r _ [7, 8, 9, 10, 11, 12, 13, 2, 14, 15, 16, 17, 18, 6, 19, 20, 21, 22, 23, 24, 25, 26, 27, 28, 29, 30, 31, 32, 33, 34, 35, 36, 37, 38, 39, 40, 41, 42, 43, 44, 45, 46, 47, 48, 49] (by decide +kernel) (by decide +kernel)
set_option maxRecDepth 20000 in
theorem gX10_image_X10_passesAll : GoodIn wsX10_image (wsV RX10 126 RX10 yX10_passesAll wsX10_passesAll) := goodIn_app (goodIn_of _ (by decide +kernel)) ggX10_image_X10_passesAll
set_option maxRecDepth 20000 in
theorem ggX10_on_X10_no : GoodIn wsX10_on wsX10_no := goodIn_r _ [7, 8, 30, 31, 32, 33, 34, 35, 36, 37, 38, 39, 40, 41, 42, 43, 44, 45, 46, 47, 48, 49, 50, 51, 52, 53, 54] (by decide +kernel) (by decide +kernel)
set_option maxRecDepth 20000 in
theorem gX10_on_X10_no : GoodIn wsX10_on (wsV RX10 63 RX10 yX10_no wsX10_no) := goodIn_app (goodIn_of _ (by decide +kernel)) ggX10_on_X10_no
set_option maxRecDepth 20000 in
theorem ggX10_on_X10_passesAll : GoodIn wsX10_on wsX10_passesAll := goodIn_r _ [12, 13, 14, 15, 16, 17, 18, 2, 19, 20, 21, 22, 23, 6, 24, 25, 26, 27, 28, 29, 30, 31, 32, 33, 34, 35, 36, 37, 38, 39, 40, 41, 42, 43, 44, 45, 46, 47, 48, 49, 50, 51, 52, 53, 54] (by decide +kernel) (by decide +kernel)
set_option maxRecDepth 20000 in
theorem gX10_on_X10_passesAll : GoodIn wsX10_on (wsV RX10 126 RX10 yX10_passesAll wsX10_passesAll) := goodIn_app (goodIn_of _ (by decide +kernel)) ggX10_on_X10_passesAll
set_option maxRecDepth 20000 in
theorem ggX10_needs_X10_bits : GoodIn wsX10_needs wsX10_bits := goodIn_r _ [8] (by decide +kernel) (by decide +kernel)
set_option maxRecDepth 20000 in
theorem gX10_needs_X10_bits : GoodIn wsX10_needs (va_wsS RX10 150 yX10_bits wsX10_bits) := goodIn_app (goodIn_of _ (by decide +kernel)) ggX10_needs_X10_bits
set_option maxRecDepth 20000 in
theorem ggX10_goesDay_X10_has : GoodIn wsX10_goesDay wsX10_has := goodIn_r _ [9] (by decide +kernel) (by decide +kernel)
set_option maxRecDepth 20000 in
theorem gX10_goesDay_X10_has : GoodIn wsX10_goesDay (va_wsS RX10 52 yX10_has wsX10_has) := goodIn_app (goodIn_of _ (by decide +kernel)) ggX10_goesDay_X10_has
set_option maxRecDepth 20000 in
theorem ggX10_goesDay_X10_bits : GoodIn wsX10_goesDay wsX10_bits := goodIn_r _ [12] (by decide +kernel) (by decide +kernel)
set_option maxRecDepth 20000 in
theorem gX10_goesDay_X10_bits : GoodIn wsX10_goesDay (va_wsS RX10 150 yX10_bits wsX10_bits) := goodIn_app (goodIn_of _ (by decide +kernel)) ggX10_goesDay_X10_bits
set_option maxRecDepth 20000 in
theorem ggX10_goesDay_X10_needs : GoodIn wsX10_goesDay wsX10_needs := goodIn_r _ [16, 5, 17, 1, 18, 10, 11, 8, 12, 19, 20, 21, 22, 23, 24, 25, 26, 27, 28, 29, 30, 31, 32, 33, 34, 35, 36, 37, 38, 39, 40, 41, 42, 43] (by decide +kernel) (by decide +kernel)
set_option maxRecDepth 20000 in
theorem gX10_goesDay_X10_needs : GoodIn wsX10_goesDay (wsV RX10 153 RX10 yX10_needs wsX10_needs) := goodIn_app (goodIn_of _ (by decide +kernel)) ggX10_goesDay_X10_needs
set_option maxRecDepth 20000 in
theorem ggX10_goes_X10_goesDay : GoodIn wsX10_goes wsX10_goesDay := goodIn_r _ [5, 6, 7, 8, 9, 10, 11, 12, 4, 13, 14, 15, 16, 17, 18, 19, 20, 21, 22, 23, 24, 25, 26, 27, 28, 29, 30, 31, 32, 33, 34, 35, 36, 37, 38, 39, 40, 41, 42, 43, 44, 45, 46, 47] (by decide +kernel) (by decide +kernel)
set_option maxRecDepth 20000 in
theorem gX10_goes_X10_goesDay : GoodIn wsX10_goes (wsV RX10 156 RX10 yX10_goesDay wsX10_goesDay) := goodIn_app (goodIn_of _ (by decide +kernel)) ggX10_goes_X10_goesDay
set_option maxRecDepth 20000 in
theorem ggX10_lostIn_X10_thinks : GoodIn wsX10_lostIn wsX10_thinks := goodIn_r _ [6, 7, 8, 9, 5, 10, 11, 12, 13, 14, 15, 16, 17, 1, 18, 19, 20, 21, 22, 23, 24, 25, 26, 27, 50, 51, 52, 53, 54, 55, 56, 57, 58, 59, 60, 61, 62, 63, 64, 65, 66, 67, 68, 69, 70, 71, 72, 73, 74] (by decide +kernel) (by decide +kernel)
set_option maxRecDepth 20000 in
theorem gX10_lostIn_X10_thinks : GoodIn wsX10_lostIn (wsV RX10 159 RX10 yX10_thinks wsX10_thinks) := goodIn_app (goodIn_of _ (by decide +kernel)) ggX10_lostIn_X10_thinks
set_option maxRecDepth 20000 in
theorem ggX10_lostIn_X10_goes : GoodIn wsX10_lostIn wsX10_goes := goodIn_r _ [31, 32, 33, 34, 5, 35, 17, 16, 1, 18, 15, 36, 37, 38, 39, 40, 41, 42, 43, 44, 45, 13, 14, 50, 51, 52, 53, 54, 55, 56, 57, 58, 59, 60, 61, 62, 63, 64, 65, 66, 67, 68, 69, 70, 71, 72, 73, 74] (by decide +kernel) (by decide +kernel)
set_option maxRecDepth 20000 in
theorem gX10_lostIn_X10_goes : GoodIn wsX10_lostIn (wsV RX10 106 RX10 yX10_goes wsX10_goes) := goodIn_app (goodIn_of _ (by decide +kernel)) ggX10_lostIn_X10_goes
set_option maxRecDepth 20000 in
theorem ggX10_lostIn_X10_forgets : GoodIn wsX10_lostIn wsX10_forgets := goodIn_r _ [49, 7, 8, 9, 5, 10, 11, 12, 13, 14, 15, 16, 17, 1, 18, 19, 20, 21, 22, 23, 24, 25, 26, 27, 50, 51, 52, 53, 54, 55, 56, 57, 58, 59, 60, 61, 62, 63, 64, 65, 66, 67, 68, 69, 70, 71, 72, 73, 74] (by decide +kernel) (by decide +kernel)
set_option maxRecDepth 20000 in
theorem gX10_lostIn_X10_forgets : GoodIn wsX10_lostIn (wsV RX10 162 RX10 yX10_forgets wsX10_forgets) := goodIn_app (goodIn_of _ (by decide +kernel)) ggX10_lostIn_X10_forgets
set_option maxRecDepth 20000 in
theorem ggX10_lostWhen_X10_thinks : GoodIn wsX10_lostWhen wsX10_thinks := goodIn_r _ [6, 7, 8, 9, 5, 10, 11, 12, 13, 14, 15, 16, 17, 1, 18, 19, 20, 21, 22, 23, 24, 25, 26, 27, 46, 47, 48, 49, 50, 51, 52, 53, 54, 55, 56, 57, 58, 59, 60, 61, 62, 63, 64, 65, 66, 67, 68, 69, 70] (by decide +kernel) (by decide +kernel)
set_option maxRecDepth 20000 in
theorem gX10_lostWhen_X10_thinks : GoodIn wsX10_lostWhen (wsV RX10 159 RX10 yX10_thinks wsX10_thinks) := goodIn_app (goodIn_of _ (by decide +kernel)) ggX10_lostWhen_X10_thinks
set_option maxRecDepth 20000 in
theorem ggX10_lostWhen_X10_has : GoodIn wsX10_lostWhen wsX10_has := goodIn_r _ [30] (by decide +kernel) (by decide +kernel)
set_option maxRecDepth 20000 in
theorem gX10_lostWhen_X10_has : GoodIn wsX10_lostWhen (va_wsS RX10 52 yX10_has wsX10_has) := goodIn_app (goodIn_of _ (by decide +kernel)) ggX10_lostWhen_X10_has
set_option maxRecDepth 20000 in
theorem ggX10_lostWhen_X10_goesDay : GoodIn wsX10_lostWhen wsX10_goesDay := goodIn_r _ [34, 17, 16, 1, 18, 15, 28, 29, 5, 30, 35, 36, 37, 38, 39, 40, 41, 13, 14, 46, 47, 48, 49, 50, 51, 52, 53, 54, 55, 56, 57, 58, 59, 60, 61, 62, 63, 64, 65, 66, 67, 68, 69, 70] (by decide +kernel) (by decide +kernel)
set_option maxRecDepth 20000 in
theorem gX10_lostWhen_X10_goesDay : GoodIn wsX10_lostWhen (wsV RX10 156 RX10 yX10_goesDay wsX10_goesDay) := goodIn_app (goodIn_of _ (by decide +kernel)) ggX10_lostWhen_X10_goesDay
set_option maxRecDepth 20000 in
theorem ggX10_lostWhen_X10_forgets : GoodIn wsX10_lostWhen wsX10_forgets := goodIn_r _ [45, 7, 8, 9, 5, 10, 11, 12, 13, 14, 15, 16, 17, 1, 18, 19, 20, 21, 22, 23, 24, 25, 26, 27, 46, 47, 48, 49, 50, 51, 52, 53, 54, 55, 56, 57, 58, 59, 60, 61, 62, 63, 64, 65, 66, 67, 68, 69, 70] (by decide +kernel) (by decide +kernel)
set_option maxRecDepth 20000 in
theorem gX10_lostWhen_X10_forgets : GoodIn wsX10_lostWhen (wsV RX10 162 RX10 yX10_forgets wsX10_forgets) := goodIn_app (goodIn_of _ (by decide +kernel)) ggX10_lostWhen_X10_forgets
set_option maxRecDepth 20000 in
theorem ggX10_lostWith_X10_lostIn : GoodIn wsX10_lostWith wsX10_lostIn := goodIn_r _ [6, 1, 7, 8, 9, 5, 10, 11, 12, 13, 14, 15, 16, 17, 18, 19, 20, 21, 22, 23, 24, 25, 26, 27, 28, 29, 30, 31, 32, 33, 34, 35, 36, 37, 38, 39, 40, 41, 42, 43, 44, 45, 46, 47, 48, 49, 50, 51, 52, 53, 54, 55, 56, 57, 58, 59, 60, 61, 62, 63, 64, 65, 66, 67, 68, 69, 70, 71, 72, 73, 74, 75, 76, 77, 78] (by decide +kernel) (by decide +kernel)
set_option maxRecDepth 20000 in
theorem gX10_lostWith_X10_lostIn : GoodIn wsX10_lostWith (wsV RX10 165 RX10 yX10_lostIn wsX10_lostIn) := goodIn_app (goodIn_of _ (by decide +kernel)) ggX10_lostWith_X10_lostIn
set_option maxRecDepth 20000 in
theorem ggX10_depthOf_X10_has : GoodIn wsX10_depthOf wsX10_has := goodIn_r _ [7] (by decide +kernel) (by decide +kernel)
set_option maxRecDepth 20000 in
theorem gX10_depthOf_X10_has : GoodIn wsX10_depthOf (va_wsS RX10 52 yX10_has wsX10_has) := goodIn_app (goodIn_of _ (by decide +kernel)) ggX10_depthOf_X10_has

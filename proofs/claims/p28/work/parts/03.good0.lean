set_option maxRecDepth 20000 in
theorem ggX0_gather_X3_loadNobody : GoodIn wsX0_gather wsX3_loadNobody := goodIn_r _ [15, 16, 17, 18, 19, 20, 106, 107, 108, 109, 110, 111, 112, 113, 114, 115, 116, 117, 118, 119, 120, 121, 122, 123, 124, 125, 126, 127, 128, 129, 130, 131, 132, 133] rfl (by decide +kernel)
set_option maxRecDepth 20000 in
theorem gX0_gather_X3_loadNobody : GoodIn wsX0_gather (wsV RX0 54 RX3 yX3_loadNobody wsX3_loadNobody) := goodIn_app (goodIn_r _ [11, 12, 13, 14] rfl (by decide +kernel)) ggX0_gather_X3_loadNobody
set_option maxRecDepth 20000 in
theorem ggX0_gather_X3_reckon : GoodIn wsX0_gather wsX3_reckon := goodIn_r _ [24, 25, 26, 27, 14, 28, 29, 16, 17, 30, 31, 32, 33, 34, 35, 36, 37, 38, 39, 40, 41, 42, 43, 44, 45, 46, 47, 48, 49, 50, 18, 51, 52, 53, 106, 107, 108, 109, 110, 111, 112, 113, 114, 115, 116, 117, 118, 119, 120, 121, 122, 123, 124, 125, 126, 127, 128, 129, 130, 131, 132, 133] rfl (by decide +kernel)
set_option maxRecDepth 20000 in
theorem gX0_gather_X3_reckon : GoodIn wsX0_gather (wsV RX0 57 RX3 yX3_reckon wsX3_reckon) := goodIn_app (goodIn_r _ [21, 22, 23, 14] rfl (by decide +kernel)) ggX0_gather_X3_reckon
set_option maxRecDepth 20000 in
theorem ggX0_gather_X0_noteLimits : GoodIn wsX0_gather wsX0_noteLimits := goodIn_r _ [58, 59, 5, 60, 61, 1, 62, 63, 64, 65, 14, 66, 51, 16, 67, 68, 69, 70, 71, 72, 73, 29, 19, 106, 107, 108, 109, 110, 111, 112, 113, 114, 115, 116, 117, 118, 119, 120, 121, 134, 135, 136, 137, 138, 139, 140, 141, 142, 122, 123, 124, 125, 126, 127, 128, 129, 130, 131, 132, 133] rfl (by decide +kernel)
set_option maxRecDepth 20000 in
theorem gX0_gather_X0_noteLimits : GoodIn wsX0_gather (wsV RX0 60 RX0 yX0_noteLimits wsX0_noteLimits) := goodIn_app (goodIn_r _ [54, 55, 56, 57] rfl (by decide +kernel)) ggX0_gather_X0_noteLimits
set_option maxRecDepth 20000 in
theorem ggX0_gather_X0_noteBorne : GoodIn wsX0_gather wsX0_noteBorne := goodIn_r _ [77, 59, 78, 5, 79, 106, 107, 108, 109, 110, 111, 112, 113, 114, 115, 116, 117, 118, 119, 120, 121, 134, 135, 136, 137, 138, 139, 140, 141, 142] rfl (by decide +kernel)
set_option maxRecDepth 20000 in
theorem gX0_gather_X0_noteBorne : GoodIn wsX0_gather (wsV RX0 64 RX0 yX0_noteBorne wsX0_noteBorne) := goodIn_app (goodIn_r _ [74, 75, 76, 57] rfl (by decide +kernel)) ggX0_gather_X0_noteBorne
set_option maxRecDepth 20000 in
theorem ggX0_gather_X3_loadOnlyOne : GoodIn wsX0_gather wsX3_loadOnlyOne := goodIn_r _ [83, 16, 17, 18, 106, 107, 108, 109, 110, 111, 112, 113, 114, 115, 116, 117, 118, 119, 120, 121, 122, 123, 124, 125, 126, 127, 128, 129, 130, 131, 132, 133] rfl (by decide +kernel)
set_option maxRecDepth 20000 in
theorem gX0_gather_X3_loadOnlyOne : GoodIn wsX0_gather (wsV RX0 68 RX3 yX3_loadOnlyOne wsX3_loadOnlyOne) := goodIn_app (goodIn_r _ [80, 81, 82, 14] rfl (by decide +kernel)) ggX0_gather_X3_loadOnlyOne
set_option maxRecDepth 20000 in
theorem ggX0_gather_X0_keepWhatMatters : GoodIn wsX0_gather wsX0_keepWhatMatters := goodIn_r _ [87, 60, 5, 3, 8, 88, 89, 34, 90, 7, 61, 134, 135, 136, 137, 138, 139, 140, 141, 142] rfl (by decide +kernel)
set_option maxRecDepth 20000 in
theorem gX0_gather_X0_keepWhatMatters : GoodIn wsX0_gather (wsV RX0 72 RX0 yX0_keepWhatMatters wsX0_keepWhatMatters) := goodIn_app (goodIn_r _ [84, 85, 86, 57] rfl (by decide +kernel)) ggX0_gather_X0_keepWhatMatters
set_option maxRecDepth 20000 in
theorem ggX0_gather_X0_power : GoodIn wsX0_gather wsX0_power := goodIn_r _ [93] rfl (by decide +kernel)
set_option maxRecDepth 20000 in
theorem gX0_gather_X0_power : GoodIn wsX0_gather (va_wsS RX0 76 yX0_power wsX0_power) := goodIn_app (goodIn_r _ [91, 92, 57] rfl (by decide +kernel)) ggX0_gather_X0_power
set_option maxRecDepth 20000 in
theorem ggX0_gather_X0_badWays : GoodIn wsX0_gather wsX0_badWays := goodIn_r _ [97, 6, 5, 60, 3, 98, 99, 100, 57, 101, 7, 61, 91, 92, 93, 102, 103, 104, 105, 8, 94, 95, 96, 134, 135, 136, 137, 138, 139, 140, 141, 142] rfl (by decide +kernel)
set_option maxRecDepth 20000 in
theorem gX0_gather_X0_badWays : GoodIn wsX0_gather (wsV RX0 80 RX0 yX0_badWays wsX0_badWays) := goodIn_app (goodIn_r _ [94, 95, 96, 57] rfl (by decide +kernel)) ggX0_gather_X0_badWays
set_option maxRecDepth 20000 in
theorem ggX0_noteLimits_X3_canWhereHung : GoodIn wsX0_noteLimits wsX3_canWhereHung := goodIn_r _ [11, 12, 13, 14, 15, 16, 23, 24, 25, 26, 27, 28, 29, 30, 31, 32, 33, 34, 35, 36, 37, 38, 48, 49, 50, 51, 52, 53, 54, 55, 56, 57, 58, 59] rfl (by decide +kernel)
set_option maxRecDepth 20000 in
theorem gX0_noteLimits_X3_canWhereHung : GoodIn wsX0_noteLimits (wsV RX0 86 RX3 yX3_canWhereHung wsX3_canWhereHung) := goodIn_app (goodIn_r _ [7, 8, 9, 10] rfl (by decide +kernel)) ggX0_noteLimits_X3_canWhereHung
set_option maxRecDepth 20000 in
theorem ggX0_noteLimits_X3_unit : GoodIn wsX0_noteLimits wsX3_unit := goodIn_r _ [20, 21, 22, 23, 24, 25, 26, 27, 28, 29, 30, 31, 32, 33, 34, 35, 36, 37, 38] rfl (by decide +kernel)
set_option maxRecDepth 20000 in
theorem gX0_noteLimits_X3_unit : GoodIn wsX0_noteLimits (wsV RX0 90 RX3 yX3_unit wsX3_unit) := goodIn_app (goodIn_r _ [17, 18, 19, 10] rfl (by decide +kernel)) ggX0_noteLimits_X3_unit
set_option maxRecDepth 20000 in
theorem ggX0_badWays_X0_isBadAt : GoodIn wsX0_badWays wsX0_isBadAt := goodIn_r _ [9, 3, 10, 11, 23, 24, 25, 26, 27, 28, 29, 30, 31] rfl (by decide +kernel)
set_option maxRecDepth 20000 in
theorem gX0_badWays_X0_isBadAt : GoodIn wsX0_badWays (wsV RX0 109 RX0 yX0_isBadAt wsX0_isBadAt) := goodIn_app (goodIn_r _ [5, 6, 7, 8] rfl (by decide +kernel)) ggX0_badWays_X0_isBadAt
set_option maxRecDepth 20000 in
theorem ggX0_badWays_X0_power : GoodIn wsX0_badWays wsX0_power := goodIn_r _ [14] rfl (by decide +kernel)
set_option maxRecDepth 20000 in
theorem gX0_badWays_X0_power : GoodIn wsX0_badWays (va_wsS RX0 76 yX0_power wsX0_power) := goodIn_app (goodIn_r _ [12, 13, 8] rfl (by decide +kernel)) ggX0_badWays_X0_power
set_option maxRecDepth 20000 in
theorem ggX0_badWays_X0_standHere : GoodIn wsX0_badWays wsX0_standHere := goodIn_r _ [18, 3, 10, 19, 23, 24, 25, 26, 27, 28, 29, 30, 31] rfl (by decide +kernel)
set_option maxRecDepth 20000 in
theorem gX0_badWays_X0_standHere : GoodIn wsX0_badWays (wsV RX0 113 RX0 yX0_standHere wsX0_standHere) := goodIn_app (goodIn_r _ [15, 16, 17, 8] rfl (by decide +kernel)) ggX0_badWays_X0_standHere
set_option maxRecDepth 20000 in
theorem ggX0_badWays_X0_badWays : GoodIn wsX0_badWays wsX0_badWays := goodIn_r _ [0, 1, 2, 3, 4, 5, 6, 7, 8, 9, 10, 11, 12, 13, 14, 15, 16, 17, 18, 19, 20, 21, 22, 23, 24, 25, 26, 27, 28, 29, 30, 31] rfl (by decide +kernel)
set_option maxRecDepth 20000 in
theorem gX0_badWays_X0_badWays : GoodIn wsX0_badWays (wsV RX0 80 RX0 yX0_badWays wsX0_badWays) := goodIn_app (goodIn_r _ [20, 21, 22, 8] rfl (by decide +kernel)) ggX0_badWays_X0_badWays
set_option maxRecDepth 20000 in
theorem ggX1_run_X3_openFloors : GoodIn wsX1_run wsX3_openFloors := goodIn_r _ [8, 9, 10, 11, 12, 13, 14, 15, 7, 16, 17, 97, 98, 99, 100, 101, 102, 103, 104, 105, 106, 107, 108, 109, 110, 111, 112, 113, 114, 115, 116, 117, 118, 119, 120, 121, 122, 123, 124] rfl (by decide +kernel)
set_option maxRecDepth 20000 in
theorem gX1_run_X3_openFloors : GoodIn wsX1_run (wsV RX1 22 RX3 yX3_openFloors wsX3_openFloors) := goodIn_app (goodIn_r _ [4, 5, 6, 7] rfl (by decide +kernel)) ggX1_run_X3_openFloors
set_option maxRecDepth 20000 in
theorem ggX1_run_X3_worstJoint : GoodIn wsX1_run wsX3_worstJoint := goodIn_r _ [21, 22, 23, 24, 25, 7, 26, 27, 28, 13, 14, 15, 16, 17, 29, 30, 31, 32, 10, 33, 34, 35, 36, 37, 38, 39, 40, 41, 42, 11, 43, 44, 45, 46, 47, 48, 49, 50, 97, 98, 99, 100, 101, 102, 103, 104, 105, 106, 107, 108, 109, 110, 111, 112, 113, 114, 115, 116, 117, 118, 119, 120, 121, 122, 123, 124] rfl (by decide +kernel)
set_option maxRecDepth 20000 in
theorem gX1_run_X3_worstJoint : GoodIn wsX1_run (wsV RX1 28 RX3 yX3_worstJoint wsX3_worstJoint) := goodIn_app (goodIn_r _ [18, 19, 20, 7] rfl (by decide +kernel)) ggX1_run_X3_worstJoint
set_option maxRecDepth 20000 in
theorem ggX1_run_X3_isBeyond : GoodIn wsX1_run wsX3_isBeyond := goodIn_r _ [54, 23, 24, 25, 7, 26, 27, 28, 13, 14, 15, 16, 17, 29, 30, 31, 32, 10, 33, 34, 35, 36, 37, 38, 39, 40, 41, 42, 11, 43, 44, 45, 46, 47, 48, 49, 50, 55, 56, 57, 58, 59, 60, 97, 98, 99, 100, 101, 102, 103, 104, 105, 106, 107, 108, 109, 110, 111, 112, 113, 114, 115, 116, 117, 118, 119, 120, 121, 122, 123, 124] rfl (by decide +kernel)
set_option maxRecDepth 20000 in
theorem gX1_run_X3_isBeyond : GoodIn wsX1_run (wsV RX1 31 RX3 yX3_isBeyond wsX3_isBeyond) := goodIn_app (goodIn_r _ [51, 52, 53, 7] rfl (by decide +kernel)) ggX1_run_X3_isBeyond
set_option maxRecDepth 20000 in
theorem ggX1_run_X1_letGo : GoodIn wsX1_run wsX1_letGo := goodIn_r _ [64, 65, 66, 67, 68, 97, 98, 99, 100, 101, 102, 103, 104, 105, 106, 107, 108, 109, 110, 111, 112] rfl (by decide +kernel)
set_option maxRecDepth 20000 in
theorem gX1_run_X1_letGo : GoodIn wsX1_run (va_wsS RX1 35 yX1_letGo wsX1_letGo) := goodIn_app (goodIn_r _ [61, 62, 63] rfl (by decide +kernel)) ggX1_run_X1_letGo
set_option maxRecDepth 20000 in
theorem ggX1_run_X1_dropFloors : GoodIn wsX1_run wsX1_dropFloors := goodIn_r _ [72, 1, 73, 67, 74, 4, 5, 6, 7, 8, 9, 10, 11, 12, 13, 14, 15, 16, 17, 94, 95, 96, 97, 98, 99, 100, 101, 102, 103, 104, 105, 106, 107, 108, 109, 110, 111, 112, 113, 114, 115, 116, 117, 118, 119, 120, 121, 122, 123, 124] rfl (by decide +kernel)
set_option maxRecDepth 20000 in
theorem gX1_run_X1_dropFloors : GoodIn wsX1_run (wsV RX1 39 RX1 yX1_dropFloors wsX1_dropFloors) := goodIn_app (goodIn_r _ [69, 70, 71, 63] rfl (by decide +kernel)) ggX1_run_X1_dropFloors
set_option maxRecDepth 20000 in
theorem ggX1_run_X3_reckon : GoodIn wsX1_run wsX3_reckon := goodIn_r _ [78, 79, 80, 81, 7, 82, 59, 11, 12, 9, 83, 84, 85, 86, 87, 29, 30, 31, 32, 10, 13, 14, 15, 16, 17, 88, 89, 90, 91, 37, 92, 48, 93, 38, 97, 98, 99, 100, 101, 102, 103, 104, 105, 106, 107, 108, 109, 110, 111, 112, 113, 114, 115, 116, 117, 118, 119, 120, 121, 122, 123, 124] rfl (by decide +kernel)
set_option maxRecDepth 20000 in
theorem gX1_run_X3_reckon : GoodIn wsX1_run (wsV RX1 42 RX3 yX3_reckon wsX3_reckon) := goodIn_app (goodIn_r _ [75, 76, 77, 7] rfl (by decide +kernel)) ggX1_run_X3_reckon
set_option maxRecDepth 20000 in
theorem ggX1_dropFloors_X3_openFloors : GoodIn wsX1_dropFloors wsX3_openFloors := goodIn_r _ [9, 10, 11, 12, 13, 14, 15, 16, 8, 17, 18, 22, 23, 24, 25, 26, 27, 28, 29, 30, 31, 32, 33, 34, 35, 36, 37, 38, 39, 40, 41, 42, 43, 44, 45, 46, 47, 48, 49] rfl (by decide +kernel)
set_option maxRecDepth 20000 in
theorem gX1_dropFloors_X3_openFloors : GoodIn wsX1_dropFloors (wsV RX1 22 RX3 yX3_openFloors wsX3_openFloors) := goodIn_app (goodIn_r _ [5, 6, 7, 8] rfl (by decide +kernel)) ggX1_dropFloors_X3_openFloors
set_option maxRecDepth 20000 in
theorem ggX2_partOf_X10_isPart : GoodIn wsX2_partOf wsX10_isPart := goodIn_r _ [4] rfl (by decide +kernel)
set_option maxRecDepth 20000 in
theorem gX2_partOf_X10_isPart_n11 : GoodIn wsX2_partOf (wsX10_isPart) := ggX2_partOf_X10_isPart
set_option maxRecDepth 20000 in
theorem ggX2_partOf_X2_greatestCommon : GoodIn wsX2_partOf wsX2_greatestCommon := goodIn_r _ [8] rfl (by decide +kernel)
set_option maxRecDepth 20000 in
theorem gX2_partOf_X2_greatestCommon : GoodIn wsX2_partOf (va_wsS RX2 17 yX2_greatestCommon wsX2_greatestCommon) := goodIn_app (goodIn_r _ [5, 6, 7] rfl (by decide +kernel)) ggX2_partOf_X2_greatestCommon
set_option maxRecDepth 20000 in
theorem ggX2_order_J13_compare_74951 : GoodIn wsX2_order wsJ13_compare_74951 := goodIn_r _ [4] rfl (by decide +kernel)
set_option maxRecDepth 20000 in
theorem gX2_order_J13_compare_74951 : GoodIn wsX2_order (va_wsS RX2 21 yJ13_compare_74951 wsJ13_compare_74951) := goodIn_app (goodIn_r _ [1, 2, 3] rfl (by decide +kernel)) ggX2_order_J13_compare_74951
set_option maxRecDepth 20000 in
theorem ggX3_init_X7_init : GoodIn wsX3_init wsX7_init := goodIn_r _ [26, 27, 2, 3, 28, 16, 29, 11, 30, 31, 32, 33, 34, 35, 36, 37, 38, 39, 40, 41, 42, 43, 44, 45, 46, 47, 48, 49, 50, 51] rfl (by decide +kernel)
set_option maxRecDepth 20000 in
theorem gX3_init_X7_init_n11 : GoodIn wsX3_init (wsX7_init) := ggX3_init_X7_init
set_option maxRecDepth 20000 in
theorem ggX3_draw_X3_addJoint : GoodIn wsX3_draw wsX3_addJoint := goodIn_r _ [17, 7, 18, 19, 28, 29, 30, 31, 32, 33, 34, 35, 36, 37, 38, 39, 40, 41, 42, 43] rfl (by decide +kernel)
set_option maxRecDepth 20000 in
theorem gX3_draw_X3_addJoint : GoodIn wsX3_draw (wsV RX3 75 RX3 yX3_addJoint wsX3_addJoint) := goodIn_app (goodIn_r _ [13, 14, 15, 16] rfl (by decide +kernel)) ggX3_draw_X3_addJoint
set_option maxRecDepth 20000 in
theorem ggX3_draw_X3_isHeldBy : GoodIn wsX3_draw wsX3_isHeldBy := goodIn_r _ [23, 10, 24, 25, 26, 16, 27, 6, 28, 29, 30, 31, 32, 33, 34, 35, 36, 37, 38, 39, 40, 41, 42, 43] rfl (by decide +kernel)
set_option maxRecDepth 20000 in
theorem gX3_draw_X3_isHeldBy : GoodIn wsX3_draw (wsV RX3 82 RX3 yX3_isHeldBy wsX3_isHeldBy) := goodIn_app (goodIn_r _ [20, 21, 22, 16] rfl (by decide +kernel)) ggX3_draw_X3_isHeldBy
set_option maxRecDepth 20000 in
theorem ggX3_loadPeople_X3_loadNobody : GoodIn wsX3_loadPeople wsX3_loadNobody := goodIn_r _ [8, 1, 2, 3, 9, 10, 11, 12, 13, 14, 15, 16, 17, 18, 19, 20, 21, 22, 23, 24, 25, 26, 27, 28, 29, 30, 31, 32, 33, 34, 35, 36, 37, 38] rfl (by decide +kernel)
set_option maxRecDepth 20000 in
theorem gX3_loadPeople_X3_loadNobody : GoodIn wsX3_loadPeople (wsV RX3 91 RX3 yX3_loadNobody wsX3_loadNobody) := goodIn_app (goodIn_r _ [4, 5, 6, 7] rfl (by decide +kernel)) ggX3_loadPeople_X3_loadNobody
set_option maxRecDepth 20000 in
theorem ggX3_isBeyondWith_X3_passUp : GoodIn wsX3_isBeyondWith wsX3_passUp := goodIn_r _ [9, 10, 11, 3, 12, 1, 13, 14, 15, 16, 17, 18, 19, 20, 8, 21, 22, 23, 24, 25, 26, 27, 43, 44, 45, 46, 47, 48, 49, 50, 51, 52, 53, 54, 55, 56, 57, 58, 59, 60, 61, 62, 63, 64, 65, 66, 67, 68, 69, 70] rfl (by decide +kernel)
set_option maxRecDepth 20000 in
theorem gX3_isBeyondWith_X3_passUp : GoodIn wsX3_isBeyondWith (wsV RX3 94 RX3 yX3_passUp wsX3_passUp) := goodIn_app (goodIn_r _ [5, 6, 7, 8] rfl (by decide +kernel)) ggX3_isBeyondWith_X3_passUp
set_option maxRecDepth 20000 in
theorem ggX3_isBeyondWith_X3_isAnyBeyond : GoodIn wsX3_isBeyondWith wsX3_isAnyBeyond := goodIn_r _ [31, 10, 11, 3, 12, 17, 16, 32, 18, 19, 20, 8, 21, 22, 33, 34, 35, 36, 14, 37, 38, 39, 40, 41, 42, 13, 2, 43, 44, 45, 46, 47, 48, 49, 50, 51, 52, 53, 54, 55, 56, 57, 58, 59, 60, 61, 62, 63, 64, 65, 66, 67, 68, 69, 70] rfl (by decide +kernel)
set_option maxRecDepth 20000 in
theorem gX3_isBeyondWith_X3_isAnyBeyond : GoodIn wsX3_isBeyondWith (wsV RX3 97 RX3 yX3_isAnyBeyond wsX3_isAnyBeyond) := goodIn_app (goodIn_r _ [28, 29, 30, 8] rfl (by decide +kernel)) ggX3_isBeyondWith_X3_isAnyBeyond
set_option maxRecDepth 20000 in
theorem ggX3_reckon_X3_countHolders : GoodIn wsX3_reckon wsX3_countHolders := goodIn_r _ [5, 6, 7, 8, 9, 10, 11, 12, 13, 14, 15, 16, 17, 4, 18, 19, 20, 21, 22, 23, 24, 34, 35, 36, 37, 38, 39, 40, 41, 42, 43, 44, 45, 46, 47, 48, 49, 50, 51, 52, 53, 54, 55, 56, 57, 58, 59, 60, 61] rfl (by decide +kernel)
set_option maxRecDepth 20000 in
theorem gX3_reckon_X3_countHolders : GoodIn wsX3_reckon (wsV RX3 101 RX3 yX3_countHolders wsX3_countHolders) := goodIn_app (goodIn_r _ [1, 2, 3, 4] rfl (by decide +kernel)) ggX3_reckon_X3_countHolders
set_option maxRecDepth 20000 in
theorem ggX3_reckon_X3_passUp : GoodIn wsX3_reckon wsX3_passUp := goodIn_r _ [28, 9, 29, 7, 8, 30, 6, 31, 32, 33, 10, 20, 21, 22, 4, 23, 24, 15, 16, 17, 18, 19, 34, 35, 36, 37, 38, 39, 40, 41, 42, 43, 44, 45, 46, 47, 48, 49, 50, 51, 52, 53, 54, 55, 56, 57, 58, 59, 60, 61] rfl (by decide +kernel)
set_option maxRecDepth 20000 in
theorem gX3_reckon_X3_passUp : GoodIn wsX3_reckon (wsV RX3 94 RX3 yX3_passUp wsX3_passUp) := goodIn_app (goodIn_r _ [25, 26, 27, 4] rfl (by decide +kernel)) ggX3_reckon_X3_passUp
set_option maxRecDepth 20000 in
theorem ggX3_passUp_X3_isThere : GoodIn wsX3_passUp wsX3_isThere := goodIn_r _ [15, 16, 22, 23, 24, 25, 26, 27, 28, 29, 30, 31, 32, 33, 34, 35, 36, 37] rfl (by decide +kernel)
set_option maxRecDepth 20000 in
theorem gX3_passUp_X3_isThere : GoodIn wsX3_passUp (wsV RX3 104 RX3 yX3_isThere wsX3_isThere) := goodIn_app (goodIn_r _ [11, 12, 13, 14] rfl (by decide +kernel)) ggX3_passUp_X3_isThere
set_option maxRecDepth 20000 in
theorem ggX3_passUp_X3_isHeldBy : GoodIn wsX3_passUp wsX3_isHeldBy := goodIn_r _ [20, 21, 11, 12, 13, 14, 15, 16, 22, 23, 24, 25, 26, 27, 28, 29, 30, 31, 32, 33, 34, 35, 36, 37] rfl (by decide +kernel)
set_option maxRecDepth 20000 in
theorem gX3_passUp_X3_isHeldBy : GoodIn wsX3_passUp (wsV RX3 82 RX3 yX3_isHeldBy wsX3_isHeldBy) := goodIn_app (goodIn_r _ [17, 18, 19, 14] rfl (by decide +kernel)) ggX3_passUp_X3_isHeldBy
set_option maxRecDepth 20000 in
theorem ggX3_countHolders_X3_isHeldBy : GoodIn wsX3_countHolders wsX3_isHeldBy := goodIn_r _ [14, 15, 16, 17, 18, 13, 19, 20, 21, 22, 23, 24, 25, 26, 27, 28, 29, 30, 31, 32, 33, 34, 35, 36] rfl (by decide +kernel)
set_option maxRecDepth 20000 in
theorem gX3_countHolders_X3_isHeldBy : GoodIn wsX3_countHolders (wsV RX3 82 RX3 yX3_isHeldBy wsX3_isHeldBy) := goodIn_app (goodIn_r _ [10, 11, 12, 13] rfl (by decide +kernel)) ggX3_countHolders_X3_isHeldBy
set_option maxRecDepth 20000 in
theorem ggX3_isHeldBy_X3_isThere : GoodIn wsX3_isHeldBy wsX3_isThere := goodIn_r _ [6, 7, 8, 9, 10, 11, 12, 13, 14, 15, 16, 17, 18, 19, 20, 21, 22, 23] rfl (by decide +kernel)
set_option maxRecDepth 20000 in
theorem gX3_isHeldBy_X3_isThere : GoodIn wsX3_isHeldBy (wsV RX3 104 RX3 yX3_isThere wsX3_isThere) := goodIn_app (goodIn_r _ [2, 3, 4, 5] rfl (by decide +kernel)) ggX3_isHeldBy_X3_isThere
set_option maxRecDepth 20000 in
theorem ggX3_isJointThere_X3_isThere : GoodIn wsX3_isJointThere wsX3_isThere := goodIn_r _ [7, 8, 14, 15, 16, 17, 18, 19, 20, 21, 22, 23, 24, 25, 26, 27, 28, 29] rfl (by decide +kernel)
set_option maxRecDepth 20000 in
theorem gX3_isJointThere_X3_isThere : GoodIn wsX3_isJointThere (wsV RX3 104 RX3 yX3_isThere wsX3_isThere) := goodIn_app (goodIn_r _ [3, 4, 5, 6] rfl (by decide +kernel)) ggX3_isJointThere_X3_isThere
set_option maxRecDepth 20000 in
theorem ggX3_isJointThere_X3_isHeldBy : GoodIn wsX3_isJointThere wsX3_isHeldBy := goodIn_r _ [12, 13, 3, 4, 5, 6, 7, 8, 14, 15, 16, 17, 18, 19, 20, 21, 22, 23, 24, 25, 26, 27, 28, 29] rfl (by decide +kernel)
set_option maxRecDepth 20000 in
theorem gX3_isJointThere_X3_isHeldBy : GoodIn wsX3_isJointThere (wsV RX3 82 RX3 yX3_isHeldBy wsX3_isHeldBy) := goodIn_app (goodIn_r _ [9, 10, 11, 6] rfl (by decide +kernel)) ggX3_isJointThere_X3_isHeldBy
set_option maxRecDepth 20000 in
theorem ggX3_canOf_X3_canWhereHung : GoodIn wsX3_canOf wsX3_canWhereHung := goodIn_r _ [9, 10, 3, 11, 12, 4, 13, 14, 15, 16, 17, 18, 19, 20, 21, 22, 23, 24, 25, 26, 27, 28, 29, 30, 31, 32, 33, 34, 35, 36, 37, 38, 39, 40] rfl (by decide +kernel)
set_option maxRecDepth 20000 in
theorem gX3_canOf_X3_canWhereHung : GoodIn wsX3_canOf (wsV RX3 114 RX3 yX3_canWhereHung wsX3_canWhereHung) := goodIn_app (goodIn_r _ [5, 6, 7, 8] rfl (by decide +kernel)) ggX3_canOf_X3_canWhereHung
set_option maxRecDepth 20000 in
theorem ggX3_isBeyond_X3_isJointThere : GoodIn wsX3_isBeyond wsX3_isJointThere := goodIn_r _ [5, 6, 7, 8, 9, 10, 4, 11, 12, 13, 14, 15, 16, 17, 43, 44, 45, 46, 47, 48, 49, 50, 51, 52, 53, 54, 55, 56, 57, 58] rfl (by decide +kernel)
set_option maxRecDepth 20000 in
theorem gX3_isBeyond_X3_isJointThere : GoodIn wsX3_isBeyond (wsV RX3 124 RX3 yX3_isJointThere wsX3_isJointThere) := goodIn_app (goodIn_r _ [1, 2, 3, 4] rfl (by decide +kernel)) ggX3_isBeyond_X3_isJointThere
set_option maxRecDepth 20000 in
theorem ggX3_isBeyond_X3_bornBy : GoodIn wsX3_isBeyond wsX3_bornBy := goodIn_r _ [21, 6, 22, 7, 23, 43, 44, 45, 46, 47, 48, 49, 50, 51, 52, 53, 54, 55, 56, 57, 58] rfl (by decide +kernel)
set_option maxRecDepth 20000 in
theorem gX3_isBeyond_X3_bornBy : GoodIn wsX3_isBeyond (wsV RX3 127 RX3 yX3_bornBy wsX3_bornBy) := goodIn_app (goodIn_r _ [18, 19, 20, 4] rfl (by decide +kernel)) ggX3_isBeyond_X3_bornBy
set_option maxRecDepth 20000 in
theorem ggX3_isBeyond_X3_canOf : GoodIn wsX3_isBeyond wsX3_canOf := goodIn_r _ [27, 6, 7, 28, 29, 30, 31, 32, 4, 33, 34, 35, 36, 43, 44, 45, 46, 47, 48, 49, 50, 51, 52, 53, 54, 55, 56, 57, 58, 59, 60, 61, 62, 63, 64, 65, 66, 67, 68, 69, 70] rfl (by decide +kernel)
set_option maxRecDepth 20000 in
theorem gX3_isBeyond_X3_canOf : GoodIn wsX3_isBeyond (wsV RX3 131 RX3 yX3_canOf wsX3_canOf) := goodIn_app (goodIn_r _ [24, 25, 26, 4] rfl (by decide +kernel)) ggX3_isBeyond_X3_canOf
set_option maxRecDepth 20000 in
theorem ggX3_isBeyond_X3_unit : GoodIn wsX3_isBeyond wsX3_unit := goodIn_r _ [40, 41, 42, 43, 44, 45, 46, 47, 48, 49, 50, 51, 52, 53, 54, 55, 56, 57, 58] rfl (by decide +kernel)
set_option maxRecDepth 20000 in
theorem gX3_isBeyond_X3_unit : GoodIn wsX3_isBeyond (wsV RX3 134 RX3 yX3_unit wsX3_unit) := goodIn_app (goodIn_r _ [37, 38, 39, 4] rfl (by decide +kernel)) ggX3_isBeyond_X3_unit
set_option maxRecDepth 20000 in
theorem ggX3_isAnyBeyond_X3_isThere : GoodIn wsX3_isAnyBeyond wsX3_isThere := goodIn_r _ [12, 13, 27, 28, 29, 30, 31, 32, 33, 34, 35, 36, 37, 38, 39, 40, 41, 42] rfl (by decide +kernel)
set_option maxRecDepth 20000 in
theorem gX3_isAnyBeyond_X3_isThere : GoodIn wsX3_isAnyBeyond (wsV RX3 104 RX3 yX3_isThere wsX3_isThere) := goodIn_app (goodIn_r _ [8, 9, 10, 11] rfl (by decide +kernel)) ggX3_isAnyBeyond_X3_isThere
set_option maxRecDepth 20000 in
theorem ggX3_isAnyBeyond_X3_canWhereHung : GoodIn wsX3_isAnyBeyond wsX3_canWhereHung := goodIn_r _ [17, 18, 3, 19, 20, 7, 27, 28, 29, 30, 31, 32, 33, 34, 35, 36, 37, 38, 39, 40, 41, 42, 43, 44, 45, 46, 47, 48, 49, 50, 51, 52, 53, 54] rfl (by decide +kernel)
set_option maxRecDepth 20000 in
theorem gX3_isAnyBeyond_X3_canWhereHung : GoodIn wsX3_isAnyBeyond (wsV RX3 114 RX3 yX3_canWhereHung wsX3_canWhereHung) := goodIn_app (goodIn_r _ [14, 15, 16, 11] rfl (by decide +kernel)) ggX3_isAnyBeyond_X3_canWhereHung
set_option maxRecDepth 20000 in
theorem ggX3_isAnyBeyond_X3_unit : GoodIn wsX3_isAnyBeyond wsX3_unit := goodIn_r _ [24, 25, 26, 27, 28, 29, 30, 31, 32, 33, 34, 35, 36, 37, 38, 39, 40, 41, 42] rfl (by decide +kernel)
set_option maxRecDepth 20000 in
theorem gX3_isAnyBeyond_X3_unit : GoodIn wsX3_isAnyBeyond (wsV RX3 134 RX3 yX3_unit wsX3_unit) := goodIn_app (goodIn_r _ [21, 22, 23, 11] rfl (by decide +kernel)) ggX3_isAnyBeyond_X3_unit
set_option maxRecDepth 20000 in
theorem ggX3_countBeyond_X3_isBeyond : GoodIn wsX3_countBeyond wsX3_isBeyond := goodIn_r _ [6, 7, 8, 9, 5, 10, 11, 12, 13, 14, 15, 16, 17, 18, 19, 20, 21, 22, 23, 24, 25, 26, 27, 28, 29, 30, 31, 32, 33, 34, 35, 36, 37, 38, 39, 40, 41, 42, 43, 44, 45, 46, 47, 48, 49, 50, 51, 52, 53, 54, 55, 56, 57, 58, 59, 60, 61, 62, 63, 64, 65, 66, 67, 68, 69, 70, 71, 72, 73, 74, 75] rfl (by decide +kernel)
set_option maxRecDepth 20000 in
theorem gX3_countBeyond_X3_isBeyond : GoodIn wsX3_countBeyond (wsV RX3 138 RX3 yX3_isBeyond wsX3_isBeyond) := goodIn_app (goodIn_r _ [2, 3, 4, 5] rfl (by decide +kernel)) ggX3_countBeyond_X3_isBeyond
set_option maxRecDepth 20000 in
theorem ggX3_worstJoint_X3_isJointThere : GoodIn wsX3_worstJoint wsX3_isJointThere := goodIn_r _ [6, 7, 8, 9, 10, 11, 5, 12, 13, 14, 15, 16, 17, 18, 38, 39, 40, 41, 42, 43, 44, 45, 46, 47, 48, 49, 50, 51, 52, 53] rfl (by decide +kernel)
set_option maxRecDepth 20000 in
theorem gX3_worstJoint_X3_isJointThere : GoodIn wsX3_worstJoint (wsV RX3 124 RX3 yX3_isJointThere wsX3_isJointThere) := goodIn_app (goodIn_r _ [2, 3, 4, 5] rfl (by decide +kernel)) ggX3_worstJoint_X3_isJointThere
set_option maxRecDepth 20000 in
theorem ggX3_worstJoint_X3_bornBy : GoodIn wsX3_worstJoint wsX3_bornBy := goodIn_r _ [22, 7, 23, 8, 24, 38, 39, 40, 41, 42, 43, 44, 45, 46, 47, 48, 49, 50, 51, 52, 53] rfl (by decide +kernel)
set_option maxRecDepth 20000 in
theorem gX3_worstJoint_X3_bornBy : GoodIn wsX3_worstJoint (wsV RX3 127 RX3 yX3_bornBy wsX3_bornBy) := goodIn_app (goodIn_r _ [19, 20, 21, 5] rfl (by decide +kernel)) ggX3_worstJoint_X3_bornBy
set_option maxRecDepth 20000 in
theorem ggX3_worstJoint_X3_canOf : GoodIn wsX3_worstJoint wsX3_canOf := goodIn_r _ [28, 7, 8, 29, 30, 31, 32, 33, 5, 34, 35, 36, 37, 38, 39, 40, 41, 42, 43, 44, 45, 46, 47, 48, 49, 50, 51, 52, 53, 54, 55, 56, 57, 58, 59, 60, 61, 62, 63, 64, 65] rfl (by decide +kernel)
set_option maxRecDepth 20000 in
theorem gX3_worstJoint_X3_canOf : GoodIn wsX3_worstJoint (wsV RX3 131 RX3 yX3_canOf wsX3_canOf) := goodIn_app (goodIn_r _ [25, 26, 27, 5] rfl (by decide +kernel)) ggX3_worstJoint_X3_canOf
set_option maxRecDepth 20000 in
theorem ggX3_openFloors_X3_isThere : GoodIn wsX3_openFloors wsX3_isThere := goodIn_r _ [9, 10, 11, 12, 13, 14, 15, 16, 17, 18, 19, 20, 21, 22, 23, 24, 25, 26] rfl (by decide +kernel)
set_option maxRecDepth 20000 in
theorem gX3_openFloors_X3_isThere : GoodIn wsX3_openFloors (wsV RX3 104 RX3 yX3_isThere wsX3_isThere) := goodIn_app (goodIn_r _ [5, 6, 7, 8] rfl (by decide +kernel)) ggX3_openFloors_X3_isThere
set_option maxRecDepth 20000 in
theorem ggX3_doubleFloors_X3_openFloors : GoodIn wsX3_doubleFloors wsX3_openFloors := goodIn_r _ [7, 1, 8, 9, 10, 11, 12, 13, 6, 14, 15, 16, 17, 18, 19, 20, 21, 22, 23, 24, 25, 26, 27, 28, 29, 30, 31, 32, 33, 34, 35, 36, 37, 38, 39, 40, 41, 42, 43] rfl (by decide +kernel)
set_option maxRecDepth 20000 in
theorem gX3_doubleFloors_X3_openFloors : GoodIn wsX3_doubleFloors (wsV RX3 141 RX3 yX3_openFloors wsX3_openFloors) := goodIn_app (goodIn_r _ [3, 4, 5, 6] rfl (by decide +kernel)) ggX3_doubleFloors_X3_openFloors
set_option maxRecDepth 20000 in
theorem ggX3_fewestToRoof_X3_rodsFromRoof : GoodIn wsX3_fewestToRoof wsX3_rodsFromRoof := goodIn_r _ [6, 1, 7, 58, 59, 60, 61, 62, 63, 64, 65, 66, 67, 68, 69, 70, 71, 72, 73] rfl (by decide +kernel)
set_option maxRecDepth 20000 in
theorem gX3_fewestToRoof_X3_rodsFromRoof : GoodIn wsX3_fewestToRoof (wsV RX3 145 RX3 yX3_rodsFromRoof wsX3_rodsFromRoof) := goodIn_app (goodIn_r _ [2, 3, 4, 5] rfl (by decide +kernel)) ggX3_fewestToRoof_X3_rodsFromRoof
set_option maxRecDepth 20000 in
theorem ggX3_fewestToRoof_J6_bitCount_0f7a4 : GoodIn wsX3_fewestToRoof wsJ6_bitCount_0f7a4 := goodIn_r _ [11, 12, 13, 14] rfl (by decide +kernel)
set_option maxRecDepth 20000 in
theorem gX3_fewestToRoof_J6_bitCount_0f7a4 : GoodIn wsX3_fewestToRoof (va_wsS RX3 148 yJ6_bitCount_0f7a4 wsJ6_bitCount_0f7a4) := goodIn_app (goodIn_r _ [8, 9, 10] rfl (by decide +kernel)) ggX3_fewestToRoof_J6_bitCount_0f7a4
set_option maxRecDepth 20000 in
theorem ggX3_fewestToRoof_X3_hangFromRoof : GoodIn wsX3_fewestToRoof wsX3_hangFromRoof := goodIn_r _ [18, 1, 7, 19, 20, 21, 58, 59, 60, 61, 62, 63, 64, 65, 66, 67, 68, 69, 70, 71, 72, 73, 74, 75, 76, 77, 78, 79, 80, 81, 82, 83, 84, 85] rfl (by decide +kernel)
set_option maxRecDepth 20000 in
theorem gX3_fewestToRoof_X3_hangFromRoof : GoodIn wsX3_fewestToRoof (wsV RX3 153 RX3 yX3_hangFromRoof wsX3_hangFromRoof) := goodIn_app (goodIn_r _ [15, 16, 17, 5] rfl (by decide +kernel)) ggX3_fewestToRoof_X3_hangFromRoof
set_option maxRecDepth 20000 in
theorem ggX3_fewestToRoof_X3_passUp : GoodIn wsX3_fewestToRoof wsX3_passUp := goodIn_r _ [25, 1, 26, 19, 27, 28, 29, 7, 30, 31, 32, 33, 34, 35, 5, 36, 37, 38, 39, 40, 41, 42, 58, 59, 60, 61, 62, 63, 64, 65, 66, 67, 68, 69, 70, 71, 72, 73, 74, 75, 76, 77, 78, 79, 80, 81, 82, 83, 84, 85] rfl (by decide +kernel)
set_option maxRecDepth 20000 in
theorem gX3_fewestToRoof_X3_passUp : GoodIn wsX3_fewestToRoof (wsV RX3 94 RX3 yX3_passUp wsX3_passUp) := goodIn_app (goodIn_r _ [22, 23, 24, 5] rfl (by decide +kernel)) ggX3_fewestToRoof_X3_passUp
set_option maxRecDepth 20000 in
theorem ggX3_fewestToRoof_X3_isAnyBeyond : GoodIn wsX3_fewestToRoof wsX3_isAnyBeyond := goodIn_r _ [46, 1, 26, 19, 27, 32, 31, 47, 33, 34, 35, 5, 36, 37, 48, 49, 50, 51, 7, 52, 21, 53, 54, 55, 56, 29, 57, 58, 59, 60, 61, 62, 63, 64, 65, 66, 67, 68, 69, 70, 71, 72, 73, 74, 75, 76, 77, 78, 79, 80, 81, 82, 83, 84, 85] rfl (by decide +kernel)
set_option maxRecDepth 20000 in
theorem gX3_fewestToRoof_X3_isAnyBeyond : GoodIn wsX3_fewestToRoof (wsV RX3 97 RX3 yX3_isAnyBeyond wsX3_isAnyBeyond) := goodIn_app (goodIn_r _ [43, 44, 45, 5] rfl (by decide +kernel)) ggX3_fewestToRoof_X3_isAnyBeyond
set_option maxRecDepth 20000 in
theorem ggX3_looksNeeded_X3_isBeyond : GoodIn wsX3_looksNeeded wsX3_isBeyond := goodIn_r _ [6, 7, 8, 9, 5, 10, 11, 12, 13, 14, 15, 16, 17, 18, 19, 20, 21, 22, 23, 24, 25, 26, 27, 28, 29, 30, 31, 32, 33, 34, 35, 36, 37, 38, 39, 40, 41, 42, 43, 44, 45, 46, 47, 48, 49, 50, 51, 52, 53, 54, 55, 56, 57, 58, 59, 60, 61, 62, 63, 64, 65, 66, 67, 68, 69, 70, 71, 72, 73, 74, 75] rfl (by decide +kernel)
set_option maxRecDepth 20000 in
theorem gX3_looksNeeded_X3_isBeyond : GoodIn wsX3_looksNeeded (wsV RX3 138 RX3 yX3_isBeyond wsX3_isBeyond) := goodIn_app (goodIn_r _ [2, 3, 4, 5] rfl (by decide +kernel)) ggX3_looksNeeded_X3_isBeyond
set_option maxRecDepth 20000 in
theorem ggX3_looksNeeded_X3_bornBy : GoodIn wsX3_looksNeeded wsX3_bornBy := goodIn_r _ [26, 11, 27, 12, 28, 48, 49, 50, 51, 52, 53, 54, 55, 56, 57, 58, 59, 60, 61, 62, 63] rfl (by decide +kernel)
set_option maxRecDepth 20000 in
theorem gX3_looksNeeded_X3_bornBy : GoodIn wsX3_looksNeeded (wsV RX3 127 RX3 yX3_bornBy wsX3_bornBy) := goodIn_app (goodIn_r _ [23, 24, 25, 5] rfl (by decide +kernel)) ggX3_looksNeeded_X3_bornBy
set_option maxRecDepth 20000 in
theorem ggX3_sameIn_X7_rodCalled : GoodIn wsX3_sameIn wsX7_rodCalled := goodIn_r _ [12, 13, 14, 15, 16, 11, 17, 34, 35, 36, 37, 38, 39, 40, 41, 42, 43, 44, 45] rfl (by decide +kernel)
set_option maxRecDepth 20000 in
theorem gX3_sameIn_X7_rodCalled : GoodIn wsX3_sameIn (wsV RX3 160 RX7 yX7_rodCalled wsX7_rodCalled) := goodIn_app (goodIn_r _ [8, 9, 10, 11] rfl (by decide +kernel)) ggX3_sameIn_X7_rodCalled
set_option maxRecDepth 20000 in
theorem ggX3_countSame_X3_sameIn : GoodIn wsX3_countSame wsX3_sameIn := goodIn_r _ [6, 7, 8, 9, 10, 11, 1, 12, 13, 14, 15, 16, 17, 18, 19, 20, 21, 22, 23, 24, 25, 26, 27, 28, 29, 30, 31, 32, 33, 34, 35, 36, 37, 38, 39, 40, 41, 42, 43, 44, 45, 46, 47, 48, 49, 50] rfl (by decide +kernel)
set_option maxRecDepth 20000 in
theorem gX3_countSame_X3_sameIn : GoodIn wsX3_countSame (wsV RX3 164 RX3 yX3_sameIn wsX3_sameIn) := goodIn_app (goodIn_r _ [2, 3, 4, 5] rfl (by decide +kernel)) ggX3_countSame_X3_sameIn
set_option maxRecDepth 20000 in
theorem ggX3_countMore_X3_sameIn : GoodIn wsX3_countMore wsX3_sameIn := goodIn_r _ [7, 8, 9, 10, 11, 12, 1, 13, 14, 15, 16, 17, 18, 19, 20, 21, 22, 23, 30, 31, 32, 33, 34, 35, 36, 37, 38, 39, 40, 41, 42, 43, 44, 45, 46, 47, 48, 49, 50, 51, 52, 53, 54, 55, 56, 57] rfl (by decide +kernel)
set_option maxRecDepth 20000 in
theorem gX3_countMore_X3_sameIn : GoodIn wsX3_countMore (wsV RX3 164 RX3 yX3_sameIn wsX3_sameIn) := goodIn_app (goodIn_r _ [3, 4, 5, 6] rfl (by decide +kernel)) ggX3_countMore_X3_sameIn
set_option maxRecDepth 20000 in
theorem ggX3_countMore_X3_bornBy : GoodIn wsX3_countMore wsX3_bornBy := goodIn_r _ [27, 13, 28, 12, 29, 30, 31, 32, 33, 34, 35, 36, 37, 38, 39, 40, 41, 42, 43, 44, 45] rfl (by decide +kernel)
set_option maxRecDepth 20000 in
theorem gX3_countMore_X3_bornBy : GoodIn wsX3_countMore (wsV RX3 127 RX3 yX3_bornBy wsX3_bornBy) := goodIn_app (goodIn_r _ [24, 25, 26, 6] rfl (by decide +kernel)) ggX3_countMore_X3_bornBy
set_option maxRecDepth 20000 in
theorem ggX3_countTwice_X3_sameIn : GoodIn wsX3_countTwice wsX3_sameIn := goodIn_r _ [8, 9, 10, 11, 12, 13, 1, 14, 15, 16, 17, 18, 19, 20, 21, 22, 23, 24, 31, 32, 33, 34, 35, 36, 37, 38, 39, 40, 41, 42, 43, 44, 45, 46, 47, 48, 49, 50, 51, 52, 53, 54, 55, 56, 57, 58] rfl (by decide +kernel)
set_option maxRecDepth 20000 in
theorem gX3_countTwice_X3_sameIn : GoodIn wsX3_countTwice (wsV RX3 164 RX3 yX3_sameIn wsX3_sameIn) := goodIn_app (goodIn_r _ [4, 5, 6, 7] rfl (by decide +kernel)) ggX3_countTwice_X3_sameIn
set_option maxRecDepth 20000 in
theorem ggX3_countTwice_X3_bornBy : GoodIn wsX3_countTwice wsX3_bornBy := goodIn_r _ [28, 14, 29, 13, 30, 31, 32, 33, 34, 35, 36, 37, 38, 39, 40, 41, 42, 43, 44, 45, 46] rfl (by decide +kernel)
set_option maxRecDepth 20000 in
theorem gX3_countTwice_X3_bornBy : GoodIn wsX3_countTwice (wsV RX3 127 RX3 yX3_bornBy wsX3_bornBy) := goodIn_app (goodIn_r _ [25, 26, 27, 7] rfl (by decide +kernel)) ggX3_countTwice_X3_bornBy
set_option maxRecDepth 20000 in
theorem ggX4_init_X9_init : GoodIn wsX4_init wsX9_init := goodIn_r _ [15, 16, 2, 3, 17, 18, 19, 20, 21, 22, 23, 24, 25, 43, 44, 45, 46, 47, 48, 49] rfl (by decide +kernel)
set_option maxRecDepth 20000 in
theorem gX4_init_X9_init_n11 : GoodIn wsX4_init (wsX9_init) := ggX4_init_X9_init
set_option maxRecDepth 20000 in
theorem ggX4_init_X7_init : GoodIn wsX4_init wsX7_init := goodIn_r _ [27, 28, 2, 3, 29, 30, 31, 32, 33, 34, 35, 36, 37, 38, 39, 40, 41, 42, 54, 55, 56, 57, 58, 59, 60, 61, 62, 63, 64, 65] rfl (by decide +kernel)
set_option maxRecDepth 20000 in
theorem gX4_init_X7_init_n20 : GoodIn wsX4_init (wsX7_init) := ggX4_init_X7_init
set_option maxRecDepth 20000 in
theorem ggX4_readHouse_X7_empty : GoodIn wsX4_readHouse wsX7_empty := goodIn_r _ [11, 12, 13, 186, 187, 188, 189, 190, 191, 192, 193, 194, 195, 196, 197] rfl (by decide +kernel)
set_option maxRecDepth 20000 in
theorem gX4_readHouse_X7_empty : GoodIn wsX4_readHouse (wsV RX4 32 RX7 yX7_empty wsX7_empty) := goodIn_app (goodIn_r _ [7, 8, 9, 10] rfl (by decide +kernel)) ggX4_readHouse_X7_empty
set_option maxRecDepth 20000 in
theorem ggX4_readHouse_X9_begin : GoodIn wsX4_readHouse wsX9_begin := goodIn_r _ [18, 19, 20, 21, 22, 23, 24, 25, 26, 27, 28, 17, 29, 30, 31, 32, 33, 34, 35, 36, 37, 38, 39, 40, 41, 42, 43, 44, 45, 46, 179, 180, 181, 182, 183, 184, 185] rfl (by decide +kernel)
set_option maxRecDepth 20000 in
theorem gX4_readHouse_X9_begin : GoodIn wsX4_readHouse (wsV RX4 35 RX9 yX9_begin wsX9_begin) := goodIn_app (goodIn_r _ [14, 15, 16, 17] rfl (by decide +kernel)) ggX4_readHouse_X9_begin
set_option maxRecDepth 20000 in
theorem ggX4_readHouse_X4_readLine : GoodIn wsX4_readHouse wsX4_readLine := goodIn_r _ [51, 4, 52, 1, 53, 54, 55, 56, 57, 17, 58, 32, 40, 39, 59, 60, 61, 10, 62, 12, 13, 63, 64, 65, 50, 66, 67, 68, 69, 70, 71, 27, 28, 29, 25, 24, 19, 30, 31, 33, 34, 35, 36, 37, 38, 41, 42, 43, 44, 45, 46, 72, 73, 74, 75, 76, 77, 78, 79, 80, 81, 82, 83, 84, 85, 86, 87, 5, 88, 89, 90, 91, 92, 93, 94, 2, 95, 3, 96, 97, 98, 99, 100, 101, 102, 103, 104, 105, 106, 107, 108, 109, 110, 111, 112, 113, 114, 115, 116, 117, 118, 119, 120, 121, 122, 123, 124, 125, 126, 127, 128, 129, 130, 131, 132, 133, 134, 135, 136, 137, 138, 139, 140, 141, 142, 143, 144, 145, 146, 147, 148, 149, 150, 151, 152, 153, 154, 155, 156, 157, 158, 159, 160, 161, 162, 163, 164, 165, 166, 167, 168, 169, 170, 171, 172, 173, 174, 175, 176, 177, 178, 179, 180, 181, 182, 183, 184, 185, 186, 187, 188, 189, 190, 191, 192, 193, 194, 195, 196, 197] rfl (by decide +kernel)
set_option maxRecDepth 20000 in
theorem gX4_readHouse_X4_readLine : GoodIn wsX4_readHouse (wsV RX4 48 RX4 yX4_readLine wsX4_readLine) := goodIn_app (goodIn_r _ [47, 48, 49, 50] rfl (by decide +kernel)) ggX4_readHouse_X4_readLine
set_option maxRecDepth 20000 in
theorem ggX4_readLine_X9_isWord : GoodIn wsX4_readLine wsX9_isWord := goodIn_r _ [10, 11, 12, 13, 161, 162, 163, 164, 165, 166, 167] rfl (by decide +kernel)
set_option maxRecDepth 20000 in
theorem gX4_readLine_X9_isWord : GoodIn wsX4_readLine (wsV RX4 54 RX9 yX9_isWord wsX9_isWord) := goodIn_app (goodIn_r _ [6, 7, 8, 9] rfl (by decide +kernel)) ggX4_readLine_X9_isWord
set_option maxRecDepth 20000 in
theorem ggX4_readLine_X7_takesFloor : GoodIn wsX4_readLine wsX7_takesFloor := goodIn_r _ [18, 19, 20, 168, 169, 170, 171, 172, 173, 174, 175, 176, 177, 178, 179] rfl (by decide +kernel)
set_option maxRecDepth 20000 in
theorem gX4_readLine_X7_takesFloor : GoodIn wsX4_readLine (wsV RX4 58 RX7 yX7_takesFloor wsX7_takesFloor) := goodIn_app (goodIn_r _ [14, 15, 16, 17] rfl (by decide +kernel)) ggX4_readLine_X7_takesFloor
set_option maxRecDepth 20000 in
theorem ggX4_readLine_X4_readFloor : GoodIn wsX4_readLine wsX4_readFloor := goodIn_r _ [25, 1, 3, 26, 27, 28, 29, 30, 31, 32, 9, 33, 34, 35, 36, 37, 38, 11, 39, 40, 41, 42, 43, 44, 13, 12, 45, 46, 47, 48, 49, 50, 51, 52, 53, 17, 54, 55, 19, 56, 57, 58, 59, 60, 61, 24, 62, 63, 64, 65, 66, 67, 68, 69, 70, 71, 72, 73, 74, 75, 76, 77, 78, 79, 80, 81, 82, 83, 6, 7, 8, 10, 84, 85, 86, 87, 88, 89, 90, 91, 15, 16, 18, 20, 157, 158, 159, 160, 161, 162, 163, 164, 165, 166, 167, 168, 169, 170, 171, 172, 173, 174, 175, 176, 177, 178, 179] rfl (by decide +kernel)
set_option maxRecDepth 20000 in
theorem gX4_readLine_X4_readFloor : GoodIn wsX4_readLine (wsV RX4 61 RX4 yX4_readFloor wsX4_readFloor) := goodIn_app (goodIn_r _ [21, 22, 23, 24] rfl (by decide +kernel)) ggX4_readLine_X4_readFloor
set_option maxRecDepth 20000 in
theorem ggX4_readLine_X7_takesDrawing : GoodIn wsX4_readLine wsX7_takesDrawing := goodIn_r _ [95, 20, 168, 169, 170, 171, 172, 173, 174, 175, 176, 177, 178, 179] rfl (by decide +kernel)
set_option maxRecDepth 20000 in
theorem gX4_readLine_X7_takesDrawing : GoodIn wsX4_readLine (wsV RX4 66 RX7 yX7_takesDrawing wsX7_takesDrawing) := goodIn_app (goodIn_r _ [92, 93, 94, 17] rfl (by decide +kernel)) ggX4_readLine_X7_takesDrawing
set_option maxRecDepth 20000 in
theorem ggX4_readLine_X4_readDrawing : GoodIn wsX4_readLine wsX4_readDrawing := goodIn_r _ [99, 1, 3, 26, 30, 31, 32, 9, 33, 34, 35, 36, 37, 38, 11, 39, 40, 41, 42, 43, 44, 13, 12, 45, 46, 47, 48, 49, 50, 100, 101, 102, 17, 103, 104, 20, 56, 57, 58, 59, 60, 61, 24, 62, 63, 64, 65, 66, 67, 68, 69, 70, 71, 72, 73, 74, 75, 76, 77, 105, 106, 107, 108, 109, 110, 93, 94, 95, 157, 158, 159, 160, 161, 162, 163, 164, 165, 166, 167, 168, 169, 170, 171, 172, 173, 174, 175, 176, 177, 178, 179] rfl (by decide +kernel)
set_option maxRecDepth 20000 in
theorem gX4_readLine_X4_readDrawing : GoodIn wsX4_readLine (wsV RX4 69 RX4 yX4_readDrawing wsX4_readDrawing) := goodIn_app (goodIn_r _ [96, 97, 98, 24] rfl (by decide +kernel)) ggX4_readLine_X4_readDrawing
set_option maxRecDepth 20000 in
theorem ggX4_readLine_X7_takesRod : GoodIn wsX4_readLine wsX7_takesRod := goodIn_r _ [114, 20, 109, 168, 169, 170, 171, 172, 173, 174, 175, 176, 177, 178, 179] rfl (by decide +kernel)
set_option maxRecDepth 20000 in
theorem gX4_readLine_X7_takesRod : GoodIn wsX4_readLine (wsV RX4 74 RX7 yX7_takesRod wsX7_takesRod) := goodIn_app (goodIn_r _ [111, 112, 113, 17] rfl (by decide +kernel)) ggX4_readLine_X7_takesRod
set_option maxRecDepth 20000 in
theorem ggX4_readLine_X4_readRod : GoodIn wsX4_readLine wsX4_readRod := goodIn_r _ [118, 1, 3, 119, 26, 120, 121, 28, 30, 31, 32, 9, 33, 34, 35, 36, 37, 38, 11, 39, 40, 41, 42, 43, 44, 13, 12, 45, 46, 47, 48, 49, 50, 122, 123, 124, 17, 125, 126, 109, 56, 57, 58, 59, 60, 61, 24, 62, 63, 64, 65, 66, 67, 68, 69, 70, 71, 72, 73, 74, 75, 76, 77, 127, 128, 129, 130, 6, 7, 8, 10, 131, 132, 133, 134, 135, 136, 137, 138, 139, 51, 52, 53, 54, 55, 19, 140, 141, 142, 143, 78, 79, 80, 81, 82, 83, 144, 145, 146, 147, 20, 148, 149, 150, 151, 112, 113, 114, 157, 158, 159, 160, 168, 169, 170, 171, 172, 173, 174, 175, 176, 177, 178, 179, 161, 162, 163, 164, 165, 166, 167] rfl (by decide +kernel)
set_option maxRecDepth 20000 in
theorem gX4_readLine_X4_readRod : GoodIn wsX4_readLine (wsV RX4 77 RX4 yX4_readRod wsX4_readRod) := goodIn_app (goodIn_r _ [115, 116, 117, 24] rfl (by decide +kernel)) ggX4_readLine_X4_readRod
set_option maxRecDepth 20000 in
theorem ggX4_readLine_X4_refuse : GoodIn wsX4_readLine wsX4_refuse := goodIn_r _ [73, 1, 67, 74, 75, 76, 77, 157, 158, 159, 160, 161, 162, 163, 164, 165, 166, 167] rfl (by decide +kernel)
set_option maxRecDepth 20000 in
theorem gX4_readLine_X4_refuse : GoodIn wsX4_readLine (wsV RX4 80 RX4 yX4_refuse wsX4_refuse) := goodIn_app (goodIn_r _ [70, 71, 72, 24] rfl (by decide +kernel)) ggX4_readLine_X4_refuse
set_option maxRecDepth 20000 in
theorem ggX4_readLine_X4_takeSign : GoodIn wsX4_readLine wsX4_takeSign := goodIn_r _ [155, 1, 67, 156, 70, 71, 72, 24, 73, 74, 75, 76, 77, 30, 31, 32, 9, 33, 34, 35, 36, 37, 38, 11, 39, 40, 41, 42, 43, 44, 13, 12, 45, 46, 47, 48, 49, 50, 157, 158, 159, 160, 161, 162, 163, 164, 165, 166, 167] rfl (by decide +kernel)
set_option maxRecDepth 20000 in
theorem gX4_readLine_X4_takeSign : GoodIn wsX4_readLine (wsV RX4 84 RX4 yX4_takeSign wsX4_takeSign) := goodIn_app (goodIn_r _ [152, 153, 154, 24] rfl (by decide +kernel)) ggX4_readLine_X4_takeSign
set_option maxRecDepth 20000 in
theorem ggX4_readFloor_X9_advance : GoodIn wsX4_readFloor wsX9_advance := goodIn_r _ [11, 12, 13, 14, 15, 16, 17, 18, 19, 20, 21, 22, 10, 23, 24, 25, 26, 27, 28, 29, 30, 31, 88, 89, 90, 91, 92, 93, 94] rfl (by decide +kernel)
set_option maxRecDepth 20000 in
theorem gX4_readFloor_X9_advance : GoodIn wsX4_readFloor (wsV RX4 87 RX9 yX9_advance wsX9_advance) := goodIn_app (goodIn_r _ [7, 8, 9, 10] rfl (by decide +kernel)) ggX4_readFloor_X9_advance
set_option maxRecDepth 20000 in
theorem ggX4_readFloor_X7_floorCalled : GoodIn wsX4_readFloor wsX7_floorCalled := goodIn_r _ [36, 37, 38, 39, 40, 35, 41, 95, 96, 97, 98, 99, 100, 101, 102, 103, 104, 105, 106] rfl (by decide +kernel)
set_option maxRecDepth 20000 in
theorem gX4_readFloor_X7_floorCalled : GoodIn wsX4_readFloor (wsV RX4 94 RX7 yX7_floorCalled wsX7_floorCalled) := goodIn_app (goodIn_r _ [32, 33, 34, 35] rfl (by decide +kernel)) ggX4_readFloor_X7_floorCalled
set_option maxRecDepth 20000 in
theorem ggX4_readFloor_X4_isNewName : GoodIn wsX4_readFloor wsX4_isNewName := goodIn_r _ [46, 47, 48, 49, 45, 50, 1, 51, 52, 53, 3, 54, 55, 56, 57, 58, 59, 60, 61, 84, 85, 86, 87, 88, 89, 90, 91, 92, 93, 94] rfl (by decide +kernel)
set_option maxRecDepth 20000 in
theorem gX4_readFloor_X4_isNewName : GoodIn wsX4_readFloor (wsV RX4 98 RX4 yX4_isNewName wsX4_isNewName) := goodIn_app (goodIn_r _ [42, 43, 44, 45] rfl (by decide +kernel)) ggX4_readFloor_X4_isNewName
set_option maxRecDepth 20000 in
theorem ggX4_readFloor_X4_numberBehind : GoodIn wsX4_readFloor wsX4_numberBehind := goodIn_r _ [65, 1, 51, 66, 67, 68, 69, 70, 10, 71, 17, 25, 24, 7, 8, 9, 11, 12, 13, 14, 15, 16, 18, 19, 20, 21, 22, 23, 26, 27, 28, 29, 30, 31, 54, 55, 56, 45, 57, 58, 59, 60, 61, 84, 85, 86, 87, 88, 89, 90, 91, 92, 93, 94] rfl (by decide +kernel)
set_option maxRecDepth 20000 in
theorem gX4_readFloor_X4_numberBehind : GoodIn wsX4_readFloor (wsV RX4 103 RX4 yX4_numberBehind wsX4_numberBehind) := goodIn_app (goodIn_r _ [62, 63, 64, 45] rfl (by decide +kernel)) ggX4_readFloor_X4_numberBehind
set_option maxRecDepth 20000 in
theorem ggX4_readFloor_X7_addFloor : GoodIn wsX4_readFloor wsX7_addFloor := goodIn_r _ [75, 37, 38, 76, 77, 78, 79, 80, 81, 35, 82, 83, 95, 96, 97, 98, 99, 100, 101, 102, 103, 104, 105, 106] rfl (by decide +kernel)
set_option maxRecDepth 20000 in
theorem gX4_readFloor_X7_addFloor : GoodIn wsX4_readFloor (wsV RX4 111 RX7 yX7_addFloor wsX7_addFloor) := goodIn_app (goodIn_r _ [72, 73, 74, 35] rfl (by decide +kernel)) ggX4_readFloor_X7_addFloor
set_option maxRecDepth 20000 in
theorem ggX4_readDrawing_X9_advance : GoodIn wsX4_readDrawing wsX9_advance := goodIn_r _ [8, 9, 10, 11, 12, 13, 14, 15, 16, 17, 18, 19, 7, 20, 21, 22, 23, 24, 25, 26, 27, 28, 72, 73, 74, 75, 76, 77, 78] rfl (by decide +kernel)
set_option maxRecDepth 20000 in
theorem gX4_readDrawing_X9_advance : GoodIn wsX4_readDrawing (wsV RX4 87 RX9 yX9_advance wsX9_advance) := goodIn_app (goodIn_r _ [4, 5, 6, 7] rfl (by decide +kernel)) ggX4_readDrawing_X9_advance
set_option maxRecDepth 20000 in
theorem ggX4_readDrawing_X7_drawingCalled : GoodIn wsX4_readDrawing wsX7_drawingCalled := goodIn_r _ [33, 34, 35, 36, 37, 32, 38, 79, 80, 81, 82, 83, 84, 85, 86, 87, 88, 89, 90] rfl (by decide +kernel)
set_option maxRecDepth 20000 in
theorem gX4_readDrawing_X7_drawingCalled : GoodIn wsX4_readDrawing (wsV RX4 115 RX7 yX7_drawingCalled wsX7_drawingCalled) := goodIn_app (goodIn_r _ [29, 30, 31, 32] rfl (by decide +kernel)) ggX4_readDrawing_X7_drawingCalled
set_option maxRecDepth 20000 in
theorem ggX4_readDrawing_X4_isNewName : GoodIn wsX4_readDrawing wsX4_isNewName := goodIn_r _ [43, 44, 45, 46, 42, 47, 1, 48, 49, 50, 3, 51, 52, 53, 54, 55, 56, 57, 58, 68, 69, 70, 71, 72, 73, 74, 75, 76, 77, 78] rfl (by decide +kernel)
set_option maxRecDepth 20000 in
theorem gX4_readDrawing_X4_isNewName : GoodIn wsX4_readDrawing (wsV RX4 98 RX4 yX4_isNewName wsX4_isNewName) := goodIn_app (goodIn_r _ [39, 40, 41, 42] rfl (by decide +kernel)) ggX4_readDrawing_X4_isNewName
set_option maxRecDepth 20000 in
theorem ggX4_readDrawing_X7_addDrawing : GoodIn wsX4_readDrawing wsX7_addDrawing := goodIn_r _ [62, 34, 35, 63, 64, 65, 66, 32, 67, 79, 80, 81, 82, 83, 84, 85, 86, 87, 88, 89, 90] rfl (by decide +kernel)
set_option maxRecDepth 20000 in
theorem gX4_readDrawing_X7_addDrawing : GoodIn wsX4_readDrawing (wsV RX4 118 RX7 yX7_addDrawing wsX7_addDrawing) := goodIn_app (goodIn_r _ [59, 60, 61, 32] rfl (by decide +kernel)) ggX4_readDrawing_X7_addDrawing
set_option maxRecDepth 20000 in
theorem ggX4_readRod_X9_advance : GoodIn wsX4_readRod wsX9_advance := goodIn_r _ [12, 13, 14, 15, 16, 17, 18, 19, 20, 21, 22, 23, 11, 24, 25, 26, 27, 28, 29, 30, 31, 32, 124, 125, 126, 127, 128, 129, 130] rfl (by decide +kernel)
set_option maxRecDepth 20000 in
theorem gX4_readRod_X9_advance : GoodIn wsX4_readRod (wsV RX4 87 RX9 yX9_advance wsX9_advance) := goodIn_app (goodIn_r _ [8, 9, 10, 11] rfl (by decide +kernel)) ggX4_readRod_X9_advance
set_option maxRecDepth 20000 in
theorem ggX4_readRod_X7_rodCalled : GoodIn wsX4_readRod wsX7_rodCalled := goodIn_r _ [37, 38, 39, 40, 41, 36, 42, 112, 113, 114, 115, 116, 117, 118, 119, 120, 121, 122, 123] rfl (by decide +kernel)
set_option maxRecDepth 20000 in
theorem gX4_readRod_X7_rodCalled : GoodIn wsX4_readRod (wsV RX4 125 RX7 yX7_rodCalled wsX7_rodCalled) := goodIn_app (goodIn_r _ [33, 34, 35, 36] rfl (by decide +kernel)) ggX4_readRod_X7_rodCalled
set_option maxRecDepth 20000 in
theorem ggX4_readRod_X4_isNewName : GoodIn wsX4_readRod wsX4_isNewName := goodIn_r _ [47, 48, 49, 50, 46, 51, 1, 52, 53, 54, 4, 55, 56, 57, 58, 59, 60, 61, 62, 108, 109, 110, 111, 124, 125, 126, 127, 128, 129, 130] rfl (by decide +kernel)
set_option maxRecDepth 20000 in
theorem gX4_readRod_X4_isNewName : GoodIn wsX4_readRod (wsV RX4 98 RX4 yX4_isNewName wsX4_isNewName) := goodIn_app (goodIn_r _ [43, 44, 45, 46] rfl (by decide +kernel)) ggX4_readRod_X4_isNewName
set_option maxRecDepth 20000 in
theorem ggX4_readRod_X4_takeWord : GoodIn wsX4_readRod wsX4_takeWord := goodIn_r _ [66, 1, 67, 68, 69, 11, 70, 18, 26, 25, 55, 56, 57, 46, 58, 52, 59, 60, 61, 62, 8, 9, 10, 12, 13, 14, 15, 16, 17, 19, 20, 21, 22, 23, 24, 27, 28, 29, 30, 31, 32, 108, 109, 110, 111, 124, 125, 126, 127, 128, 129, 130] rfl (by decide +kernel)
set_option maxRecDepth 20000 in
theorem gX4_readRod_X4_takeWord : GoodIn wsX4_readRod (wsV RX4 131 RX4 yX4_takeWord wsX4_takeWord) := goodIn_app (goodIn_r _ [63, 64, 65, 46] rfl (by decide +kernel)) ggX4_readRod_X4_takeWord
set_option maxRecDepth 20000 in
theorem ggX4_readRod_X4_takeFrom : GoodIn wsX4_readRod wsX4_takeFrom := goodIn_r _ [74, 1, 75, 67, 68, 69, 11, 70, 18, 26, 25, 76, 77, 78, 46, 79, 2, 4, 48, 49, 50, 51, 52, 53, 54, 55, 56, 57, 58, 59, 60, 61, 62, 80, 81, 82, 36, 83, 84, 85, 40, 41, 42, 8, 9, 10, 12, 13, 14, 15, 16, 17, 19, 20, 21, 22, 23, 24, 27, 28, 29, 30, 31, 32, 108, 109, 110, 111, 124, 125, 126, 127, 128, 129, 130, 112, 113, 114, 115, 116, 117, 118, 119, 120, 121, 122, 123] rfl (by decide +kernel)
set_option maxRecDepth 20000 in
theorem gX4_readRod_X4_takeFrom : GoodIn wsX4_readRod (wsV RX4 134 RX4 yX4_takeFrom wsX4_takeFrom) := goodIn_app (goodIn_r _ [71, 72, 73, 46] rfl (by decide +kernel)) ggX4_readRod_X4_takeFrom
set_option maxRecDepth 20000 in
theorem ggX4_readRod_X4_takeHeld : GoodIn wsX4_readRod wsX4_takeHeld := goodIn_r _ [89, 1, 7, 67, 68, 69, 11, 70, 18, 26, 25, 76, 77, 78, 46, 79, 2, 4, 48, 49, 50, 51, 52, 53, 54, 55, 56, 57, 58, 59, 60, 61, 62, 80, 81, 82, 36, 83, 84, 85, 40, 41, 42, 8, 9, 10, 12, 13, 14, 15, 16, 17, 19, 20, 21, 22, 23, 24, 27, 28, 29, 30, 31, 32, 108, 109, 110, 111, 124, 125, 126, 127, 128, 129, 130, 112, 113, 114, 115, 116, 117, 118, 119, 120, 121, 122, 123] rfl (by decide +kernel)
set_option maxRecDepth 20000 in
theorem gX4_readRod_X4_takeHeld : GoodIn wsX4_readRod (wsV RX4 140 RX4 yX4_takeHeld wsX4_takeHeld) := goodIn_app (goodIn_r _ [86, 87, 88, 46] rfl (by decide +kernel)) ggX4_readRod_X4_takeHeld
set_option maxRecDepth 20000 in
theorem ggX4_readRod_X4_numberBehind : GoodIn wsX4_readRod wsX4_numberBehind := goodIn_r _ [93, 1, 52, 94, 95, 67, 68, 69, 11, 70, 18, 26, 25, 8, 9, 10, 12, 13, 14, 15, 16, 17, 19, 20, 21, 22, 23, 24, 27, 28, 29, 30, 31, 32, 55, 56, 57, 46, 58, 59, 60, 61, 62, 108, 109, 110, 111, 124, 125, 126, 127, 128, 129, 130] rfl (by decide +kernel)
set_option maxRecDepth 20000 in
theorem gX4_readRod_X4_numberBehind : GoodIn wsX4_readRod (wsV RX4 103 RX4 yX4_numberBehind wsX4_numberBehind) := goodIn_app (goodIn_r _ [90, 91, 92, 46] rfl (by decide +kernel)) ggX4_readRod_X4_numberBehind
set_option maxRecDepth 20000 in
theorem ggX4_readRod_X7_addRod : GoodIn wsX4_readRod wsX7_addRod := goodIn_r _ [99, 100, 39, 38, 101, 102, 103, 104, 105, 106, 36, 107, 112, 113, 114, 115, 116, 117, 118, 119, 120, 121, 122, 123] rfl (by decide +kernel)
set_option maxRecDepth 20000 in
theorem gX4_readRod_X7_addRod : GoodIn wsX4_readRod (wsV RX4 144 RX7 yX7_addRod wsX7_addRod) := goodIn_app (goodIn_r _ [96, 97, 98, 36] rfl (by decide +kernel)) ggX4_readRod_X7_addRod
set_option maxRecDepth 20000 in
theorem ggX4_takeFrom_X9_isWord : GoodIn wsX4_takeFrom wsX9_isWord := goodIn_r _ [7, 8, 9, 10, 68, 69, 70, 71, 72, 73, 74] rfl (by decide +kernel)
set_option maxRecDepth 20000 in
theorem gX4_takeFrom_X9_isWord : GoodIn wsX4_takeFrom (wsV RX4 54 RX9 yX9_isWord wsX9_isWord) := goodIn_app (goodIn_r _ [3, 4, 5, 6] rfl (by decide +kernel)) ggX4_takeFrom_X9_isWord
set_option maxRecDepth 20000 in
theorem ggX4_takeFrom_X4_floorBelow : GoodIn wsX4_takeFrom wsX4_floorBelow := goodIn_r _ [15, 16, 1, 17, 18, 19, 20, 14, 21, 22, 23, 24, 25, 26, 27, 28, 29, 30, 31, 32, 33, 34, 35, 36, 37, 38, 39, 40, 41, 42, 64, 65, 66, 67, 68, 69, 70, 71, 72, 73, 74, 75, 76, 77, 78, 79, 80, 81, 82, 83, 84, 85, 86] rfl (by decide +kernel)
set_option maxRecDepth 20000 in
theorem gX4_takeFrom_X4_floorBelow : GoodIn wsX4_takeFrom (wsV RX4 149 RX4 yX4_floorBelow wsX4_floorBelow) := goodIn_app (goodIn_r _ [11, 12, 13, 14] rfl (by decide +kernel)) ggX4_takeFrom_X4_floorBelow
set_option maxRecDepth 20000 in
theorem ggX4_takeFrom_X9_advance : GoodIn wsX4_takeFrom wsX9_advance := goodIn_r _ [46, 47, 48, 49, 50, 51, 8, 52, 53, 54, 55, 56, 6, 57, 10, 9, 58, 59, 60, 61, 62, 63, 68, 69, 70, 71, 72, 73, 74] rfl (by decide +kernel)
set_option maxRecDepth 20000 in
theorem gX4_takeFrom_X9_advance : GoodIn wsX4_takeFrom (wsV RX4 87 RX9 yX9_advance wsX9_advance) := goodIn_app (goodIn_r _ [43, 44, 45, 6] rfl (by decide +kernel)) ggX4_takeFrom_X9_advance
set_option maxRecDepth 20000 in
theorem ggX4_takeHeld_X9_isWord : GoodIn wsX4_takeHeld wsX9_isWord := goodIn_r _ [7, 8, 9, 10, 68, 69, 70, 71, 72, 73, 74] rfl (by decide +kernel)
set_option maxRecDepth 20000 in
theorem gX4_takeHeld_X9_isWord : GoodIn wsX4_takeHeld (wsV RX4 54 RX9 yX9_isWord wsX9_isWord) := goodIn_app (goodIn_r _ [3, 4, 5, 6] rfl (by decide +kernel)) ggX4_takeHeld_X9_isWord
set_option maxRecDepth 20000 in
theorem ggX4_takeHeld_X4_floorBelow : GoodIn wsX4_takeHeld wsX4_floorBelow := goodIn_r _ [15, 16, 1, 17, 18, 19, 20, 14, 21, 22, 23, 24, 25, 26, 27, 28, 29, 30, 31, 32, 33, 34, 35, 36, 37, 38, 39, 40, 41, 42, 64, 65, 66, 67, 68, 69, 70, 71, 72, 73, 74, 75, 76, 77, 78, 79, 80, 81, 82, 83, 84, 85, 86] rfl (by decide +kernel)
set_option maxRecDepth 20000 in
theorem gX4_takeHeld_X4_floorBelow : GoodIn wsX4_takeHeld (wsV RX4 149 RX4 yX4_floorBelow wsX4_floorBelow) := goodIn_app (goodIn_r _ [11, 12, 13, 14] rfl (by decide +kernel)) ggX4_takeHeld_X4_floorBelow
set_option maxRecDepth 20000 in
theorem ggX4_takeHeld_X9_advance : GoodIn wsX4_takeHeld wsX9_advance := goodIn_r _ [46, 47, 48, 49, 50, 51, 8, 52, 53, 54, 55, 56, 6, 57, 10, 9, 58, 59, 60, 61, 62, 63, 68, 69, 70, 71, 72, 73, 74] rfl (by decide +kernel)
set_option maxRecDepth 20000 in
theorem gX4_takeHeld_X9_advance : GoodIn wsX4_takeHeld (wsV RX4 87 RX9 yX9_advance wsX9_advance) := goodIn_app (goodIn_r _ [43, 44, 45, 6] rfl (by decide +kernel)) ggX4_takeHeld_X9_advance
set_option maxRecDepth 20000 in
theorem ggX4_floorBelow_X4_isName : GoodIn wsX4_floorBelow wsX4_isName := goodIn_r _ [8, 2, 9, 10, 11, 3, 30, 31, 32, 33, 34, 35, 36, 37, 38, 39, 40] rfl (by decide +kernel)
set_option maxRecDepth 20000 in
theorem gX4_floorBelow_X4_isName : GoodIn wsX4_floorBelow (wsV RX4 152 RX4 yX4_isName wsX4_isName) := goodIn_app (goodIn_r _ [4, 5, 6, 7] rfl (by decide +kernel)) ggX4_floorBelow_X4_isName
set_option maxRecDepth 20000 in
theorem ggX4_floorBelow_X4_refuse : GoodIn wsX4_floorBelow wsX4_refuse := goodIn_r _ [15, 2, 9, 16, 17, 18, 19, 30, 31, 32, 33, 34, 35, 36, 37, 38, 39, 40] rfl (by decide +kernel)
set_option maxRecDepth 20000 in
theorem gX4_floorBelow_X4_refuse : GoodIn wsX4_floorBelow (wsV RX4 80 RX4 yX4_refuse wsX4_refuse) := goodIn_app (goodIn_r _ [12, 13, 14, 7] rfl (by decide +kernel)) ggX4_floorBelow_X4_refuse
set_option maxRecDepth 20000 in
theorem ggX4_floorBelow_X7_floorCalled : GoodIn wsX4_floorBelow wsX7_floorCalled := goodIn_r _ [24, 25, 26, 27, 28, 23, 29, 41, 42, 43, 44, 45, 46, 47, 48, 49, 50, 51, 52] rfl (by decide +kernel)
set_option maxRecDepth 20000 in
theorem gX4_floorBelow_X7_floorCalled : GoodIn wsX4_floorBelow (wsV RX4 94 RX7 yX7_floorCalled wsX7_floorCalled) := goodIn_app (goodIn_r _ [20, 21, 22, 23] rfl (by decide +kernel)) ggX4_floorBelow_X7_floorCalled
set_option maxRecDepth 20000 in
theorem ggX4_numberBehind_X9_isWord : GoodIn wsX4_numberBehind wsX9_isWord := goodIn_r _ [9, 10, 11, 12, 47, 48, 49, 50, 51, 52, 53] rfl (by decide +kernel)
set_option maxRecDepth 20000 in
theorem gX4_numberBehind_X9_isWord : GoodIn wsX4_numberBehind (wsV RX4 54 RX9 yX9_isWord wsX9_isWord) := goodIn_app (goodIn_r _ [5, 6, 7, 8] rfl (by decide +kernel)) ggX4_numberBehind_X9_isWord
set_option maxRecDepth 20000 in
theorem ggX4_numberBehind_X9_advance : GoodIn wsX4_numberBehind wsX9_advance := goodIn_r _ [16, 17, 18, 19, 20, 21, 10, 22, 23, 24, 25, 26, 8, 27, 12, 11, 28, 29, 30, 31, 32, 33, 47, 48, 49, 50, 51, 52, 53] rfl (by decide +kernel)
set_option maxRecDepth 20000 in
theorem gX4_numberBehind_X9_advance : GoodIn wsX4_numberBehind (wsV RX4 87 RX9 yX9_advance wsX9_advance) := goodIn_app (goodIn_r _ [13, 14, 15, 8] rfl (by decide +kernel)) ggX4_numberBehind_X9_advance
set_option maxRecDepth 20000 in
theorem ggX4_numberBehind_X4_refuse : GoodIn wsX4_numberBehind wsX4_refuse := goodIn_r _ [38, 1, 2, 39, 40, 41, 42, 43, 44, 45, 46, 47, 48, 49, 50, 51, 52, 53] rfl (by decide +kernel)
set_option maxRecDepth 20000 in
theorem gX4_numberBehind_X4_refuse : GoodIn wsX4_numberBehind (wsV RX4 80 RX4 yX4_refuse wsX4_refuse) := goodIn_app (goodIn_r _ [34, 35, 36, 37] rfl (by decide +kernel)) ggX4_numberBehind_X4_refuse
set_option maxRecDepth 20000 in
theorem ggX4_takeWord_X9_isWord : GoodIn wsX4_takeWord wsX9_isWord := goodIn_r _ [6, 7, 8, 9, 45, 46, 47, 48, 49, 50, 51] rfl (by decide +kernel)
set_option maxRecDepth 20000 in
theorem gX4_takeWord_X9_isWord : GoodIn wsX4_takeWord (wsV RX4 54 RX9 yX9_isWord wsX9_isWord) := goodIn_app (goodIn_r _ [2, 3, 4, 5] rfl (by decide +kernel)) ggX4_takeWord_X9_isWord
set_option maxRecDepth 20000 in
theorem ggX4_takeWord_X4_refuse : GoodIn wsX4_takeWord wsX4_refuse := goodIn_r _ [14, 1, 15, 16, 17, 18, 19, 41, 42, 43, 44, 45, 46, 47, 48, 49, 50, 51] rfl (by decide +kernel)
set_option maxRecDepth 20000 in
theorem gX4_takeWord_X4_refuse : GoodIn wsX4_takeWord (wsV RX4 80 RX4 yX4_refuse wsX4_refuse) := goodIn_app (goodIn_r _ [10, 11, 12, 13] rfl (by decide +kernel)) ggX4_takeWord_X4_refuse

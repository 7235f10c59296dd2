set_option maxRecDepth 20000 in
theorem ggX4_takeWord_X9_advance : GoodIn wsX4_takeWord wsX9_advance := goodIn_r _ [23, 24, 25, 26, 27, 28, 7, 29, 30, 31, 32, 33, 5, 34, 9, 8, 35, 36, 37, 38, 39, 40, 45, 46, 47, 48, 49, 50, 51] rfl (by decide +kernel)
set_option maxRecDepth 20000 in
theorem gX4_takeWord_X9_advance : GoodIn wsX4_takeWord (wsV RX4 87 RX9 yX9_advance wsX9_advance) := goodIn_app (goodIn_r _ [20, 21, 22, 5] rfl (by decide +kernel)) ggX4_takeWord_X9_advance
set_option maxRecDepth 20000 in
theorem ggX4_takeSign_X4_refuse : GoodIn wsX4_takeSign wsX4_refuse := goodIn_r _ [8, 1, 2, 9, 10, 11, 12, 38, 39, 40, 41, 42, 43, 44, 45, 46, 47, 48] rfl (by decide +kernel)
set_option maxRecDepth 20000 in
theorem gX4_takeSign_X4_refuse : GoodIn wsX4_takeSign (wsV RX4 80 RX4 yX4_refuse wsX4_refuse) := goodIn_app (goodIn_r _ [4, 5, 6, 7] rfl (by decide +kernel)) ggX4_takeSign_X4_refuse
set_option maxRecDepth 20000 in
theorem ggX4_takeSign_X9_advance : GoodIn wsX4_takeSign wsX9_advance := goodIn_r _ [17, 18, 19, 20, 21, 22, 23, 24, 25, 26, 27, 28, 16, 29, 30, 31, 32, 33, 34, 35, 36, 37, 42, 43, 44, 45, 46, 47, 48] rfl (by decide +kernel)
set_option maxRecDepth 20000 in
theorem gX4_takeSign_X9_advance : GoodIn wsX4_takeSign (wsV RX4 87 RX9 yX9_advance wsX9_advance) := goodIn_app (goodIn_r _ [13, 14, 15, 16] rfl (by decide +kernel)) ggX4_takeSign_X9_advance
set_option maxRecDepth 20000 in
theorem ggX4_isNewName_X4_isName : GoodIn wsX4_isNewName wsX4_isName := goodIn_r _ [5, 6, 7, 8, 9, 10, 19, 20, 21, 22, 23, 24, 25, 26, 27, 28, 29] rfl (by decide +kernel)
set_option maxRecDepth 20000 in
theorem gX4_isNewName_X4_isName : GoodIn wsX4_isNewName (wsV RX4 152 RX4 yX4_isName wsX4_isName) := goodIn_app (goodIn_r _ [1, 2, 3, 4] rfl (by decide +kernel)) ggX4_isNewName_X4_isName
set_option maxRecDepth 20000 in
theorem ggX4_isNewName_X4_refuse : GoodIn wsX4_isNewName wsX4_refuse := goodIn_r _ [14, 6, 7, 15, 16, 17, 18, 19, 20, 21, 22, 23, 24, 25, 26, 27, 28, 29] rfl (by decide +kernel)
set_option maxRecDepth 20000 in
theorem gX4_isNewName_X4_refuse : GoodIn wsX4_isNewName (wsV RX4 80 RX4 yX4_refuse wsX4_refuse) := goodIn_app (goodIn_r _ [11, 12, 13, 4] rfl (by decide +kernel)) ggX4_isNewName_X4_refuse
set_option maxRecDepth 20000 in
theorem ggX6_takeBack_X6_isPaper : GoodIn wsX6_takeBack wsX6_isPaper := goodIn_r _ [6, 7, 8, 9, 10, 11, 12, 13, 14, 15, 16, 17, 18, 19] rfl (by decide +kernel)
set_option maxRecDepth 20000 in
theorem gX6_takeBack_X6_isPaper : GoodIn wsX6_takeBack (wsV RX6 50 RX6 yX6_isPaper wsX6_isPaper) := goodIn_app (goodIn_r _ [2, 3, 4, 5] rfl (by decide +kernel)) ggX6_takeBack_X6_isPaper
set_option maxRecDepth 20000 in
theorem ggX6_hoursUpTo_X6_isOf : GoodIn wsX6_hoursUpTo wsX6_isOf := goodIn_r _ [8, 9, 10, 17, 18, 19, 20, 21, 22, 23, 24, 25, 26, 27, 28] rfl (by decide +kernel)
set_option maxRecDepth 20000 in
theorem gX6_hoursUpTo_X6_isOf : GoodIn wsX6_hoursUpTo (wsV RX6 54 RX6 yX6_isOf wsX6_isOf) := goodIn_app (goodIn_r _ [4, 5, 6, 7] rfl (by decide +kernel)) ggX6_hoursUpTo_X6_isOf
set_option maxRecDepth 20000 in
theorem ggX6_hoursUpTo_X6_isKnown : GoodIn wsX6_hoursUpTo wsX6_isKnown := goodIn_r _ [14, 15, 16, 17, 18, 19, 20, 21, 22, 23, 24, 25, 26, 27, 28] rfl (by decide +kernel)
set_option maxRecDepth 20000 in
theorem gX6_hoursUpTo_X6_isKnown : GoodIn wsX6_hoursUpTo (wsV RX6 58 RX6 yX6_isKnown wsX6_isKnown) := goodIn_app (goodIn_r _ [11, 12, 13, 7] rfl (by decide +kernel)) ggX6_hoursUpTo_X6_isKnown
set_option maxRecDepth 20000 in
theorem ggX6_firstToReckon_X6_isKnown : GoodIn wsX6_firstToReckon wsX6_isKnown := goodIn_r _ [9, 10, 11, 21, 22, 23, 24, 25, 26, 27, 28, 29, 30, 31, 32] rfl (by decide +kernel)
set_option maxRecDepth 20000 in
theorem gX6_firstToReckon_X6_isKnown : GoodIn wsX6_firstToReckon (wsV RX6 58 RX6 yX6_isKnown wsX6_isKnown) := goodIn_app (goodIn_r _ [5, 6, 7, 8] rfl (by decide +kernel)) ggX6_firstToReckon_X6_isKnown
set_option maxRecDepth 20000 in
theorem ggX6_firstToReckon_X6_hoursUpTo : GoodIn wsX6_firstToReckon wsX6_hoursUpTo := goodIn_r _ [15, 1, 2, 16, 17, 18, 19, 8, 20, 3, 4, 5, 6, 7, 9, 10, 11, 21, 22, 23, 24, 25, 26, 27, 28, 29, 30, 31, 32] rfl (by decide +kernel)
set_option maxRecDepth 20000 in
theorem gX6_firstToReckon_X6_hoursUpTo : GoodIn wsX6_firstToReckon (wsV RX6 62 RX6 yX6_hoursUpTo wsX6_hoursUpTo) := goodIn_app (goodIn_r _ [12, 13, 14, 8] rfl (by decide +kernel)) ggX6_firstToReckon_X6_hoursUpTo
set_option maxRecDepth 20000 in
theorem ggX6_isHollow_X6_isPaper : GoodIn wsX6_isHollow wsX6_isPaper := goodIn_r _ [11, 2, 22, 23, 24, 25, 26, 27, 28, 29, 30, 31, 32, 33] rfl (by decide +kernel)
set_option maxRecDepth 20000 in
theorem gX6_isHollow_X6_isPaper : GoodIn wsX6_isHollow (wsV RX6 50 RX6 yX6_isPaper wsX6_isPaper) := goodIn_app (goodIn_r _ [7, 8, 9, 10] rfl (by decide +kernel)) ggX6_isHollow_X6_isPaper
set_option maxRecDepth 20000 in
theorem ggX6_isHollow_X6_isKnown : GoodIn wsX6_isHollow wsX6_isKnown := goodIn_r _ [15, 16, 17, 22, 23, 24, 25, 26, 27, 28, 29, 30, 31, 32, 33] rfl (by decide +kernel)
set_option maxRecDepth 20000 in
theorem gX6_isHollow_X6_isKnown : GoodIn wsX6_isHollow (wsV RX6 58 RX6 yX6_isKnown wsX6_isKnown) := goodIn_app (goodIn_r _ [12, 13, 14, 10] rfl (by decide +kernel)) ggX6_isHollow_X6_isKnown
set_option maxRecDepth 20000 in
theorem ggX6_isHollow_X6_isOf : GoodIn wsX6_isHollow wsX6_isOf := goodIn_r _ [21, 4, 5, 22, 23, 24, 25, 26, 27, 28, 29, 30, 31, 32, 33] rfl (by decide +kernel)
set_option maxRecDepth 20000 in
theorem gX6_isHollow_X6_isOf : GoodIn wsX6_isHollow (wsV RX6 54 RX6 yX6_isOf wsX6_isOf) := goodIn_app (goodIn_r _ [18, 19, 20, 10] rfl (by decide +kernel)) ggX6_isHollow_X6_isOf
set_option maxRecDepth 20000 in
theorem ggX6_letBear_X6_isPaper : GoodIn wsX6_letBear wsX6_isPaper := goodIn_r _ [9, 10, 11, 12, 13, 14, 15, 16, 17, 18, 19, 20, 21, 22] rfl (by decide +kernel)
set_option maxRecDepth 20000 in
theorem gX6_letBear_X6_isPaper : GoodIn wsX6_letBear (wsV RX6 50 RX6 yX6_isPaper wsX6_isPaper) := goodIn_app (goodIn_r _ [5, 6, 7, 8] rfl (by decide +kernel)) ggX6_letBear_X6_isPaper
set_option maxRecDepth 20000 in
theorem ggX6_oddsTogether_X6_isKnown : GoodIn wsX6_oddsTogether wsX6_isKnown := goodIn_r _ [9, 10, 11, 12, 13, 14, 15, 16, 17, 18, 19, 20, 21, 22, 23] rfl (by decide +kernel)
set_option maxRecDepth 20000 in
theorem gX6_oddsTogether_X6_isKnown : GoodIn wsX6_oddsTogether (wsV RX6 58 RX6 yX6_isKnown wsX6_isKnown) := goodIn_app (goodIn_r _ [5, 6, 7, 8] rfl (by decide +kernel)) ggX6_oddsTogether_X6_isKnown
set_option maxRecDepth 20000 in
theorem ggX7_floorCalled_X7_placeOf : GoodIn wsX7_floorCalled wsX7_placeOf := goodIn_r _ [6] rfl (by decide +kernel)
set_option maxRecDepth 20000 in
theorem gX7_floorCalled_X7_placeOf : GoodIn wsX7_floorCalled (va_wsS RX7 50 yX7_placeOf wsX7_placeOf) := goodIn_app (goodIn_r _ [3, 4, 5] rfl (by decide +kernel)) ggX7_floorCalled_X7_placeOf
set_option maxRecDepth 20000 in
theorem ggX7_drawingCalled_X7_placeOf : GoodIn wsX7_drawingCalled wsX7_placeOf := goodIn_r _ [6] rfl (by decide +kernel)
set_option maxRecDepth 20000 in
theorem gX7_drawingCalled_X7_placeOf : GoodIn wsX7_drawingCalled (va_wsS RX7 50 yX7_placeOf wsX7_placeOf) := goodIn_app (goodIn_r _ [3, 4, 5] rfl (by decide +kernel)) ggX7_drawingCalled_X7_placeOf
set_option maxRecDepth 20000 in
theorem ggX7_rodCalled_X7_placeOf : GoodIn wsX7_rodCalled wsX7_placeOf := goodIn_r _ [6] rfl (by decide +kernel)
set_option maxRecDepth 20000 in
theorem gX7_rodCalled_X7_placeOf : GoodIn wsX7_rodCalled (va_wsS RX7 50 yX7_placeOf wsX7_placeOf) := goodIn_app (goodIn_r _ [3, 4, 5] rfl (by decide +kernel)) ggX7_rodCalled_X7_placeOf
set_option maxRecDepth 20000 in
theorem ggX7_addFloor_X7_takesFloor : GoodIn wsX7_addFloor wsX7_takesFloor := goodIn_r _ [10, 2, 11, 12, 13, 14, 15, 16, 17, 18, 19, 20, 21, 22, 23] rfl (by decide +kernel)
set_option maxRecDepth 20000 in
theorem gX7_addFloor_X7_takesFloor : GoodIn wsX7_addFloor (wsV RX7 54 RX7 yX7_takesFloor wsX7_takesFloor) := goodIn_app (goodIn_r _ [6, 7, 8, 9] rfl (by decide +kernel)) ggX7_addFloor_X7_takesFloor
set_option maxRecDepth 20000 in
theorem ggX7_addDrawing_X7_takesDrawing : GoodIn wsX7_addDrawing wsX7_takesDrawing := goodIn_r _ [8, 2, 9, 10, 11, 12, 13, 14, 15, 16, 17, 18, 19, 20] rfl (by decide +kernel)
set_option maxRecDepth 20000 in
theorem gX7_addDrawing_X7_takesDrawing : GoodIn wsX7_addDrawing (wsV RX7 58 RX7 yX7_takesDrawing wsX7_takesDrawing) := goodIn_app (goodIn_r _ [4, 5, 6, 7] rfl (by decide +kernel)) ggX7_addDrawing_X7_takesDrawing
set_option maxRecDepth 20000 in
theorem ggX7_addRod_X7_takesRod : GoodIn wsX7_addRod wsX7_takesRod := goodIn_r _ [11, 1, 2, 12, 13, 14, 15, 16, 17, 18, 19, 20, 21, 22, 23] rfl (by decide +kernel)
set_option maxRecDepth 20000 in
theorem gX7_addRod_X7_takesRod : GoodIn wsX7_addRod (wsV RX7 61 RX7 yX7_takesRod wsX7_takesRod) := goodIn_app (goodIn_r _ [7, 8, 9, 10] rfl (by decide +kernel)) ggX7_addRod_X7_takesRod
set_option maxRecDepth 20000 in
theorem ggX7_jointsOf_J6_bitCount_0f7a4 : GoodIn wsX7_jointsOf wsJ6_bitCount_0f7a4 := goodIn_r _ [7, 8, 9, 10] rfl (by decide +kernel)
set_option maxRecDepth 20000 in
theorem gX7_jointsOf_J6_bitCount_0f7a4 : GoodIn wsX7_jointsOf (va_wsS RX7 64 yJ6_bitCount_0f7a4 wsJ6_bitCount_0f7a4) := goodIn_app (goodIn_r _ [4, 5, 6] rfl (by decide +kernel)) ggX7_jointsOf_J6_bitCount_0f7a4
set_option maxRecDepth 20000 in
theorem ggX8_addDoubleNuts_X3_doubleFloors : GoodIn wsX8_addDoubleNuts wsX3_doubleFloors := goodIn_r _ [8, 9, 10, 11, 12, 13, 7, 14, 15, 16, 17, 18, 19, 20, 21, 22, 65, 66, 67, 68, 69, 70, 71, 72, 73, 74, 75, 76, 77, 78, 79, 80, 81, 82, 83, 84, 85, 86, 87, 88, 89, 90, 91, 92] rfl (by decide +kernel)
set_option maxRecDepth 20000 in
theorem gX8_addDoubleNuts_X3_doubleFloors : GoodIn wsX8_addDoubleNuts (wsV RX8 26 RX3 yX3_doubleFloors wsX3_doubleFloors) := goodIn_app (goodIn_r _ [4, 5, 6, 7] rfl (by decide +kernel)) ggX8_addDoubleNuts_X3_doubleFloors
set_option maxRecDepth 20000 in
theorem ggX8_addDoubleNuts_X3_bornBy : GoodIn wsX8_addDoubleNuts wsX3_bornBy := goodIn_r _ [26, 27, 28, 29, 30, 65, 66, 67, 68, 69, 70, 71, 72, 73, 74, 75, 76, 77, 78, 79, 80] rfl (by decide +kernel)
set_option maxRecDepth 20000 in
theorem gX8_addDoubleNuts_X3_bornBy : GoodIn wsX8_addDoubleNuts (wsV RX8 41 RX3 yX3_bornBy wsX3_bornBy) := goodIn_app (goodIn_r _ [23, 24, 25, 7] rfl (by decide +kernel)) ggX8_addDoubleNuts_X3_bornBy
set_option maxRecDepth 20000 in
theorem ggX8_addDoubleNuts_X3_canOf : GoodIn wsX8_addDoubleNuts wsX3_canOf := goodIn_r _ [34, 27, 29, 16, 35, 36, 37, 38, 7, 39, 10, 40, 41, 65, 66, 67, 68, 69, 70, 71, 72, 73, 74, 75, 76, 77, 78, 79, 80, 81, 82, 83, 84, 85, 86, 87, 88, 89, 90, 91, 92] rfl (by decide +kernel)
set_option maxRecDepth 20000 in
theorem gX8_addDoubleNuts_X3_canOf : GoodIn wsX8_addDoubleNuts (wsV RX8 45 RX3 yX3_canOf wsX3_canOf) := goodIn_app (goodIn_r _ [31, 32, 33, 7] rfl (by decide +kernel)) ggX8_addDoubleNuts_X3_canOf
set_option maxRecDepth 20000 in
theorem ggX8_addDoubleNuts_X3_unit : GoodIn wsX8_addDoubleNuts wsX3_unit := goodIn_r _ [45, 46, 47, 65, 66, 67, 68, 69, 70, 71, 72, 73, 74, 75, 76, 77, 78, 79, 80] rfl (by decide +kernel)
set_option maxRecDepth 20000 in
theorem gX8_addDoubleNuts_X3_unit : GoodIn wsX8_addDoubleNuts (wsV RX8 49 RX3 yX3_unit wsX3_unit) := goodIn_app (goodIn_r _ [42, 43, 44, 7] rfl (by decide +kernel)) ggX8_addDoubleNuts_X3_unit
set_option maxRecDepth 20000 in
theorem ggX8_addDoubleNuts_X8_insert : GoodIn wsX8_addDoubleNuts wsX8_insert := goodIn_r _ [52, 53, 54, 55, 56, 57, 58, 59, 60, 61, 62, 63, 64, 93, 94, 95, 96] rfl (by decide +kernel)
set_option maxRecDepth 20000 in
theorem gX8_addDoubleNuts_X8_insert : GoodIn wsX8_addDoubleNuts (wsV RX8 53 RX8 yX8_insert wsX8_insert) := goodIn_app (goodIn_r _ [48, 49, 50, 51] rfl (by decide +kernel)) ggX8_addDoubleNuts_X8_insert
set_option maxRecDepth 20000 in
theorem ggX8_insert_X2_order : GoodIn wsX8_insert wsX2_order := goodIn_r _ [8, 9, 10, 11, 12] rfl (by decide +kernel)
set_option maxRecDepth 20000 in
theorem gX8_insert_X2_order : GoodIn wsX8_insert (va_wsS RX8 57 yX2_order wsX2_order) := goodIn_app (goodIn_r _ [5, 6, 7] rfl (by decide +kernel)) ggX8_insert_X2_order
set_option maxRecDepth 20000 in
theorem ggX9_begin_X9_advance : GoodIn wsX9_begin wsX9_advance := goodIn_r _ [12, 7, 6, 1, 13, 14, 15, 16, 17, 18, 19, 20, 11, 21, 22, 23, 24, 25, 26, 27, 28, 29, 30, 31, 32, 33, 34, 35, 36] rfl (by decide +kernel)
set_option maxRecDepth 20000 in
theorem gX9_begin_X9_advance : GoodIn wsX9_begin (wsV RX9 45 RX9 yX9_advance wsX9_advance) := goodIn_app (goodIn_r _ [8, 9, 10, 11] rfl (by decide +kernel)) ggX9_begin_X9_advance
set_option maxRecDepth 20000 in
theorem ggX9_advance_X9_takeLetters : GoodIn wsX9_advance wsX9_takeLetters := goodIn_r _ [13, 14, 1, 2, 3, 4, 15, 8, 6, 22, 23, 24, 25, 26, 27, 28] rfl (by decide +kernel)
set_option maxRecDepth 20000 in
theorem gX9_advance_X9_takeLetters : GoodIn wsX9_advance (wsV RX9 48 RX9 yX9_takeLetters wsX9_takeLetters) := goodIn_app (goodIn_r _ [9, 10, 11, 12] rfl (by decide +kernel)) ggX9_advance_X9_takeLetters
set_option maxRecDepth 20000 in
theorem ggX9_advance_X9_takeDigits : GoodIn wsX9_advance wsX9_takeDigits := goodIn_r _ [19, 20, 1, 2, 3, 4, 21, 8, 6, 22, 23, 24, 25, 26, 27, 28] rfl (by decide +kernel)
set_option maxRecDepth 20000 in
theorem gX9_advance_X9_takeDigits : GoodIn wsX9_advance (wsV RX9 51 RX9 yX9_takeDigits wsX9_takeDigits) := goodIn_app (goodIn_r _ [16, 17, 18, 12] rfl (by decide +kernel)) ggX9_advance_X9_takeDigits
set_option maxRecDepth 20000 in
theorem ggX10_init_X7_init : GoodIn wsX10_init wsX7_init := goodIn_r _ [42, 43, 2, 3, 44, 45, 46, 16, 47, 48, 49, 50, 51, 52, 53, 54, 55, 56, 155, 156, 157, 158, 159, 160, 161, 162, 163, 164, 165, 166] rfl (by decide +kernel)
set_option maxRecDepth 20000 in
theorem gX10_init_X7_init_n19 : GoodIn wsX10_init (wsX7_init) := ggX10_init_X7_init
set_option maxRecDepth 20000 in
theorem ggX10_init_X4_init : GoodIn wsX10_init wsX4_init := goodIn_r _ [58, 59, 2, 3, 60, 61, 62, 63, 64, 8, 9, 65, 66, 67, 68, 69, 70, 4, 71, 72, 73, 74, 75, 76, 77, 78, 41, 42, 43, 44, 45, 46, 16, 47, 48, 49, 50, 51, 52, 53, 54, 55, 56, 215, 216, 217, 218, 219, 220, 221, 167, 168, 169, 170, 155, 156, 157, 158, 159, 160, 161, 162, 163, 164, 165, 166] rfl (by decide +kernel)
set_option maxRecDepth 20000 in
theorem gX10_init_X4_init_n29 : GoodIn wsX10_init (wsX4_init) := ggX10_init_X4_init
set_option maxRecDepth 20000 in
theorem ggX10_init_X3_init : GoodIn wsX10_init wsX3_init := goodIn_r _ [80, 81, 2, 3, 82, 8, 9, 83, 84, 85, 86, 16, 87, 88, 89, 90, 45, 91, 92, 93, 94, 95, 96, 97, 98, 41, 42, 43, 44, 46, 47, 48, 49, 50, 51, 52, 53, 54, 55, 56, 155, 156, 157, 158, 159, 160, 161, 162, 163, 164, 165, 166, 171, 172, 173, 174, 175, 176, 177, 178, 179, 180, 181, 182, 183, 184, 185, 186] rfl (by decide +kernel)
set_option maxRecDepth 20000 in
theorem gX10_init_X3_init_n43 : GoodIn wsX10_init (wsX3_init) := ggX10_init_X3_init
set_option maxRecDepth 20000 in
theorem ggX10_init_X1_init : GoodIn wsX10_init wsX1_init := goodIn_r _ [100, 101, 2, 3, 102, 103, 16, 104, 187, 188, 189] rfl (by decide +kernel)
set_option maxRecDepth 20000 in
theorem gX10_init_X1_init_n53 : GoodIn wsX10_init (wsX1_init) := ggX10_init_X1_init
set_option maxRecDepth 20000 in
theorem ggX10_init_X0_init : GoodIn wsX10_init wsX0_init := goodIn_r _ [106, 107, 2, 3, 108, 45, 109, 110, 111, 112, 16, 113, 114, 115, 116, 117, 190, 191, 192, 193, 194, 195, 196, 197, 198] rfl (by decide +kernel)
set_option maxRecDepth 20000 in
theorem gX10_init_X0_init_n60 : GoodIn wsX10_init (wsX0_init) := ggX10_init_X0_init
set_option maxRecDepth 20000 in
theorem ggX10_init_X8_init : GoodIn wsX10_init wsX8_init := goodIn_r _ [119, 120, 2, 3, 121, 16, 122, 45, 123, 124, 199, 200, 201, 202] rfl (by decide +kernel)
set_option maxRecDepth 20000 in
theorem gX10_init_X8_init_n67 : GoodIn wsX10_init (wsX8_init) := ggX10_init_X8_init
set_option maxRecDepth 20000 in
theorem ggX10_init_X6_init : GoodIn wsX10_init wsX6_init := goodIn_r _ [126, 127, 2, 3, 128, 16, 129, 130, 131, 132, 133, 134, 135, 136, 137, 138, 139, 140, 203, 204, 205, 206, 207, 208, 209, 210, 211, 212, 213, 214] rfl (by decide +kernel)
set_option maxRecDepth 20000 in
theorem gX10_init_X6_init_n74 : GoodIn wsX10_init (wsX6_init) := ggX10_init_X6_init
set_option maxRecDepth 20000 in
theorem ggX10_feed_X10_putOnTape : GoodIn wsX10_feed wsX10_putOnTape := goodIn_r _ [6, 1, 7, 8, 9, 10, 11, 12, 13, 14, 15, 16, 17, 18, 19, 20, 21] rfl (by decide +kernel)
set_option maxRecDepth 20000 in
theorem gX10_feed_X10_putOnTape : GoodIn wsX10_feed (wsV RX10 82 RX10 yX10_putOnTape wsX10_putOnTape) := goodIn_app (goodIn_r _ [2, 3, 4, 5] rfl (by decide +kernel)) ggX10_feed_X10_putOnTape
set_option maxRecDepth 20000 in
theorem ggX10_house_X4_readHouse : GoodIn wsX10_house wsX4_readHouse := goodIn_r _ [14, 15, 16, 17, 18, 19, 20, 21, 22, 23, 24, 25, 26, 27, 28, 29, 30, 31, 32, 33, 34, 35, 36, 37, 38, 39, 40, 41, 42, 43, 44, 45, 46, 47, 48, 49, 50, 51, 52, 53, 54, 55, 56, 57, 58, 59, 60, 61, 62, 63, 13, 64, 65, 66, 67, 68, 69, 70, 71, 72, 73, 74, 75, 76, 77, 78, 79, 80, 81, 82, 83, 84, 85, 86, 87, 88, 89, 90, 91, 92, 93, 94, 95, 96, 97, 98, 99, 100, 101, 102, 103, 104, 105, 106, 107, 108, 109, 110, 111, 112, 113, 114, 115, 116, 117, 118, 119, 120, 121, 122, 123, 124, 125, 126, 127, 128, 129, 130, 131, 132, 133, 134, 135, 136, 137, 138, 139, 140, 141, 142, 143, 144, 145, 146, 147, 148, 149, 150, 151, 152, 153, 154, 155, 156, 157, 158, 159, 160, 161, 162, 163, 164, 165, 166, 167, 168, 169, 170, 171, 172, 173, 174, 175, 176, 177, 178, 179, 180, 181, 182, 183, 184, 185, 186, 187, 221, 222, 223, 224, 225, 226, 227, 228, 229, 230, 231, 209, 210, 211, 212, 213, 214, 215, 216, 217, 218, 219, 220] rfl (by decide +kernel)
set_option maxRecDepth 20000 in
theorem gX10_house_X4_readHouse : GoodIn wsX10_house (wsV RX10 86 RX4 yX4_readHouse wsX4_readHouse) := goodIn_app (goodIn_r _ [10, 11, 12, 13] rfl (by decide +kernel)) ggX10_house_X4_readHouse
set_option maxRecDepth 20000 in
theorem ggX10_house_X6_forgetAll : GoodIn wsX10_house wsX6_forgetAll := goodIn_r _ [192, 193, 194, 232, 233, 234, 235, 236, 237, 238, 239, 240, 241, 242, 243] rfl (by decide +kernel)
set_option maxRecDepth 20000 in
theorem gX10_house_X6_forgetAll : GoodIn wsX10_house (wsV RX10 90 RX6 yX6_forgetAll wsX6_forgetAll) := goodIn_app (goodIn_r _ [188, 189, 190, 191] rfl (by decide +kernel)) ggX10_house_X6_forgetAll
set_option maxRecDepth 20000 in
theorem ggX10_live_X10_isFloor : GoodIn wsX10_live wsX10_isFloor := goodIn_r _ [6, 7, 8, 9, 10, 11, 12, 13, 14, 15, 16, 17, 18, 19, 20, 21, 22, 23, 24, 25, 26, 27, 28, 29, 30, 31, 32, 33, 34] rfl (by decide +kernel)
set_option maxRecDepth 20000 in
theorem gX10_live_X10_isFloor : GoodIn wsX10_live (wsV RX10 102 RX10 yX10_isFloor wsX10_isFloor) := goodIn_app (goodIn_r _ [2, 3, 4, 5] rfl (by decide +kernel)) ggX10_live_X10_isFloor
set_option maxRecDepth 20000 in
theorem ggX10_move_X10_isMove : GoodIn wsX10_move wsX10_isMove := goodIn_r _ [5] rfl (by decide +kernel)
set_option maxRecDepth 20000 in
theorem gX10_move_X10_isMove : GoodIn wsX10_move (va_wsS RX10 106 yX10_isMove wsX10_isMove) := goodIn_app (goodIn_r _ [2, 3, 4] rfl (by decide +kernel)) ggX10_move_X10_isMove
set_option maxRecDepth 20000 in
theorem ggX10_joints_X10_isDrawing : GoodIn wsX10_joints wsX10_isDrawing := goodIn_r _ [6, 1, 7, 23, 24, 25, 26, 27, 28, 29, 30, 31, 32, 33, 34, 35, 36, 37, 38, 39, 40, 41, 42, 43, 44, 45, 46, 47, 48] rfl (by decide +kernel)
set_option maxRecDepth 20000 in
theorem gX10_joints_X10_isDrawing : GoodIn wsX10_joints (wsV RX10 109 RX10 yX10_isDrawing wsX10_isDrawing) := goodIn_app (goodIn_r _ [2, 3, 4, 5] rfl (by decide +kernel)) ggX10_joints_X10_isDrawing
set_option maxRecDepth 20000 in
theorem ggX10_joints_X7_jointsOf : GoodIn wsX10_joints wsX7_jointsOf := goodIn_r _ [12, 13, 14, 15, 16, 17, 18, 19, 20, 21, 22, 37, 38, 39, 40, 41, 42, 43, 44, 45, 46, 47, 48] rfl (by decide +kernel)
set_option maxRecDepth 20000 in
theorem gX10_joints_X7_jointsOf : GoodIn wsX10_joints (wsV RX10 112 RX7 yX7_jointsOf wsX7_jointsOf) := goodIn_app (goodIn_r _ [8, 9, 10, 11] rfl (by decide +kernel)) ggX10_joints_X7_jointsOf
set_option maxRecDepth 20000 in
theorem ggX10_joint_X10_isJoint : GoodIn wsX10_joint wsX10_isJoint := goodIn_r _ [8, 9, 10, 11, 12, 7, 13, 14, 15, 16, 17, 18, 19, 20, 21, 22, 23, 24, 25, 26, 27, 28, 29, 126, 127, 128, 129, 130, 131, 132, 133, 134, 135, 136, 137, 138, 139, 156, 157, 158, 159, 160, 161, 162, 163, 164, 165, 166, 167] rfl (by decide +kernel)
set_option maxRecDepth 20000 in
theorem gX10_joint_X10_isJoint : GoodIn wsX10_joint (wsV RX10 116 RX10 yX10_isJoint wsX10_isJoint) := goodIn_app (goodIn_r _ [4, 5, 6, 7] rfl (by decide +kernel)) ggX10_joint_X10_isJoint
set_option maxRecDepth 20000 in
theorem ggX10_joint_X10_reckoned : GoodIn wsX10_joint wsX10_reckoned := goodIn_r _ [33, 9, 34, 35, 36, 37, 38, 39, 40, 41, 42, 43, 44, 45, 46, 47, 48, 49, 50, 51, 52, 53, 54, 55, 56, 57, 58, 59, 60, 61, 62, 63, 64, 65, 66, 67, 68, 69, 70, 71, 72, 73, 74, 75, 76, 77, 78, 79, 80, 81, 82, 83, 84, 85, 86, 87, 88, 89, 90, 91, 92, 93, 94, 95, 96, 97, 98, 126, 127, 128, 129, 130, 131, 132, 133, 134, 135, 136, 137, 138, 139, 140, 141, 142, 143, 144, 145, 146, 147, 148, 149, 150, 151, 152, 153, 154, 155, 156, 157, 158, 159, 160, 161, 162, 163, 164, 165, 166, 167] rfl (by decide +kernel)
set_option maxRecDepth 20000 in
theorem gX10_joint_X10_reckoned : GoodIn wsX10_joint (wsV RX10 120 RX10 yX10_reckoned wsX10_reckoned) := goodIn_app (goodIn_r _ [30, 31, 32, 7] rfl (by decide +kernel)) ggX10_joint_X10_reckoned
set_option maxRecDepth 20000 in
theorem ggX10_joint_X3_canOf : GoodIn wsX10_joint wsX3_canOf := goodIn_r _ [102, 58, 57, 41, 103, 104, 105, 106, 39, 107, 48, 108, 43, 140, 141, 142, 143, 144, 145, 146, 147, 148, 149, 150, 151, 152, 153, 154, 155, 156, 157, 158, 159, 160, 161, 162, 163, 164, 165, 166, 167] rfl (by decide +kernel)
set_option maxRecDepth 20000 in
theorem gX10_joint_X3_canOf : GoodIn wsX10_joint (wsV RX10 130 RX3 yX3_canOf wsX3_canOf) := goodIn_app (goodIn_r _ [99, 100, 101, 39] rfl (by decide +kernel)) ggX10_joint_X3_canOf
set_option maxRecDepth 20000 in
theorem ggX10_joint_X3_isBeyond : GoodIn wsX10_joint wsX3_isBeyond := goodIn_r _ [112, 113, 114, 115, 39, 116, 58, 57, 63, 64, 65, 66, 46, 59, 60, 61, 62, 50, 117, 118, 119, 120, 96, 98, 121, 100, 101, 102, 41, 103, 104, 105, 106, 107, 48, 108, 43, 122, 123, 124, 125, 86, 76, 140, 141, 142, 143, 144, 145, 146, 147, 148, 149, 150, 151, 152, 153, 154, 155, 156, 157, 158, 159, 160, 161, 162, 163, 164, 165, 166, 167] rfl (by decide +kernel)
set_option maxRecDepth 20000 in
theorem gX10_joint_X3_isBeyond : GoodIn wsX10_joint (wsV RX10 133 RX3 yX3_isBeyond wsX3_isBeyond) := goodIn_app (goodIn_r _ [109, 110, 111, 39] rfl (by decide +kernel)) ggX10_joint_X3_isBeyond
set_option maxRecDepth 20000 in
theorem ggX10_bears_X10_isJoint : GoodIn wsX10_bears wsX10_isJoint := goodIn_r _ [7, 8, 9, 10, 11, 6, 12, 13, 14, 15, 16, 17, 18, 19, 20, 21, 22, 23, 24, 25, 26, 27, 28, 116, 117, 118, 119, 120, 121, 122, 123, 124, 125, 126, 127, 128, 129, 130, 131, 132, 133, 134, 135, 136, 137, 138, 139, 140, 141] rfl (by decide +kernel)
set_option maxRecDepth 20000 in
theorem gX10_bears_X10_isJoint : GoodIn wsX10_bears (wsV RX10 116 RX10 yX10_isJoint wsX10_isJoint) := goodIn_app (goodIn_r _ [3, 4, 5, 6] rfl (by decide +kernel)) ggX10_bears_X10_isJoint
set_option maxRecDepth 20000 in
theorem ggX10_bears_X10_reckoned : GoodIn wsX10_bears wsX10_reckoned := goodIn_r _ [32, 8, 33, 34, 35, 36, 37, 38, 39, 40, 41, 42, 43, 44, 45, 46, 47, 48, 49, 50, 51, 52, 53, 54, 55, 56, 57, 58, 59, 60, 61, 62, 63, 64, 65, 66, 67, 68, 69, 70, 71, 72, 73, 74, 75, 76, 77, 78, 79, 80, 81, 82, 83, 84, 85, 86, 87, 88, 89, 90, 91, 92, 93, 94, 95, 96, 97, 116, 117, 118, 119, 120, 121, 122, 123, 124, 125, 126, 127, 128, 129, 142, 143, 144, 145, 146, 147, 148, 149, 150, 151, 152, 153, 154, 155, 156, 157, 130, 131, 132, 133, 134, 135, 136, 137, 138, 139, 140, 141] rfl (by decide +kernel)
set_option maxRecDepth 20000 in
theorem gX10_bears_X10_reckoned : GoodIn wsX10_bears (wsV RX10 120 RX10 yX10_reckoned wsX10_reckoned) := goodIn_app (goodIn_r _ [29, 30, 31, 6] rfl (by decide +kernel)) ggX10_bears_X10_reckoned
set_option maxRecDepth 20000 in
theorem ggX10_bears_X3_bornBy : GoodIn wsX10_bears wsX3_bornBy := goodIn_r _ [101, 57, 95, 56, 97, 142, 143, 144, 145, 146, 147, 148, 149, 150, 151, 152, 153, 154, 155, 156, 157] rfl (by decide +kernel)
set_option maxRecDepth 20000 in
theorem gX10_bears_X3_bornBy : GoodIn wsX10_bears (wsV RX10 138 RX3 yX3_bornBy wsX3_bornBy) := goodIn_app (goodIn_r _ [98, 99, 100, 38] rfl (by decide +kernel)) ggX10_bears_X3_bornBy
set_option maxRecDepth 20000 in
theorem ggX10_bears_X3_unit : GoodIn wsX10_bears wsX3_unit := goodIn_r _ [105, 85, 75, 142, 143, 144, 145, 146, 147, 148, 149, 150, 151, 152, 153, 154, 155, 156, 157] rfl (by decide +kernel)
set_option maxRecDepth 20000 in
theorem gX10_bears_X3_unit : GoodIn wsX10_bears (wsV RX10 142 RX3 yX3_unit wsX3_unit) := goodIn_app (goodIn_r _ [102, 103, 104, 38] rfl (by decide +kernel)) ggX10_bears_X3_unit
set_option maxRecDepth 20000 in
theorem ggX10_bears_X2_partOf : GoodIn wsX10_bears wsX2_partOf := goodIn_r _ [109, 110, 111, 6, 112, 113, 114, 108, 115] rfl (by decide +kernel)
set_option maxRecDepth 20000 in
theorem gX10_bears_X2_partOf : GoodIn wsX10_bears (va_wsS RX10 146 yX2_partOf wsX2_partOf) := goodIn_app (goodIn_r _ [106, 107, 108] rfl (by decide +kernel)) ggX10_bears_X2_partOf
set_option maxRecDepth 20000 in
theorem ggX10_weight_X10_isDrawing : GoodIn wsX10_weight wsX10_isDrawing := goodIn_r _ [8, 9, 10, 99, 100, 101, 102, 103, 104, 105, 106, 107, 108, 109, 110, 111, 112, 129, 130, 131, 132, 133, 134, 135, 136, 137, 138, 139, 140] rfl (by decide +kernel)
set_option maxRecDepth 20000 in
theorem gX10_weight_X10_isDrawing : GoodIn wsX10_weight (wsV RX10 109 RX10 yX10_isDrawing wsX10_isDrawing) := goodIn_app (goodIn_r _ [4, 5, 6, 7] rfl (by decide +kernel)) ggX10_weight_X10_isDrawing
set_option maxRecDepth 20000 in
theorem ggX10_weight_X10_isFloor : GoodIn wsX10_weight wsX10_isFloor := goodIn_r _ [14, 9, 15, 99, 100, 101, 102, 103, 104, 105, 106, 107, 108, 109, 110, 111, 112, 129, 130, 131, 132, 133, 134, 135, 136, 137, 138, 139, 140] rfl (by decide +kernel)
set_option maxRecDepth 20000 in
theorem gX10_weight_X10_isFloor : GoodIn wsX10_weight (wsV RX10 102 RX10 yX10_isFloor wsX10_isFloor) := goodIn_app (goodIn_r _ [11, 12, 13, 7] rfl (by decide +kernel)) ggX10_weight_X10_isFloor
set_option maxRecDepth 20000 in
theorem ggX10_weight_X10_reckoned : GoodIn wsX10_weight wsX10_reckoned := goodIn_r _ [19, 9, 20, 21, 22, 23, 24, 25, 26, 27, 28, 29, 30, 31, 32, 33, 34, 35, 36, 37, 38, 39, 40, 41, 42, 43, 44, 45, 46, 47, 48, 49, 50, 51, 52, 53, 54, 55, 56, 57, 58, 59, 60, 61, 62, 63, 64, 65, 66, 67, 68, 69, 70, 71, 72, 73, 74, 75, 76, 77, 78, 79, 80, 81, 82, 83, 84, 99, 100, 101, 102, 103, 104, 105, 106, 107, 108, 109, 110, 111, 112, 113, 114, 115, 116, 117, 118, 119, 120, 121, 122, 123, 124, 125, 126, 127, 128, 129, 130, 131, 132, 133, 134, 135, 136, 137, 138, 139, 140] rfl (by decide +kernel)
set_option maxRecDepth 20000 in
theorem gX10_weight_X10_reckoned : GoodIn wsX10_weight (wsV RX10 120 RX10 yX10_reckoned wsX10_reckoned) := goodIn_app (goodIn_r _ [16, 17, 18, 7] rfl (by decide +kernel)) ggX10_weight_X10_reckoned
set_option maxRecDepth 20000 in
theorem ggX10_weight_X3_unit : GoodIn wsX10_weight wsX3_unit := goodIn_r _ [88, 72, 62, 113, 114, 115, 116, 117, 118, 119, 120, 121, 122, 123, 124, 125, 126, 127, 128] rfl (by decide +kernel)
set_option maxRecDepth 20000 in
theorem gX10_weight_X3_unit : GoodIn wsX10_weight (wsV RX10 142 RX3 yX3_unit wsX3_unit) := goodIn_app (goodIn_r _ [85, 86, 87, 25] rfl (by decide +kernel)) ggX10_weight_X3_unit
set_option maxRecDepth 20000 in
theorem ggX10_weight_X2_partOf : GoodIn wsX10_weight wsX2_partOf := goodIn_r _ [92, 93, 94, 7, 95, 96, 97, 91, 98] rfl (by decide +kernel)
set_option maxRecDepth 20000 in
theorem gX10_weight_X2_partOf : GoodIn wsX10_weight (va_wsS RX10 146 yX2_partOf wsX2_partOf) := goodIn_app (goodIn_r _ [89, 90, 91] rfl (by decide +kernel)) ggX10_weight_X2_partOf
set_option maxRecDepth 20000 in
theorem ggX10_beyond_X10_isDrawing : GoodIn wsX10_beyond wsX10_isDrawing := goodIn_r _ [6, 7, 8, 108, 109, 110, 111, 112, 113, 114, 115, 116, 117, 118, 119, 120, 121, 122, 123, 124, 125, 126, 127, 128, 129, 130, 131, 132, 133] rfl (by decide +kernel)
set_option maxRecDepth 20000 in
theorem gX10_beyond_X10_isDrawing : GoodIn wsX10_beyond (wsV RX10 109 RX10 yX10_isDrawing wsX10_isDrawing) := goodIn_app (goodIn_r _ [2, 3, 4, 5] rfl (by decide +kernel)) ggX10_beyond_X10_isDrawing
set_option maxRecDepth 20000 in
theorem ggX10_beyond_X10_reckoned : GoodIn wsX10_beyond wsX10_reckoned := goodIn_r _ [12, 7, 13, 14, 15, 16, 17, 18, 19, 20, 21, 22, 23, 24, 25, 26, 27, 28, 29, 30, 31, 32, 33, 34, 35, 36, 37, 38, 39, 40, 41, 42, 43, 44, 45, 46, 47, 48, 49, 50, 51, 52, 53, 54, 55, 56, 57, 58, 59, 60, 61, 62, 63, 64, 65, 66, 67, 68, 69, 70, 71, 72, 73, 74, 75, 76, 77, 108, 109, 110, 111, 112, 113, 114, 115, 116, 117, 118, 119, 120, 121, 134, 135, 136, 137, 138, 139, 140, 141, 142, 143, 144, 145, 146, 147, 148, 149, 122, 123, 124, 125, 126, 127, 128, 129, 130, 131, 132, 133] rfl (by decide +kernel)
set_option maxRecDepth 20000 in
theorem gX10_beyond_X10_reckoned : GoodIn wsX10_beyond (wsV RX10 120 RX10 yX10_reckoned wsX10_reckoned) := goodIn_app (goodIn_r _ [9, 10, 11, 5] rfl (by decide +kernel)) ggX10_beyond_X10_reckoned
set_option maxRecDepth 20000 in
theorem ggX10_beyond_X3_countBeyond : GoodIn wsX10_beyond wsX3_countBeyond := goodIn_r _ [81, 26, 82, 83, 84, 18, 85, 86, 87, 88, 89, 37, 36, 42, 43, 44, 45, 25, 38, 39, 40, 41, 29, 90, 91, 92, 93, 75, 77, 94, 95, 96, 97, 20, 98, 99, 100, 101, 102, 27, 103, 22, 104, 105, 106, 107, 65, 55, 134, 135, 136, 137, 138, 139, 140, 141, 142, 143, 144, 145, 146, 147, 148, 149, 122, 123, 124, 125, 126, 127, 128, 129, 130, 131, 132, 133] rfl (by decide +kernel)
set_option maxRecDepth 20000 in
theorem gX10_beyond_X3_countBeyond : GoodIn wsX10_beyond (wsV RX10 156 RX3 yX3_countBeyond wsX3_countBeyond) := goodIn_app (goodIn_r _ [78, 79, 80, 18] rfl (by decide +kernel)) ggX10_beyond_X3_countBeyond
set_option maxRecDepth 20000 in
theorem ggX10_worst_X10_isDrawing : GoodIn wsX10_worst wsX10_isDrawing := goodIn_r _ [6, 7, 8, 100, 101, 102, 103, 104, 105, 106, 107, 108, 109, 110, 111, 112, 113, 114, 115, 116, 117, 118, 119, 120, 121, 122, 123, 124, 125] rfl (by decide +kernel)
set_option maxRecDepth 20000 in
theorem gX10_worst_X10_isDrawing : GoodIn wsX10_worst (wsV RX10 109 RX10 yX10_isDrawing wsX10_isDrawing) := goodIn_app (goodIn_r _ [2, 3, 4, 5] rfl (by decide +kernel)) ggX10_worst_X10_isDrawing
set_option maxRecDepth 20000 in
theorem ggX10_worst_X10_reckoned : GoodIn wsX10_worst wsX10_reckoned := goodIn_r _ [12, 7, 13, 14, 15, 16, 17, 18, 19, 20, 21, 22, 23, 24, 25, 26, 27, 28, 29, 30, 31, 32, 33, 34, 35, 36, 37, 38, 39, 40, 41, 42, 43, 44, 45, 46, 47, 48, 49, 50, 51, 52, 53, 54, 55, 56, 57, 58, 59, 60, 61, 62, 63, 64, 65, 66, 67, 68, 69, 70, 71, 72, 73, 74, 75, 76, 77, 100, 101, 102, 103, 104, 105, 106, 107, 108, 109, 110, 111, 112, 113, 126, 127, 128, 129, 130, 131, 132, 133, 134, 135, 136, 137, 138, 139, 140, 141, 114, 115, 116, 117, 118, 119, 120, 121, 122, 123, 124, 125] rfl (by decide +kernel)
set_option maxRecDepth 20000 in
theorem gX10_worst_X10_reckoned : GoodIn wsX10_worst (wsV RX10 120 RX10 yX10_reckoned wsX10_reckoned) := goodIn_app (goodIn_r _ [9, 10, 11, 5] rfl (by decide +kernel)) ggX10_worst_X10_reckoned
set_option maxRecDepth 20000 in
theorem ggX10_worst_X3_worstJoint : GoodIn wsX10_worst wsX3_worstJoint := goodIn_r _ [81, 26, 82, 83, 84, 18, 85, 37, 36, 42, 43, 44, 45, 25, 38, 39, 40, 41, 29, 86, 87, 88, 89, 75, 77, 90, 91, 92, 93, 20, 94, 95, 96, 97, 98, 27, 99, 22, 126, 127, 128, 129, 130, 131, 132, 133, 134, 135, 136, 137, 138, 139, 140, 141, 114, 115, 116, 117, 118, 119, 120, 121, 122, 123, 124, 125] rfl (by decide +kernel)
set_option maxRecDepth 20000 in
theorem gX10_worst_X3_worstJoint : GoodIn wsX10_worst (wsV RX10 160 RX3 yX3_worstJoint wsX3_worstJoint) := goodIn_app (goodIn_r _ [78, 79, 80, 18] rfl (by decide +kernel)) ggX10_worst_X3_worstJoint
set_option maxRecDepth 20000 in
theorem ggX10_fall_X10_isDrawing : GoodIn wsX10_fall wsX10_isDrawing := goodIn_r _ [9, 10, 11, 140, 141, 142, 143, 144, 145, 146, 147, 148, 149, 150, 151, 152, 153, 157, 158, 159, 160, 161, 162, 163, 164, 165, 166, 167, 168] rfl (by decide +kernel)
set_option maxRecDepth 20000 in
theorem gX10_fall_X10_isDrawing : GoodIn wsX10_fall (wsV RX10 109 RX10 yX10_isDrawing wsX10_isDrawing) := goodIn_app (goodIn_r _ [5, 6, 7, 8] rfl (by decide +kernel)) ggX10_fall_X10_isDrawing
set_option maxRecDepth 20000 in
theorem ggX10_fall_X10_isPart : GoodIn wsX10_fall wsX10_isPart := goodIn_r _ [14] rfl (by decide +kernel)
set_option maxRecDepth 20000 in
theorem gX10_fall_X10_isPart : GoodIn wsX10_fall (va_wsS RX10 163 yX10_isPart wsX10_isPart) := goodIn_app (goodIn_r _ [12, 13, 8] rfl (by decide +kernel)) ggX10_fall_X10_isPart
set_option maxRecDepth 20000 in
theorem ggX10_fall_X10_reckoned : GoodIn wsX10_fall wsX10_reckoned := goodIn_r _ [18, 10, 19, 20, 21, 22, 23, 24, 25, 26, 27, 28, 29, 30, 31, 32, 33, 34, 35, 36, 37, 38, 39, 40, 41, 42, 43, 44, 45, 46, 47, 48, 49, 50, 51, 52, 53, 54, 55, 56, 57, 58, 59, 60, 61, 62, 63, 64, 65, 66, 67, 68, 69, 70, 71, 72, 73, 74, 75, 76, 77, 78, 79, 80, 81, 82, 83, 140, 141, 142, 143, 144, 145, 146, 147, 148, 149, 150, 151, 152, 153, 169, 170, 171, 172, 173, 174, 175, 176, 177, 178, 179, 180, 181, 182, 183, 184, 157, 158, 159, 160, 161, 162, 163, 164, 165, 166, 167, 168] rfl (by decide +kernel)
set_option maxRecDepth 20000 in
theorem gX10_fall_X10_reckoned : GoodIn wsX10_fall (wsV RX10 120 RX10 yX10_reckoned wsX10_reckoned) := goodIn_app (goodIn_r _ [15, 16, 17, 8] rfl (by decide +kernel)) ggX10_fall_X10_reckoned
set_option maxRecDepth 20000 in
theorem ggX10_fall_X1_run : GoodIn wsX10_fall wsX1_run := goodIn_r _ [88, 89, 90, 91, 92, 93, 94, 24, 95, 30, 35, 26, 37, 48, 49, 50, 51, 31, 96, 97, 98, 99, 32, 100, 101, 102, 103, 43, 42, 44, 45, 46, 47, 104, 105, 106, 107, 81, 83, 108, 109, 110, 111, 112, 113, 114, 115, 116, 33, 117, 28, 118, 119, 120, 121, 122, 123, 124, 125, 71, 61, 126, 127, 87, 128, 129, 130, 131, 132, 133, 134, 135, 136, 137, 138, 139, 64, 65, 66, 67, 68, 69, 70, 72, 73, 74, 75, 76, 77, 78, 79, 80, 56, 82, 154, 155, 156, 169, 170, 171, 172, 173, 174, 175, 176, 177, 178, 179, 180, 181, 182, 183, 184, 157, 158, 159, 160, 161, 162, 163, 164, 165, 166, 167, 168] rfl (by decide +kernel)
set_option maxRecDepth 20000 in
theorem gX10_fall_X1_run : GoodIn wsX10_fall (wsV RX10 166 RX1 yX1_run wsX1_run) := goodIn_app (goodIn_r _ [84, 85, 86, 87] rfl (by decide +kernel)) ggX10_fall_X1_run
set_option maxRecDepth 20000 in
theorem ggX10_goes_X10_isDrawing : GoodIn wsX10_goes wsX10_isDrawing := goodIn_r _ [9, 10, 11, 137, 138, 139, 140, 141, 142, 143, 144, 145, 146, 147, 148, 149, 150, 154, 155, 156, 157, 158, 159, 160, 161, 162, 163, 164, 165] rfl (by decide +kernel)
set_option maxRecDepth 20000 in
theorem gX10_goes_X10_isDrawing : GoodIn wsX10_goes (wsV RX10 109 RX10 yX10_isDrawing wsX10_isDrawing) := goodIn_app (goodIn_r _ [5, 6, 7, 8] rfl (by decide +kernel)) ggX10_goes_X10_isDrawing
set_option maxRecDepth 20000 in
theorem ggX10_goes_X10_reckoned : GoodIn wsX10_goes wsX10_reckoned := goodIn_r _ [15, 10, 16, 17, 18, 19, 20, 21, 22, 23, 24, 25, 26, 27, 28, 29, 30, 31, 32, 33, 34, 35, 36, 37, 38, 39, 40, 41, 42, 43, 44, 45, 46, 47, 48, 49, 50, 51, 52, 53, 54, 55, 56, 57, 58, 59, 60, 61, 62, 63, 64, 65, 66, 67, 68, 69, 70, 71, 72, 73, 74, 75, 76, 77, 78, 79, 80, 137, 138, 139, 140, 141, 142, 143, 144, 145, 146, 147, 148, 149, 150, 166, 167, 168, 169, 170, 171, 172, 173, 174, 175, 176, 177, 178, 179, 180, 181, 154, 155, 156, 157, 158, 159, 160, 161, 162, 163, 164, 165] rfl (by decide +kernel)
set_option maxRecDepth 20000 in
theorem gX10_goes_X10_reckoned : GoodIn wsX10_goes (wsV RX10 120 RX10 yX10_reckoned wsX10_reckoned) := goodIn_app (goodIn_r _ [12, 13, 14, 8] rfl (by decide +kernel)) ggX10_goes_X10_reckoned
set_option maxRecDepth 20000 in
theorem ggX10_goes_X1_run : GoodIn wsX10_goes wsX1_run := goodIn_r _ [85, 86, 87, 88, 89, 90, 91, 21, 92, 27, 32, 23, 34, 45, 46, 47, 48, 28, 93, 94, 95, 96, 29, 97, 98, 99, 100, 40, 39, 41, 42, 43, 44, 101, 102, 103, 104, 78, 80, 105, 106, 107, 108, 109, 110, 111, 112, 113, 30, 114, 25, 115, 116, 117, 118, 119, 120, 121, 122, 68, 58, 123, 124, 84, 125, 126, 127, 128, 129, 130, 131, 132, 133, 134, 135, 136, 61, 62, 63, 64, 65, 66, 67, 69, 70, 71, 72, 73, 74, 75, 76, 77, 53, 79, 151, 152, 153, 166, 167, 168, 169, 170, 171, 172, 173, 174, 175, 176, 177, 178, 179, 180, 181, 154, 155, 156, 157, 158, 159, 160, 161, 162, 163, 164, 165] rfl (by decide +kernel)
set_option maxRecDepth 20000 in
theorem gX10_goes_X1_run : GoodIn wsX10_goes (wsV RX10 166 RX1 yX1_run wsX1_run) := goodIn_app (goodIn_r _ [81, 82, 83, 84] rfl (by decide +kernel)) ggX10_goes_X1_run
set_option maxRecDepth 20000 in
theorem ggX10_change_X10_isDrawing : GoodIn wsX10_change wsX10_isDrawing := goodIn_r _ [8, 9, 10, 112, 113, 114, 115, 116, 117, 118, 119, 120, 121, 122, 123, 124, 125, 142, 143, 144, 145, 146, 147, 148, 149, 150, 151, 152, 153] rfl (by decide +kernel)
set_option maxRecDepth 20000 in
theorem gX10_change_X10_isDrawing : GoodIn wsX10_change (wsV RX10 109 RX10 yX10_isDrawing wsX10_isDrawing) := goodIn_app (goodIn_r _ [4, 5, 6, 7] rfl (by decide +kernel)) ggX10_change_X10_isDrawing
set_option maxRecDepth 20000 in
theorem ggX10_change_X10_reckoned : GoodIn wsX10_change wsX10_reckoned := goodIn_r _ [14, 9, 15, 16, 17, 18, 19, 20, 21, 22, 23, 24, 25, 26, 27, 28, 29, 30, 31, 32, 33, 34, 35, 36, 37, 38, 39, 40, 41, 42, 43, 44, 45, 46, 47, 48, 49, 50, 51, 52, 53, 54, 55, 56, 57, 58, 59, 60, 61, 62, 63, 64, 65, 66, 67, 68, 69, 70, 71, 72, 73, 74, 75, 76, 77, 78, 79, 112, 113, 114, 115, 116, 117, 118, 119, 120, 121, 122, 123, 124, 125, 126, 127, 128, 129, 130, 131, 132, 133, 134, 135, 136, 137, 138, 139, 140, 141, 142, 143, 144, 145, 146, 147, 148, 149, 150, 151, 152, 153] rfl (by decide +kernel)
set_option maxRecDepth 20000 in
theorem gX10_change_X10_reckoned : GoodIn wsX10_change (wsV RX10 120 RX10 yX10_reckoned wsX10_reckoned) := goodIn_app (goodIn_r _ [11, 12, 13, 7] rfl (by decide +kernel)) ggX10_change_X10_reckoned
set_option maxRecDepth 20000 in
theorem ggX10_change_X3_countMore : GoodIn wsX10_change wsX3_countMore := goodIn_r _ [83, 28, 67, 84, 85, 86, 20, 87, 22, 23, 88, 24, 38, 39, 89, 90, 91, 92, 93, 94, 95, 96, 97, 98, 99, 100, 101, 102, 77, 79, 126, 127, 128, 129, 130, 131, 132, 133, 134, 135, 136, 137, 138, 139, 140, 141, 142, 143, 144, 145, 146, 147, 148, 149, 150, 151, 152, 153] rfl (by decide +kernel)
set_option maxRecDepth 20000 in
theorem gX10_change_X3_countMore : GoodIn wsX10_change (wsV RX10 179 RX3 yX3_countMore wsX3_countMore) := goodIn_app (goodIn_r _ [80, 81, 82, 20] rfl (by decide +kernel)) ggX10_change_X3_countMore
set_option maxRecDepth 20000 in
theorem ggX10_change_X3_countTwice : GoodIn wsX10_change wsX3_countTwice := goodIn_r _ [106, 28, 67, 107, 84, 85, 86, 20, 87, 22, 23, 88, 24, 38, 39, 89, 90, 91, 92, 93, 94, 95, 96, 97, 98, 99, 100, 101, 102, 77, 79, 126, 127, 128, 129, 130, 131, 132, 133, 134, 135, 136, 137, 138, 139, 140, 141, 142, 143, 144, 145, 146, 147, 148, 149, 150, 151, 152, 153] rfl (by decide +kernel)
set_option maxRecDepth 20000 in
theorem gX10_change_X3_countTwice : GoodIn wsX10_change (wsV RX10 183 RX3 yX3_countTwice wsX3_countTwice) := goodIn_app (goodIn_r _ [103, 104, 105, 20] rfl (by decide +kernel)) ggX10_change_X3_countTwice
set_option maxRecDepth 20000 in
theorem ggX10_change_X3_countSame : GoodIn wsX10_change wsX3_countSame := goodIn_r _ [111, 28, 84, 85, 86, 20, 87, 22, 23, 88, 24, 38, 39, 89, 90, 91, 92, 93, 94, 95, 96, 97, 98, 126, 127, 128, 129, 130, 131, 132, 133, 134, 135, 136, 137, 138, 139, 140, 141, 142, 143, 144, 145, 146, 147, 148, 149, 150, 151, 152, 153] rfl (by decide +kernel)
set_option maxRecDepth 20000 in
theorem gX10_change_X3_countSame : GoodIn wsX10_change (wsV RX10 189 RX3 yX3_countSame wsX3_countSame) := goodIn_app (goodIn_r _ [108, 109, 110, 20] rfl (by decide +kernel)) ggX10_change_X3_countSame
set_option maxRecDepth 20000 in
theorem ggX10_weak_X10_isDrawing : GoodIn wsX10_weak wsX10_isDrawing := goodIn_r _ [7, 2, 8, 98, 99, 100, 101, 102, 103, 104, 105, 106, 107, 108, 109, 110, 111, 112, 113, 114, 115, 116, 117, 118, 119, 120, 121, 122, 123] rfl (by decide +kernel)
set_option maxRecDepth 20000 in
theorem gX10_weak_X10_isDrawing : GoodIn wsX10_weak (wsV RX10 109 RX10 yX10_isDrawing wsX10_isDrawing) := goodIn_app (goodIn_r _ [3, 4, 5, 6] rfl (by decide +kernel)) ggX10_weak_X10_isDrawing
set_option maxRecDepth 20000 in
theorem ggX10_weak_X3_draw : GoodIn wsX10_weak wsX3_draw := goodIn_r _ [13, 14, 15, 16, 17, 18, 19, 20, 21, 22, 23, 24, 25, 26, 27, 28, 12, 29, 30, 31, 32, 33, 34, 35, 36, 37, 38, 39, 124, 125, 126, 127, 128, 129, 130, 131, 132, 133, 134, 135, 136, 137, 138, 139, 112, 113, 114, 115, 116, 117, 118, 119, 120, 121, 122, 123] rfl (by decide +kernel)
set_option maxRecDepth 20000 in
theorem gX10_weak_X3_draw : GoodIn wsX10_weak (wsV RX10 192 RX3 yX3_draw wsX3_draw) := goodIn_app (goodIn_r _ [9, 10, 11, 12] rfl (by decide +kernel)) ggX10_weak_X3_draw
set_option maxRecDepth 20000 in
theorem ggX10_weak_X3_loadNobody : GoodIn wsX10_weak wsX3_loadNobody := goodIn_r _ [43, 14, 25, 44, 45, 46, 124, 125, 126, 127, 128, 129, 130, 131, 132, 133, 134, 135, 136, 137, 138, 139, 112, 113, 114, 115, 116, 117, 118, 119, 120, 121, 122, 123] rfl (by decide +kernel)
set_option maxRecDepth 20000 in
theorem gX10_weak_X3_loadNobody : GoodIn wsX10_weak (wsV RX10 196 RX3 yX3_loadNobody wsX3_loadNobody) := goodIn_app (goodIn_r _ [40, 41, 42, 12] rfl (by decide +kernel)) ggX10_weak_X3_loadNobody
set_option maxRecDepth 20000 in
theorem ggX10_weak_X3_reckon : GoodIn wsX10_weak wsX3_reckon := goodIn_r _ [50, 51, 52, 53, 12, 54, 55, 14, 25, 18, 56, 57, 58, 59, 60, 32, 33, 34, 35, 23, 36, 37, 38, 39, 19, 61, 62, 63, 64, 65, 44, 21, 66, 67, 124, 125, 126, 127, 128, 129, 130, 131, 132, 133, 134, 135, 136, 137, 138, 139, 112, 113, 114, 115, 116, 117, 118, 119, 120, 121, 122, 123] rfl (by decide +kernel)
set_option maxRecDepth 20000 in
theorem gX10_weak_X3_reckon : GoodIn wsX10_weak (wsV RX10 199 RX3 yX3_reckon wsX3_reckon) := goodIn_app (goodIn_r _ [47, 48, 49, 12] rfl (by decide +kernel)) ggX10_weak_X3_reckon
set_option maxRecDepth 20000 in
theorem ggX10_weak_X3_countBeyond : GoodIn wsX10_weak wsX3_countBeyond := goodIn_r _ [71, 20, 72, 73, 74, 12, 75, 76, 77, 78, 79, 31, 30, 36, 37, 38, 39, 19, 32, 33, 34, 35, 23, 80, 81, 82, 83, 65, 67, 84, 85, 86, 87, 14, 88, 89, 90, 91, 92, 21, 93, 16, 94, 95, 96, 97, 55, 45, 124, 125, 126, 127, 128, 129, 130, 131, 132, 133, 134, 135, 136, 137, 138, 139, 112, 113, 114, 115, 116, 117, 118, 119, 120, 121, 122, 123] rfl (by decide +kernel)
set_option maxRecDepth 20000 in
theorem gX10_weak_X3_countBeyond : GoodIn wsX10_weak (wsV RX10 156 RX3 yX3_countBeyond wsX3_countBeyond) := goodIn_app (goodIn_r _ [68, 69, 70, 12] rfl (by decide +kernel)) ggX10_weak_X3_countBeyond
set_option maxRecDepth 20000 in
theorem ggX10_floors_X10_isDrawing : GoodIn wsX10_floors wsX10_isDrawing := goodIn_r _ [7, 2, 8, 52, 53, 54, 55, 56, 57, 58, 59, 60, 61, 62, 63, 64, 65, 66, 67, 68, 69, 70, 71, 72, 73, 74, 75, 76, 77] rfl (by decide +kernel)
set_option maxRecDepth 20000 in
theorem gX10_floors_X10_isDrawing : GoodIn wsX10_floors (wsV RX10 109 RX10 yX10_isDrawing wsX10_isDrawing) := goodIn_app (goodIn_r _ [3, 4, 5, 6] rfl (by decide +kernel)) ggX10_floors_X10_isDrawing
set_option maxRecDepth 20000 in
theorem ggX10_floors_X10_isPart : GoodIn wsX10_floors wsX10_isPart := goodIn_r _ [11] rfl (by decide +kernel)
set_option maxRecDepth 20000 in
theorem gX10_floors_X10_isPart : GoodIn wsX10_floors (va_wsS RX10 163 yX10_isPart wsX10_isPart) := goodIn_app (goodIn_r _ [9, 10, 6] rfl (by decide +kernel)) ggX10_floors_X10_isPart
set_option maxRecDepth 20000 in
theorem ggX10_floors_X3_draw : GoodIn wsX10_floors wsX3_draw := goodIn_r _ [16, 17, 18, 19, 20, 21, 22, 23, 24, 25, 26, 27, 28, 29, 30, 31, 15, 32, 33, 34, 35, 36, 37, 38, 39, 40, 41, 42, 78, 79, 80, 81, 82, 83, 84, 85, 86, 87, 88, 89, 90, 91, 92, 93, 66, 67, 68, 69, 70, 71, 72, 73, 74, 75, 76, 77] rfl (by decide +kernel)
set_option maxRecDepth 20000 in
theorem gX10_floors_X3_draw : GoodIn wsX10_floors (wsV RX10 192 RX3 yX3_draw wsX3_draw) := goodIn_app (goodIn_r _ [12, 13, 14, 15] rfl (by decide +kernel)) ggX10_floors_X3_draw
set_option maxRecDepth 20000 in
theorem ggX10_floors_X3_openFloors : GoodIn wsX10_floors wsX3_openFloors := goodIn_r _ [46, 21, 26, 17, 28, 39, 40, 41, 15, 42, 22, 78, 79, 80, 81, 82, 83, 84, 85, 86, 87, 88, 89, 90, 91, 92, 93, 66, 67, 68, 69, 70, 71, 72, 73, 74, 75, 76, 77] rfl (by decide +kernel)
set_option maxRecDepth 20000 in
theorem gX10_floors_X3_openFloors : GoodIn wsX10_floors (wsV RX10 202 RX3 yX3_openFloors wsX3_openFloors) := goodIn_app (goodIn_r _ [43, 44, 45, 15] rfl (by decide +kernel)) ggX10_floors_X3_openFloors
set_option maxRecDepth 20000 in
theorem ggX10_floors_X3_doubleFloors : GoodIn wsX10_floors wsX3_doubleFloors := goodIn_r _ [50, 21, 24, 51, 44, 45, 15, 46, 26, 17, 28, 39, 40, 41, 42, 22, 78, 79, 80, 81, 82, 83, 84, 85, 86, 87, 88, 89, 90, 91, 92, 93, 66, 67, 68, 69, 70, 71, 72, 73, 74, 75, 76, 77] rfl (by decide +kernel)
set_option maxRecDepth 20000 in
theorem gX10_floors_X3_doubleFloors : GoodIn wsX10_floors (wsV RX10 205 RX3 yX3_doubleFloors wsX3_doubleFloors) := goodIn_app (goodIn_r _ [47, 48, 49, 15] rfl (by decide +kernel)) ggX10_floors_X3_doubleFloors
set_option maxRecDepth 20000 in
theorem ggX10_mend_X10_isDrawing : GoodIn wsX10_mend wsX10_isDrawing := goodIn_r _ [6, 7, 8, 115, 116, 117, 118, 119, 120, 121, 122, 123, 124, 125, 126, 127, 128, 129, 130, 131, 132, 133, 134, 135, 136, 137, 138, 139, 140] rfl (by decide +kernel)
set_option maxRecDepth 20000 in
theorem gX10_mend_X10_isDrawing : GoodIn wsX10_mend (wsV RX10 109 RX10 yX10_isDrawing wsX10_isDrawing) := goodIn_app (goodIn_r _ [2, 3, 4, 5] rfl (by decide +kernel)) ggX10_mend_X10_isDrawing
set_option maxRecDepth 20000 in
theorem ggX10_mend_X10_isPart : GoodIn wsX10_mend wsX10_isPart := goodIn_r _ [11] rfl (by decide +kernel)
set_option maxRecDepth 20000 in
theorem gX10_mend_X10_isPart : GoodIn wsX10_mend (va_wsS RX10 163 yX10_isPart wsX10_isPart) := goodIn_app (goodIn_r _ [9, 10, 5] rfl (by decide +kernel)) ggX10_mend_X10_isPart
set_option maxRecDepth 20000 in
theorem ggX10_mend_X10_reckoned : GoodIn wsX10_mend wsX10_reckoned := goodIn_r _ [15, 7, 16, 17, 18, 19, 20, 21, 22, 23, 24, 25, 26, 27, 28, 29, 30, 31, 32, 33, 34, 35, 36, 37, 38, 39, 40, 41, 42, 43, 44, 45, 46, 47, 48, 49, 50, 51, 52, 53, 54, 55, 56, 57, 58, 59, 60, 61, 62, 63, 64, 65, 66, 67, 68, 69, 70, 71, 72, 73, 74, 75, 76, 77, 78, 79, 80, 115, 116, 117, 118, 119, 120, 121, 122, 123, 124, 125, 126, 127, 128, 141, 142, 143, 144, 145, 146, 147, 148, 149, 150, 151, 152, 153, 154, 155, 156, 129, 130, 131, 132, 133, 134, 135, 136, 137, 138, 139, 140] rfl (by decide +kernel)
set_option maxRecDepth 20000 in
theorem gX10_mend_X10_reckoned : GoodIn wsX10_mend (wsV RX10 120 RX10 yX10_reckoned wsX10_reckoned) := goodIn_app (goodIn_r _ [12, 13, 14, 5] rfl (by decide +kernel)) ggX10_mend_X10_reckoned
set_option maxRecDepth 20000 in
theorem ggX10_mend_X3_fewestToRoof : GoodIn wsX10_mend wsX3_fewestToRoof := goodIn_r _ [84, 27, 85, 86, 87, 21, 88, 30, 89, 90, 91, 92, 93, 94, 95, 96, 97, 98, 99, 23, 31, 25, 74, 75, 76, 77, 78, 34, 53, 68, 79, 80, 69, 45, 46, 47, 48, 28, 41, 42, 43, 44, 32, 100, 101, 102, 103, 104, 105, 106, 107, 108, 109, 110, 111, 112, 113, 58, 141, 142, 143, 144, 145, 146, 147, 148, 149, 150, 151, 152, 153, 154, 155, 156, 129, 130, 131, 132, 133, 134, 135, 136, 137, 138, 139, 140] rfl (by decide +kernel)
set_option maxRecDepth 20000 in
theorem gX10_mend_X3_fewestToRoof : GoodIn wsX10_mend (wsV RX10 208 RX3 yX3_fewestToRoof wsX3_fewestToRoof) := goodIn_app (goodIn_r _ [81, 82, 83, 21] rfl (by decide +kernel)) ggX10_mend_X3_fewestToRoof
set_option maxRecDepth 20000 in
theorem ggX10_mend_J6_bitCount_0f7a4 : GoodIn wsX10_mend wsJ6_bitCount_0f7a4 := goodIn_r _ [92, 93, 94, 95] rfl (by decide +kernel)
set_option maxRecDepth 20000 in
theorem gX10_mend_J6_bitCount_0f7a4 : GoodIn wsX10_mend (va_wsS RX10 211 yJ6_bitCount_0f7a4 wsJ6_bitCount_0f7a4) := goodIn_app (goodIn_r _ [114, 90, 91] rfl (by decide +kernel)) ggX10_mend_J6_bitCount_0f7a4
set_option maxRecDepth 20000 in
theorem ggX10_odds_X10_isDrawing : GoodIn wsX10_odds wsX10_isDrawing := goodIn_r _ [11, 3, 12, 150, 151, 152, 153, 154, 155, 156, 157, 158, 159, 160, 161, 162, 163, 173, 174, 175, 176, 177, 178, 179, 180, 181, 182, 183, 184] rfl (by decide +kernel)
set_option maxRecDepth 20000 in
theorem gX10_odds_X10_isDrawing : GoodIn wsX10_odds (wsV RX10 109 RX10 yX10_isDrawing wsX10_isDrawing) := goodIn_app (goodIn_r _ [7, 8, 9, 10] rfl (by decide +kernel)) ggX10_odds_X10_isDrawing
set_option maxRecDepth 20000 in
theorem ggX10_odds_X10_isMove : GoodIn wsX10_odds wsX10_isMove := goodIn_r _ [15] rfl (by decide +kernel)
set_option maxRecDepth 20000 in
theorem gX10_odds_X10_isMove : GoodIn wsX10_odds (va_wsS RX10 106 yX10_isMove wsX10_isMove) := goodIn_app (goodIn_r _ [13, 14, 10] rfl (by decide +kernel)) ggX10_odds_X10_isMove
set_option maxRecDepth 20000 in
theorem ggX10_odds_X3_draw : GoodIn wsX10_odds wsX3_draw := goodIn_r _ [20, 21, 22, 23, 24, 25, 26, 27, 28, 29, 30, 31, 32, 33, 34, 35, 19, 36, 37, 38, 39, 40, 41, 42, 43, 44, 45, 46, 185, 186, 187, 188, 189, 190, 191, 192, 193, 194, 195, 196, 197, 198, 199, 200, 173, 174, 175, 176, 177, 178, 179, 180, 181, 182, 183, 184] rfl (by decide +kernel)
set_option maxRecDepth 20000 in
theorem gX10_odds_X3_draw : GoodIn wsX10_odds (wsV RX10 192 RX3 yX3_draw wsX3_draw) := goodIn_app (goodIn_r _ [16, 17, 18, 19] rfl (by decide +kernel)) ggX10_odds_X3_draw
set_option maxRecDepth 20000 in
theorem ggX10_odds_X0_gather : GoodIn wsX10_odds wsX0_gather := goodIn_r _ [51, 52, 53, 54, 55, 56, 57, 58, 59, 60, 61, 62, 63, 64, 19, 65, 21, 32, 66, 67, 68, 69, 70, 71, 72, 73, 74, 75, 76, 77, 25, 78, 79, 80, 81, 82, 39, 40, 41, 42, 30, 43, 44, 45, 46, 26, 83, 84, 85, 86, 87, 28, 88, 89, 90, 91, 92, 50, 93, 94, 95, 96, 97, 98, 99, 100, 101, 102, 23, 103, 104, 105, 106, 107, 108, 109, 110, 111, 112, 113, 114, 115, 116, 117, 118, 119, 120, 121, 122, 123, 124, 125, 126, 127, 128, 129, 130, 131, 132, 133, 134, 135, 136, 137, 138, 139, 185, 186, 187, 188, 189, 190, 191, 192, 193, 194, 195, 196, 197, 198, 199, 200, 173, 174, 175, 176, 177, 178, 179, 180, 181, 182, 183, 184, 164, 165, 166, 167, 168, 169, 170, 171, 172] rfl (by decide +kernel)
set_option maxRecDepth 20000 in
theorem gX10_odds_X0_gather : GoodIn wsX10_odds (wsV RX10 216 RX0 yX0_gather wsX0_gather) := goodIn_app (goodIn_r _ [47, 48, 49, 50] rfl (by decide +kernel)) ggX10_odds_X0_gather
set_option maxRecDepth 20000 in
theorem ggX10_odds_X2_partOf : GoodIn wsX10_odds wsX2_partOf := goodIn_r _ [143, 144, 145, 10, 146, 147, 148, 142, 149] rfl (by decide +kernel)
set_option maxRecDepth 20000 in
theorem gX10_odds_X2_partOf : GoodIn wsX10_odds (va_wsS RX10 146 yX2_partOf wsX2_partOf) := goodIn_app (goodIn_r _ [140, 141, 142] rfl (by decide +kernel)) ggX10_odds_X2_partOf
set_option maxRecDepth 20000 in
theorem ggX10_most_X10_isDrawing : GoodIn wsX10_most wsX10_isDrawing := goodIn_r _ [7, 8, 9, 101, 102, 103, 104, 105, 106, 107, 108, 109, 110, 111, 112, 113, 114, 115, 116, 117, 118, 119, 120, 121, 122, 123, 124, 125, 126] rfl (by decide +kernel)
set_option maxRecDepth 20000 in
theorem gX10_most_X10_isDrawing : GoodIn wsX10_most (wsV RX10 109 RX10 yX10_isDrawing wsX10_isDrawing) := goodIn_app (goodIn_r _ [3, 4, 5, 6] rfl (by decide +kernel)) ggX10_most_X10_isDrawing
set_option maxRecDepth 20000 in
theorem ggX10_most_X10_isFloor : GoodIn wsX10_most wsX10_isFloor := goodIn_r _ [13, 8, 14, 101, 102, 103, 104, 105, 106, 107, 108, 109, 110, 111, 112, 113, 114, 115, 116, 117, 118, 119, 120, 121, 122, 123, 124, 125, 126] rfl (by decide +kernel)
set_option maxRecDepth 20000 in
theorem gX10_most_X10_isFloor : GoodIn wsX10_most (wsV RX10 102 RX10 yX10_isFloor wsX10_isFloor) := goodIn_app (goodIn_r _ [10, 11, 12, 6] rfl (by decide +kernel)) ggX10_most_X10_isFloor
set_option maxRecDepth 20000 in
theorem ggX10_most_X10_reckoned : GoodIn wsX10_most wsX10_reckoned := goodIn_r _ [18, 8, 19, 2, 20, 21, 22, 23, 24, 25, 26, 27, 28, 29, 30, 31, 32, 33, 34, 35, 36, 37, 38, 39, 40, 41, 42, 43, 44, 45, 46, 47, 48, 49, 50, 51, 52, 53, 54, 55, 56, 57, 58, 59, 60, 61, 62, 63, 64, 65, 66, 67, 68, 69, 70, 71, 72, 73, 74, 75, 76, 77, 78, 79, 80, 81, 82, 101, 102, 103, 104, 105, 106, 107, 108, 109, 110, 111, 112, 113, 114, 127, 128, 129, 130, 131, 132, 133, 134, 135, 136, 137, 138, 139, 140, 141, 142, 115, 116, 117, 118, 119, 120, 121, 122, 123, 124, 125, 126] rfl (by decide +kernel)
set_option maxRecDepth 20000 in
theorem gX10_most_X10_reckoned : GoodIn wsX10_most (wsV RX10 120 RX10 yX10_reckoned wsX10_reckoned) := goodIn_app (goodIn_r _ [15, 16, 17, 6] rfl (by decide +kernel)) ggX10_most_X10_reckoned
set_option maxRecDepth 20000 in
theorem ggX10_most_X3_isBeyondWith : GoodIn wsX10_most wsX3_isBeyondWith := goodIn_r _ [86, 55, 60, 25, 61, 76, 77, 78, 23, 79, 29, 80, 36, 70, 32, 81, 82, 71, 47, 48, 49, 50, 30, 43, 44, 45, 46, 34, 87, 88, 89, 90, 91, 92, 93, 94, 95, 96, 27, 97, 98, 99, 100, 127, 128, 129, 130, 131, 132, 133, 134, 135, 136, 137, 138, 139, 140, 141, 142, 115, 116, 117, 118, 119, 120, 121, 122, 123, 124, 125, 126] rfl (by decide +kernel)
set_option maxRecDepth 20000 in
theorem gX10_most_X3_isBeyondWith : GoodIn wsX10_most (wsV RX10 227 RX3 yX3_isBeyondWith wsX3_isBeyondWith) := goodIn_app (goodIn_r _ [83, 84, 85, 23] rfl (by decide +kernel)) ggX10_most_X3_isBeyondWith
set_option maxRecDepth 20000 in
theorem ggX10_rule_X10_isPart : GoodIn wsX10_rule wsX10_isPart := goodIn_r _ [10] rfl (by decide +kernel)
set_option maxRecDepth 20000 in
theorem gX10_rule_X10_isPart : GoodIn wsX10_rule (va_wsS RX10 163 yX10_isPart wsX10_isPart) := goodIn_app (goodIn_r _ [7, 8, 9] rfl (by decide +kernel)) ggX10_rule_X10_isPart
set_option maxRecDepth 20000 in
theorem ggX10_rule_X10_leastRule : GoodIn wsX10_rule wsX10_leastRule := goodIn_r _ [14, 1, 2, 15, 16, 17, 5, 18, 19, 20, 21, 9, 22, 23, 24, 25, 26, 27, 28, 29, 30, 31, 32, 33, 34, 35, 36, 37, 38, 39, 40, 41, 42, 43, 44, 45, 46, 47, 48, 49, 50, 51, 52, 53, 54, 55, 56, 57, 58, 59, 60, 61, 62, 63, 64, 65, 66, 67, 68, 69, 70, 71, 72, 73, 74, 75, 76, 77, 78, 79, 80, 81, 82, 83, 84, 85, 86, 87, 88, 89, 90, 91, 92, 93, 94, 95, 96, 97, 98, 99, 100, 101, 102, 103, 104, 105, 106, 107, 108, 109, 110, 111, 112, 113, 114, 130, 131, 132, 133, 134, 135, 136, 137, 138, 139, 140, 141, 142, 143, 144, 145, 146, 147, 148, 149, 150, 151, 152, 153, 154, 155, 156, 157, 158, 159, 160, 161, 162, 163, 164, 165, 166, 167, 168, 169, 170, 171] rfl (by decide +kernel)
set_option maxRecDepth 20000 in
theorem gX10_rule_X10_leastRule : GoodIn wsX10_rule (wsV RX10 231 RX10 yX10_leastRule wsX10_leastRule) := goodIn_app (goodIn_r _ [11, 12, 13, 9] rfl (by decide +kernel)) ggX10_rule_X10_leastRule
set_option maxRecDepth 20000 in
theorem ggX10_rule_X7_jointsOf : GoodIn wsX10_rule wsX7_jointsOf := goodIn_r _ [119, 120, 121, 122, 123, 124, 125, 126, 127, 128, 129, 144, 145, 146, 147, 148, 149, 150, 151, 152, 153, 154, 155] rfl (by decide +kernel)
set_option maxRecDepth 20000 in
theorem gX10_rule_X7_jointsOf : GoodIn wsX10_rule (wsV RX10 112 RX7 yX7_jointsOf wsX7_jointsOf) := goodIn_app (goodIn_r _ [115, 116, 117, 118] rfl (by decide +kernel)) ggX10_rule_X7_jointsOf
set_option maxRecDepth 20000 in
theorem ggX10_leastRule_X10_reckoned : GoodIn wsX10_leastRule wsX10_reckoned := goodIn_r _ [12, 1, 13, 14, 15, 16, 17, 18, 19, 20, 21, 22, 23, 24, 25, 26, 27, 28, 29, 30, 31, 32, 33, 34, 35, 36, 37, 38, 39, 40, 41, 42, 43, 44, 45, 46, 47, 48, 49, 50, 51, 52, 53, 54, 55, 56, 57, 58, 59, 60, 61, 62, 63, 64, 65, 66, 67, 5, 6, 7, 68, 69, 70, 71, 72, 73, 74, 105, 106, 107, 108, 109, 110, 111, 112, 113, 114, 115, 116, 117, 118, 131, 132, 133, 134, 135, 136, 137, 138, 139, 140, 141, 142, 143, 144, 145, 146, 119, 120, 121, 122, 123, 124, 125, 126, 127, 128, 129, 130] rfl (by decide +kernel)
set_option maxRecDepth 20000 in
theorem gX10_leastRule_X10_reckoned : GoodIn wsX10_leastRule (wsV RX10 120 RX10 yX10_reckoned wsX10_reckoned) := goodIn_app (goodIn_r _ [8, 9, 10, 11] rfl (by decide +kernel)) ggX10_leastRule_X10_reckoned
set_option maxRecDepth 20000 in
theorem ggX10_leastRule_X3_looksNeeded : GoodIn wsX10_leastRule wsX3_looksNeeded := goodIn_r _ [78, 26, 79, 80, 81, 18, 82, 83, 84, 85, 86, 37, 36, 42, 43, 44, 45, 25, 38, 39, 40, 41, 29, 87, 88, 89, 90, 72, 74, 91, 92, 93, 94, 20, 95, 96, 97, 98, 99, 27, 100, 22, 101, 102, 103, 104, 65, 55, 131, 132, 133, 134, 135, 136, 137, 138, 139, 140, 141, 142, 143, 144, 145, 146, 119, 120, 121, 122, 123, 124, 125, 126, 127, 128, 129, 130] rfl (by decide +kernel)
set_option maxRecDepth 20000 in
theorem gX10_leastRule_X3_looksNeeded : GoodIn wsX10_leastRule (wsV RX10 240 RX3 yX3_looksNeeded wsX3_looksNeeded) := goodIn_app (goodIn_r _ [75, 76, 77, 18] rfl (by decide +kernel)) ggX10_leastRule_X3_looksNeeded
set_option maxRecDepth 20000 in
theorem ggX10_elsewhere_X10_isDrawing : GoodIn wsX10_elsewhere wsX10_isDrawing := goodIn_r _ [9, 2, 3, 137, 138, 139, 140, 141, 142, 143, 144, 145, 146, 147, 148, 149, 150, 151, 152, 153, 154, 155, 156, 157, 158, 159, 160, 161, 162] rfl (by decide +kernel)
set_option maxRecDepth 20000 in
theorem gX10_elsewhere_X10_isDrawing : GoodIn wsX10_elsewhere (wsV RX10 109 RX10 yX10_isDrawing wsX10_isDrawing) := goodIn_app (goodIn_r _ [5, 6, 7, 8] rfl (by decide +kernel)) ggX10_elsewhere_X10_isDrawing
set_option maxRecDepth 20000 in
theorem ggX10_elsewhere_X8_start : GoodIn wsX10_elsewhere wsX8_start := goodIn_r _ [14, 15, 163, 164, 165, 166] rfl (by decide +kernel)
set_option maxRecDepth 20000 in
theorem gX10_elsewhere_X8_start : GoodIn wsX10_elsewhere (wsV RX10 246 RX8 yX8_start wsX8_start) := goodIn_app (goodIn_r _ [10, 11, 12, 13] rfl (by decide +kernel)) ggX10_elsewhere_X8_start
set_option maxRecDepth 20000 in
theorem ggX10_elsewhere_X10_reckoned : GoodIn wsX10_elsewhere wsX10_reckoned := goodIn_r _ [19, 2, 20, 21, 22, 23, 24, 25, 26, 27, 28, 29, 30, 31, 32, 33, 34, 35, 36, 37, 38, 39, 40, 41, 42, 43, 44, 45, 46, 47, 48, 49, 50, 51, 52, 53, 54, 55, 56, 57, 58, 59, 60, 61, 62, 63, 64, 65, 66, 67, 68, 69, 70, 71, 72, 73, 74, 75, 76, 77, 78, 79, 80, 81, 82, 83, 84, 137, 138, 139, 140, 141, 142, 143, 144, 145, 146, 147, 148, 149, 150, 167, 168, 169, 170, 171, 172, 173, 174, 175, 176, 177, 178, 179, 180, 181, 182, 151, 152, 153, 154, 155, 156, 157, 158, 159, 160, 161, 162] rfl (by decide +kernel)
set_option maxRecDepth 20000 in
theorem gX10_elsewhere_X10_reckoned : GoodIn wsX10_elsewhere (wsV RX10 120 RX10 yX10_reckoned wsX10_reckoned) := goodIn_app (goodIn_r _ [16, 17, 18, 8] rfl (by decide +kernel)) ggX10_elsewhere_X10_reckoned
set_option maxRecDepth 20000 in
theorem ggX10_elsewhere_X8_addDoubleNuts : GoodIn wsX10_elsewhere wsX8_addDoubleNuts := goodIn_r _ [88, 89, 90, 91, 92, 93, 94, 25, 95, 31, 34, 96, 97, 98, 99, 36, 27, 38, 49, 50, 51, 52, 32, 100, 101, 102, 103, 44, 82, 43, 84, 104, 105, 106, 107, 108, 109, 110, 111, 112, 113, 29, 114, 115, 116, 117, 72, 62, 118, 119, 120, 13, 121, 15, 122, 123, 124, 125, 126, 127, 128, 129, 130, 131, 132, 167, 168, 169, 170, 171, 172, 173, 174, 175, 176, 177, 178, 179, 180, 181, 182, 151, 152, 153, 154, 155, 156, 157, 158, 159, 160, 161, 162, 163, 164, 165, 166] rfl (by decide +kernel)
set_option maxRecDepth 20000 in
theorem gX10_elsewhere_X8_addDoubleNuts : GoodIn wsX10_elsewhere (wsV RX10 249 RX8 yX8_addDoubleNuts wsX8_addDoubleNuts) := goodIn_app (goodIn_r _ [85, 86, 87, 13] rfl (by decide +kernel)) ggX10_elsewhere_X8_addDoubleNuts

set_option maxRecDepth 20000 in
theorem ggX10_elsewhere_X8_codeAt : GoodIn wsX10_elsewhere wsX8_codeAt := goodIn_r _ [136, 15, 124, 163, 164, 165, 166] rfl (by decide +kernel)
set_option maxRecDepth 20000 in
theorem gX10_elsewhere_X8_codeAt : GoodIn wsX10_elsewhere (wsV RX10 252 RX8 yX8_codeAt wsX8_codeAt) := goodIn_app (goodIn_r _ [133, 134, 135, 13] rfl (by decide +kernel)) ggX10_elsewhere_X8_codeAt
set_option maxRecDepth 20000 in
theorem ggX10_story_X6_letBear : GoodIn wsX10_story wsX6_letBear := goodIn_r _ [6, 7, 8, 9, 10, 11, 12, 13, 5, 14, 15, 30, 31, 32, 33, 34, 35, 36, 37, 38, 39, 40, 41] rfl (by decide +kernel)
set_option maxRecDepth 20000 in
theorem gX10_story_X6_letBear : GoodIn wsX10_story (wsV RX10 255 RX6 yX6_letBear wsX6_letBear) := goodIn_app (goodIn_r _ [2, 3, 4, 5] rfl (by decide +kernel)) ggX10_story_X6_letBear
set_option maxRecDepth 20000 in
theorem ggX10_believed_X6_oddsTogether : GoodIn wsX10_believed wsX6_oddsTogether := goodIn_r _ [6, 7, 8, 9, 10, 11, 12, 13, 5, 14, 15, 16, 42, 43, 44, 45, 46, 47, 48, 49, 50, 51, 52, 53] rfl (by decide +kernel)
set_option maxRecDepth 20000 in
theorem gX10_believed_X6_oddsTogether : GoodIn wsX10_believed (wsV RX10 258 RX6 yX6_oddsTogether wsX6_oddsTogether) := goodIn_app (goodIn_r _ [2, 3, 4, 5] rfl (by decide +kernel)) ggX10_believed_X6_oddsTogether
set_option maxRecDepth 20000 in
theorem ggX10_believed_X2_partOf : GoodIn wsX10_believed wsX2_partOf := goodIn_r _ [20, 21, 22, 23, 24, 25, 26, 19, 27] rfl (by decide +kernel)
set_option maxRecDepth 20000 in
theorem gX10_believed_X2_partOf : GoodIn wsX10_believed (va_wsS RX10 146 yX2_partOf wsX2_partOf) := goodIn_app (goodIn_r _ [17, 18, 19] rfl (by decide +kernel)) ggX10_believed_X2_partOf
set_option maxRecDepth 20000 in
theorem ggX10_paper_X10_isOffice : GoodIn wsX10_paper wsX10_isOffice := goodIn_r _ [6] rfl (by decide +kernel)
set_option maxRecDepth 20000 in
theorem gX10_paper_X10_isOffice : GoodIn wsX10_paper (va_wsS RX10 262 yX10_isOffice wsX10_isOffice) := goodIn_app (goodIn_r _ [3, 4, 5] rfl (by decide +kernel)) ggX10_paper_X10_isOffice
set_option maxRecDepth 20000 in
theorem ggX10_paper_X10_isDay : GoodIn wsX10_paper wsX10_isDay := goodIn_r _ [9] rfl (by decide +kernel)
set_option maxRecDepth 20000 in
theorem gX10_paper_X10_isDay : GoodIn wsX10_paper (va_wsS RX10 265 yX10_isDay wsX10_isDay) := goodIn_app (goodIn_r _ [7, 8, 5] rfl (by decide +kernel)) ggX10_paper_X10_isDay
set_option maxRecDepth 20000 in
theorem ggX10_paper_X10_isDrawing : GoodIn wsX10_paper wsX10_isDrawing := goodIn_r _ [13, 14, 15, 29, 30, 31, 32, 33, 34, 35, 36, 37, 38, 39, 40, 41, 42, 43, 44, 45, 46, 47, 48, 49, 50, 51, 52, 53, 54] rfl (by decide +kernel)
set_option maxRecDepth 20000 in
theorem gX10_paper_X10_isDrawing : GoodIn wsX10_paper (wsV RX10 109 RX10 yX10_isDrawing wsX10_isDrawing) := goodIn_app (goodIn_r _ [10, 11, 12, 5] rfl (by decide +kernel)) ggX10_paper_X10_isDrawing
set_option maxRecDepth 20000 in
theorem ggX10_paper_X6_tell : GoodIn wsX10_paper wsX6_tell := goodIn_r _ [20, 21, 22, 23, 24, 25, 26, 27, 28, 55, 56, 57, 58, 59, 60, 61, 62, 63, 64, 65, 66] rfl (by decide +kernel)
set_option maxRecDepth 20000 in
theorem gX10_paper_X6_tell : GoodIn wsX10_paper (wsV RX10 268 RX6 yX6_tell wsX6_tell) := goodIn_app (goodIn_r _ [16, 17, 18, 19] rfl (by decide +kernel)) ggX10_paper_X6_tell
set_option maxRecDepth 20000 in
theorem ggX10_untell_X6_takeBack : GoodIn wsX10_untell wsX6_takeBack := goodIn_r _ [7, 8, 9, 10, 11, 6, 12, 13, 28, 29, 30, 31, 32, 33, 34, 35, 36, 37, 38, 39] rfl (by decide +kernel)
set_option maxRecDepth 20000 in
theorem gX10_untell_X6_takeBack : GoodIn wsX10_untell (wsV RX10 272 RX6 yX6_takeBack wsX6_takeBack) := goodIn_app (goodIn_r _ [3, 4, 5, 6] rfl (by decide +kernel)) ggX10_untell_X6_takeBack
set_option maxRecDepth 20000 in
theorem ggX10_spent_X10_isOffice : GoodIn wsX10_spent wsX10_isOffice := goodIn_r _ [5] rfl (by decide +kernel)
set_option maxRecDepth 20000 in
theorem gX10_spent_X10_isOffice : GoodIn wsX10_spent (va_wsS RX10 262 yX10_isOffice wsX10_isOffice) := goodIn_app (goodIn_r _ [2, 3, 4] rfl (by decide +kernel)) ggX10_spent_X10_isOffice
set_option maxRecDepth 20000 in
theorem ggX10_spent_X10_isDrawing : GoodIn wsX10_spent wsX10_isDrawing := goodIn_r _ [9, 10, 11, 35, 36, 37, 38, 39, 40, 41, 42, 43, 44, 45, 46, 47, 48, 49, 50, 51, 52, 53, 54, 55, 56, 57, 58, 59, 60] rfl (by decide +kernel)
set_option maxRecDepth 20000 in
theorem gX10_spent_X10_isDrawing : GoodIn wsX10_spent (wsV RX10 109 RX10 yX10_isDrawing wsX10_isDrawing) := goodIn_app (goodIn_r _ [6, 7, 8, 4] rfl (by decide +kernel)) ggX10_spent_X10_isDrawing
set_option maxRecDepth 20000 in
theorem ggX10_spent_X10_isDay : GoodIn wsX10_spent wsX10_isDay := goodIn_r _ [14] rfl (by decide +kernel)
set_option maxRecDepth 20000 in
theorem gX10_spent_X10_isDay : GoodIn wsX10_spent (va_wsS RX10 265 yX10_isDay wsX10_isDay) := goodIn_app (goodIn_r _ [12, 13, 4] rfl (by decide +kernel)) ggX10_spent_X10_isDay
set_option maxRecDepth 20000 in
theorem ggX10_spent_X6_hoursUpTo : GoodIn wsX10_spent wsX6_hoursUpTo := goodIn_r _ [19, 20, 21, 22, 23, 24, 25, 18, 26, 27, 28, 29, 30, 31, 32, 33, 34, 61, 62, 63, 64, 65, 66, 67, 68, 69, 70, 71, 72] rfl (by decide +kernel)
set_option maxRecDepth 20000 in
theorem gX10_spent_X6_hoursUpTo : GoodIn wsX10_spent (wsV RX10 276 RX6 yX6_hoursUpTo wsX6_hoursUpTo) := goodIn_app (goodIn_r _ [15, 16, 17, 18] rfl (by decide +kernel)) ggX10_spent_X6_hoursUpTo
set_option maxRecDepth 20000 in
theorem ggX10_saw_X10_isDrawing : GoodIn wsX10_saw wsX10_isDrawing := goodIn_r _ [10, 3, 11, 137, 138, 139, 140, 141, 142, 143, 144, 145, 146, 147, 148, 149, 150, 163, 164, 165, 166, 167, 168, 169, 170, 171, 172, 173, 174] rfl (by decide +kernel)
set_option maxRecDepth 20000 in
theorem gX10_saw_X10_isDrawing : GoodIn wsX10_saw (wsV RX10 109 RX10 yX10_isDrawing wsX10_isDrawing) := goodIn_app (goodIn_r _ [6, 7, 8, 9] rfl (by decide +kernel)) ggX10_saw_X10_isDrawing
set_option maxRecDepth 20000 in
theorem ggX10_saw_X10_isPart : GoodIn wsX10_saw wsX10_isPart := goodIn_r _ [14] rfl (by decide +kernel)
set_option maxRecDepth 20000 in
theorem gX10_saw_X10_isPart : GoodIn wsX10_saw (va_wsS RX10 163 yX10_isPart wsX10_isPart) := goodIn_app (goodIn_r _ [12, 13, 9] rfl (by decide +kernel)) ggX10_saw_X10_isPart
set_option maxRecDepth 20000 in
theorem ggX10_saw_X10_reckoned : GoodIn wsX10_saw wsX10_reckoned := goodIn_r _ [18, 3, 19, 20, 21, 22, 23, 24, 25, 26, 27, 28, 29, 30, 31, 32, 33, 34, 35, 36, 37, 38, 39, 40, 41, 42, 43, 44, 45, 46, 47, 48, 49, 50, 51, 52, 53, 54, 55, 56, 57, 58, 59, 60, 61, 62, 63, 64, 65, 66, 67, 68, 69, 70, 71, 72, 73, 74, 75, 76, 77, 78, 79, 80, 81, 82, 83, 137, 138, 139, 140, 141, 142, 143, 144, 145, 146, 147, 148, 149, 150, 175, 176, 177, 178, 179, 180, 181, 182, 183, 184, 185, 186, 187, 188, 189, 190, 163, 164, 165, 166, 167, 168, 169, 170, 171, 172, 173, 174] rfl (by decide +kernel)
set_option maxRecDepth 20000 in
theorem gX10_saw_X10_reckoned : GoodIn wsX10_saw (wsV RX10 120 RX10 yX10_reckoned wsX10_reckoned) := goodIn_app (goodIn_r _ [15, 16, 17, 9] rfl (by decide +kernel)) ggX10_saw_X10_reckoned
set_option maxRecDepth 20000 in
theorem ggX10_saw_X3_isAnyBeyond : GoodIn wsX10_saw wsX3_isAnyBeyond := goodIn_r _ [87, 30, 81, 26, 37, 72, 83, 88, 48, 49, 50, 24, 51, 31, 89, 90, 91, 92, 33, 93, 28, 94, 95, 96, 97, 71, 61, 175, 176, 177, 178, 179, 180, 181, 182, 183, 184, 185, 186, 187, 188, 189, 190, 163, 164, 165, 166, 167, 168, 169, 170, 171, 172, 173, 174] rfl (by decide +kernel)
set_option maxRecDepth 20000 in
theorem gX10_saw_X3_isAnyBeyond : GoodIn wsX10_saw (wsV RX10 280 RX3 yX3_isAnyBeyond wsX3_isAnyBeyond) := goodIn_app (goodIn_r _ [84, 85, 86, 24] rfl (by decide +kernel)) ggX10_saw_X3_isAnyBeyond
set_option maxRecDepth 20000 in
theorem ggX10_saw_X7_jointsOf : GoodIn wsX10_saw wsX7_jointsOf := goodIn_r _ [102, 103, 104, 105, 106, 107, 108, 109, 110, 111, 112, 163, 164, 165, 166, 167, 168, 169, 170, 171, 172, 173, 174] rfl (by decide +kernel)
set_option maxRecDepth 20000 in
theorem gX10_saw_X7_jointsOf : GoodIn wsX10_saw (wsV RX10 112 RX7 yX7_jointsOf wsX7_jointsOf) := goodIn_app (goodIn_r _ [98, 99, 100, 101] rfl (by decide +kernel)) ggX10_saw_X7_jointsOf
set_option maxRecDepth 20000 in
theorem ggX10_saw_X6_firstToReckon : GoodIn wsX10_saw wsX6_firstToReckon := goodIn_r _ [117, 118, 119, 120, 121, 122, 123, 124, 116, 125, 126, 127, 128, 129, 130, 131, 132, 133, 134, 135, 136, 151, 152, 153, 154, 155, 156, 157, 158, 159, 160, 161, 162] rfl (by decide +kernel)
set_option maxRecDepth 20000 in
theorem gX10_saw_X6_firstToReckon : GoodIn wsX10_saw (wsV RX10 284 RX6 yX6_firstToReckon wsX6_firstToReckon) := goodIn_app (goodIn_r _ [113, 114, 115, 116] rfl (by decide +kernel)) ggX10_saw_X6_firstToReckon
set_option maxRecDepth 20000 in
theorem ggX10_hollow_X7_jointsOf : GoodIn wsX10_hollow wsX7_jointsOf := goodIn_r _ [9, 10, 11, 12, 13, 14, 15, 16, 17, 18, 19, 71, 72, 73, 74, 75, 76, 77, 78, 79, 80, 81, 82] rfl (by decide +kernel)
set_option maxRecDepth 20000 in
theorem gX10_hollow_X7_jointsOf : GoodIn wsX10_hollow (wsV RX10 112 RX7 yX7_jointsOf wsX7_jointsOf) := goodIn_app (goodIn_r _ [5, 6, 7, 8] rfl (by decide +kernel)) ggX10_hollow_X7_jointsOf
set_option maxRecDepth 20000 in
theorem ggX10_hollow_X6_isHollow : GoodIn wsX10_hollow wsX6_isHollow := goodIn_r _ [24, 25, 26, 27, 28, 29, 30, 31, 32, 33, 23, 34, 35, 36, 37, 38, 39, 40, 41, 42, 43, 44, 59, 60, 61, 62, 63, 64, 65, 66, 67, 68, 69, 70] rfl (by decide +kernel)
set_option maxRecDepth 20000 in
theorem gX10_hollow_X6_isHollow : GoodIn wsX10_hollow (wsV RX10 300 RX6 yX6_isHollow wsX6_isHollow) := goodIn_app (goodIn_r _ [20, 21, 22, 23] rfl (by decide +kernel)) ggX10_hollow_X6_isHollow
set_option maxRecDepth 20000 in
theorem ggX10_about_X10_isFloor : GoodIn wsX10_about wsX10_isFloor := goodIn_r _ [14, 1, 2, 15, 16, 17, 18, 19, 20, 21, 22, 23, 24, 25, 26, 27, 28, 29, 30, 31, 32, 33, 34, 35, 36, 37, 38, 39, 40] rfl (by decide +kernel)
set_option maxRecDepth 20000 in
theorem gX10_about_X10_isFloor : GoodIn wsX10_about (wsV RX10 102 RX10 yX10_isFloor wsX10_isFloor) := goodIn_app (goodIn_r _ [10, 11, 12, 13] rfl (by decide +kernel)) ggX10_about_X10_isFloor
set_option maxRecDepth 20000 in
theorem ggX10_isJoint_X10_isDrawing : GoodIn wsX10_isJoint wsX10_isDrawing := goodIn_r _ [6, 1, 7, 23, 24, 25, 26, 27, 28, 29, 30, 31, 32, 33, 34, 35, 36, 37, 38, 39, 40, 41, 42, 43, 44, 45, 46, 47, 48] rfl (by decide +kernel)
set_option maxRecDepth 20000 in
theorem gX10_isJoint_X10_isDrawing : GoodIn wsX10_isJoint (wsV RX10 109 RX10 yX10_isDrawing wsX10_isDrawing) := goodIn_app (goodIn_r _ [2, 3, 4, 5] rfl (by decide +kernel)) ggX10_isJoint_X10_isDrawing
set_option maxRecDepth 20000 in
theorem ggX10_isJoint_X7_jointsOf : GoodIn wsX10_isJoint wsX7_jointsOf := goodIn_r _ [12, 13, 14, 15, 16, 17, 18, 19, 20, 21, 22, 37, 38, 39, 40, 41, 42, 43, 44, 45, 46, 47, 48] rfl (by decide +kernel)
set_option maxRecDepth 20000 in
theorem gX10_isJoint_X7_jointsOf : GoodIn wsX10_isJoint (wsV RX10 112 RX7 yX7_jointsOf wsX7_jointsOf) := goodIn_app (goodIn_r _ [8, 9, 10, 11] rfl (by decide +kernel)) ggX10_isJoint_X7_jointsOf
set_option maxRecDepth 20000 in
theorem ggX10_reckoned_X3_draw : GoodIn wsX10_reckoned wsX3_draw := goodIn_r _ [8, 9, 10, 11, 12, 13, 14, 15, 16, 17, 18, 19, 20, 21, 22, 23, 7, 24, 25, 26, 27, 28, 29, 30, 31, 32, 33, 34, 81, 82, 83, 84, 85, 86, 87, 88, 89, 90, 91, 92, 93, 94, 95, 96, 97, 98, 99, 100, 101, 102, 103, 104, 105, 106, 107, 108] rfl (by decide +kernel)
set_option maxRecDepth 20000 in
theorem gX10_reckoned_X3_draw : GoodIn wsX10_reckoned (wsV RX10 192 RX3 yX3_draw wsX3_draw) := goodIn_app (goodIn_r _ [4, 5, 6, 7] rfl (by decide +kernel)) ggX10_reckoned_X3_draw
set_option maxRecDepth 20000 in
theorem ggX10_reckoned_X3_loadPeople : GoodIn wsX10_reckoned wsX3_loadPeople := goodIn_r _ [38, 9, 20, 39, 40, 41, 42, 7, 43, 44, 45, 81, 82, 83, 84, 85, 86, 87, 88, 89, 90, 91, 92, 93, 94, 95, 96, 97, 98, 99, 100, 101, 102, 103, 104, 105, 106, 107, 108] rfl (by decide +kernel)
set_option maxRecDepth 20000 in
theorem gX10_reckoned_X3_loadPeople : GoodIn wsX10_reckoned (wsV RX10 306 RX3 yX3_loadPeople wsX3_loadPeople) := goodIn_app (goodIn_r _ [35, 36, 37, 7] rfl (by decide +kernel)) ggX10_reckoned_X3_loadPeople
set_option maxRecDepth 20000 in
theorem ggX10_reckoned_X3_reckon : GoodIn wsX10_reckoned wsX3_reckon := goodIn_r _ [49, 50, 51, 52, 7, 53, 54, 9, 20, 13, 55, 56, 57, 58, 59, 27, 28, 29, 30, 18, 31, 32, 33, 34, 14, 60, 61, 62, 63, 64, 39, 16, 65, 66, 81, 82, 83, 84, 85, 86, 87, 88, 89, 90, 91, 92, 93, 94, 95, 96, 97, 98, 99, 100, 101, 102, 103, 104, 105, 106, 107, 108] rfl (by decide +kernel)
set_option maxRecDepth 20000 in
theorem gX10_reckoned_X3_reckon : GoodIn wsX10_reckoned (wsV RX10 199 RX3 yX3_reckon wsX3_reckon) := goodIn_app (goodIn_r _ [46, 47, 48, 7] rfl (by decide +kernel)) ggX10_reckoned_X3_reckon
set_option maxRecDepth 20000 in
theorem ggX11_goOn_X11_sign : GoodIn wsX11_goOn wsX11_sign := goodIn_r _ [11, 3, 12, 31, 32, 33, 34, 35, 36, 37, 38, 39, 40, 41, 42, 43, 44, 45, 46, 47, 48, 49, 50, 51, 52, 53, 54, 55, 56, 57, 58, 59, 60, 61, 62, 63, 64, 65, 66, 67, 68, 69, 70, 71, 72, 73, 74, 75, 76, 77, 78, 79, 80, 81, 82, 83, 84, 85, 86, 87, 88, 89, 90, 91, 92, 93, 94, 95, 96, 97, 98, 99] rfl (by decide +kernel)
set_option maxRecDepth 20000 in
theorem gX11_goOn_X11_sign : GoodIn wsX11_goOn (wsV RX11 179 RX11 yX11_sign wsX11_sign) := goodIn_app (goodIn_r _ [7, 8, 9, 10] rfl (by decide +kernel)) ggX11_goOn_X11_sign
set_option maxRecDepth 20000 in
theorem ggX11_goOn_X11_isLetter : GoodIn wsX11_goOn wsX11_isLetter := goodIn_r _ [15] rfl (by decide +kernel)
set_option maxRecDepth 20000 in
theorem gX11_goOn_X11_isLetter : GoodIn wsX11_goOn (va_wsS RX11 186 yX11_isLetter wsX11_isLetter) := goodIn_app (goodIn_r _ [13, 14, 10] rfl (by decide +kernel)) ggX11_goOn_X11_isLetter
set_option maxRecDepth 20000 in
theorem ggX11_goOn_X11_isKept : GoodIn wsX11_goOn wsX11_isKept := goodIn_r _ [18, 19, 20, 21, 22, 23, 24, 25, 26, 27] rfl (by decide +kernel)
set_option maxRecDepth 20000 in
theorem gX11_goOn_X11_isKept : GoodIn wsX11_goOn (va_wsS RX11 194 yX11_isKept wsX11_isKept) := goodIn_app (goodIn_r _ [16, 17, 10] rfl (by decide +kernel)) ggX11_goOn_X11_isKept
set_option maxRecDepth 20000 in
theorem ggX11_goOn_X11_isDigit : GoodIn wsX11_goOn wsX11_isDigit := goodIn_r _ [30] rfl (by decide +kernel)
set_option maxRecDepth 20000 in
theorem gX11_goOn_X11_isDigit : GoodIn wsX11_goOn (va_wsS RX11 198 yX11_isDigit wsX11_isDigit) := goodIn_app (goodIn_r _ [28, 29, 10] rfl (by decide +kernel)) ggX11_goOn_X11_isDigit
set_option maxRecDepth 20000 in
theorem ggX11_wrong_X11_fails : GoodIn wsX11_wrong wsX11_fails := goodIn_r _ [7, 8, 9, 10, 11, 12, 13, 14, 15, 16, 17, 18, 19, 20, 21, 22, 23, 24, 25, 26, 27, 28, 29, 30, 31, 32, 33, 34, 35, 36, 37, 38, 39, 40, 41, 42, 43, 44, 45, 46, 47, 48, 49, 50, 51, 52, 53, 54, 55, 56, 57, 58, 59, 60, 61, 62, 63, 64, 65, 66, 67, 68, 69, 70, 71, 72, 73, 74, 75, 76, 77, 78] rfl (by decide +kernel)
set_option maxRecDepth 20000 in
theorem gX11_wrong_X11_fails : GoodIn wsX11_wrong (wsV RX11 204 RX11 yX11_fails wsX11_fails) := goodIn_app (goodIn_r _ [3, 4, 5, 6] rfl (by decide +kernel)) ggX11_wrong_X11_fails
set_option maxRecDepth 20000 in
theorem ggX11_must_X11_isGood : GoodIn wsX11_must wsX11_isGood := goodIn_r _ [5, 6, 49, 50, 51, 52, 53, 54, 55, 56, 57, 58, 59, 60, 61, 62, 63, 64, 65, 66, 67, 68, 69, 70, 71, 72, 73, 74, 75, 76, 77, 78, 79, 80, 81, 82, 83, 84, 85, 86, 87, 88, 89, 90, 91, 92, 93, 94, 95, 96, 97, 98, 99, 100, 101, 102, 103, 104, 105, 106, 107, 108, 109, 110, 111, 112, 113, 114, 115, 116, 117] rfl (by decide +kernel)
set_option maxRecDepth 20000 in
theorem gX11_must_X11_isGood : GoodIn wsX11_must (wsV RX11 208 RX11 yX11_isGood wsX11_isGood) := goodIn_app (goodIn_r _ [1, 2, 3, 4] rfl (by decide +kernel)) ggX11_must_X11_isGood
set_option maxRecDepth 20000 in
theorem ggX11_must_X11_goOn : GoodIn wsX11_must wsX11_goOn := goodIn_r _ [10, 11, 12, 13, 14, 15, 16, 17, 18, 19, 4, 20, 21, 22, 23, 24, 25, 26, 27, 28, 29, 30, 31, 32, 33, 34, 35, 36, 37, 38, 39, 49, 50, 51, 52, 53, 54, 55, 56, 57, 58, 59, 60, 61, 62, 63, 64, 65, 66, 67, 68, 69, 70, 71, 72, 73, 74, 75, 76, 77, 78, 79, 80, 81, 82, 83, 84, 85, 86, 87, 88, 89, 90, 91, 92, 93, 94, 95, 96, 97, 98, 99, 100, 101, 102, 103, 104, 105, 106, 107, 108, 109, 110, 111, 112, 113, 114, 115, 116, 117] rfl (by decide +kernel)
set_option maxRecDepth 20000 in
theorem gX11_must_X11_goOn : GoodIn wsX11_must (wsV RX11 212 RX11 yX11_goOn wsX11_goOn) := goodIn_app (goodIn_r _ [7, 8, 9, 4] rfl (by decide +kernel)) ggX11_must_X11_goOn
set_option maxRecDepth 20000 in
theorem ggX11_must_X11_wrong : GoodIn wsX11_must wsX11_wrong := goodIn_r _ [43, 14, 12, 44, 45, 46, 4, 47, 6, 48, 49, 50, 51, 52, 53, 54, 55, 56, 57, 58, 59, 60, 61, 62, 63, 64, 65, 66, 67, 68, 69, 70, 71, 72, 73, 74, 75, 76, 77, 78, 79, 80, 81, 82, 83, 84, 85, 86, 87, 88, 89, 90, 91, 92, 93, 94, 95, 96, 97, 98, 99, 100, 101, 102, 103, 104, 105, 106, 107, 108, 109, 110, 111, 112, 113, 114, 115, 116, 117] rfl (by decide +kernel)
set_option maxRecDepth 20000 in
theorem gX11_must_X11_wrong : GoodIn wsX11_must (wsV RX11 215 RX11 yX11_wrong wsX11_wrong) := goodIn_app (goodIn_r _ [40, 41, 42, 4] rfl (by decide +kernel)) ggX11_must_X11_wrong
set_option maxRecDepth 20000 in
theorem ggX11_numeral_X11_isGood : GoodIn wsX11_numeral wsX11_isGood := goodIn_r _ [8, 9, 49, 50, 51, 52, 53, 54, 55, 56, 57, 58, 59, 60, 61, 62, 63, 64, 65, 66, 67, 68, 69, 70, 71, 72, 73, 74, 75, 76, 77, 78, 79, 80, 81, 82, 83, 84, 85, 86, 87, 88, 89, 90, 91, 92, 93, 94, 95, 96, 97, 98, 99, 100, 101, 102, 103, 104, 105, 106, 107, 108, 109, 110, 111, 112, 113, 114, 115, 116, 117] rfl (by decide +kernel)
set_option maxRecDepth 20000 in
theorem gX11_numeral_X11_isGood : GoodIn wsX11_numeral (wsV RX11 208 RX11 yX11_isGood wsX11_isGood) := goodIn_app (goodIn_r _ [4, 5, 6, 7] rfl (by decide +kernel)) ggX11_numeral_X11_isGood
set_option maxRecDepth 20000 in
theorem ggX11_numeral_X11_wrong : GoodIn wsX11_numeral wsX11_wrong := goodIn_r _ [13, 1, 3, 14, 15, 16, 7, 17, 9, 18, 49, 50, 51, 52, 53, 54, 55, 56, 57, 58, 59, 60, 61, 62, 63, 64, 65, 66, 67, 68, 69, 70, 71, 72, 73, 74, 75, 76, 77, 78, 79, 80, 81, 82, 83, 84, 85, 86, 87, 88, 89, 90, 91, 92, 93, 94, 95, 96, 97, 98, 99, 100, 101, 102, 103, 104, 105, 106, 107, 108, 109, 110, 111, 112, 113, 114, 115, 116, 117] rfl (by decide +kernel)
set_option maxRecDepth 20000 in
theorem gX11_numeral_X11_wrong : GoodIn wsX11_numeral (wsV RX11 215 RX11 yX11_wrong wsX11_wrong) := goodIn_app (goodIn_r _ [10, 11, 12, 7] rfl (by decide +kernel)) ggX11_numeral_X11_wrong
set_option maxRecDepth 20000 in
theorem ggX11_numeral_X11_fails : GoodIn wsX11_numeral wsX11_fails := goodIn_r _ [17, 9, 18, 49, 50, 51, 52, 53, 54, 55, 56, 57, 58, 59, 60, 61, 62, 63, 64, 65, 66, 67, 68, 69, 70, 71, 72, 73, 74, 75, 76, 77, 78, 79, 80, 81, 82, 83, 84, 85, 86, 87, 88, 89, 90, 91, 92, 93, 94, 95, 96, 97, 98, 99, 100, 101, 102, 103, 104, 105, 106, 107, 108, 109, 110, 111, 112, 113, 114, 115, 116, 117] rfl (by decide +kernel)
set_option maxRecDepth 20000 in
theorem gX11_numeral_X11_fails : GoodIn wsX11_numeral (wsV RX11 204 RX11 yX11_fails wsX11_fails) := goodIn_app (goodIn_r _ [14, 15, 16, 7] rfl (by decide +kernel)) ggX11_numeral_X11_fails
set_option maxRecDepth 20000 in
theorem ggX11_numeral_X11_goOn : GoodIn wsX11_numeral wsX11_goOn := goodIn_r _ [22, 23, 3, 24, 1, 25, 2, 26, 27, 28, 7, 29, 30, 31, 32, 33, 34, 35, 36, 37, 38, 39, 40, 41, 42, 43, 44, 45, 46, 47, 48, 49, 50, 51, 52, 53, 54, 55, 56, 57, 58, 59, 60, 61, 62, 63, 64, 65, 66, 67, 68, 69, 70, 71, 72, 73, 74, 75, 76, 77, 78, 79, 80, 81, 82, 83, 84, 85, 86, 87, 88, 89, 90, 91, 92, 93, 94, 95, 96, 97, 98, 99, 100, 101, 102, 103, 104, 105, 106, 107, 108, 109, 110, 111, 112, 113, 114, 115, 116, 117] rfl (by decide +kernel)
set_option maxRecDepth 20000 in
theorem gX11_numeral_X11_goOn : GoodIn wsX11_numeral (wsV RX11 212 RX11 yX11_goOn wsX11_goOn) := goodIn_app (goodIn_r _ [19, 20, 21, 7] rfl (by decide +kernel)) ggX11_numeral_X11_goOn
set_option maxRecDepth 20000 in
theorem ggX11_house_X11_goOn : GoodIn wsX11_house wsX11_goOn := goodIn_r _ [21, 7, 22, 4, 12, 23, 24, 25, 26, 27, 20, 28, 5, 29, 30, 31, 32, 33, 34, 35, 36, 37, 38, 39, 40, 41, 42, 43, 44, 45, 46, 109, 110, 111, 112, 113, 114, 115, 116, 117, 118, 119, 120, 121, 122, 123, 124, 125, 126, 127, 128, 129, 130, 131, 132, 133, 134, 135, 136, 137, 138, 139, 140, 141, 142, 143, 144, 145, 146, 147, 148, 149, 150, 151, 152, 153, 154, 155, 156, 157, 158, 159, 160, 161, 162, 163, 164, 165, 166, 167, 168, 169, 170, 171, 172, 173, 174, 175, 176, 177] rfl (by decide +kernel)
set_option maxRecDepth 20000 in
theorem gX11_house_X11_goOn : GoodIn wsX11_house (wsV RX11 212 RX11 yX11_goOn wsX11_goOn) := goodIn_app (goodIn_r _ [17, 18, 19, 20] rfl (by decide +kernel)) ggX11_house_X11_goOn
set_option maxRecDepth 20000 in
theorem ggX11_house_X11_isGood : GoodIn wsX11_house wsX11_isGood := goodIn_r _ [50, 1, 109, 110, 111, 112, 113, 114, 115, 116, 117, 118, 119, 120, 121, 122, 123, 124, 125, 126, 127, 128, 129, 130, 131, 132, 133, 134, 135, 136, 137, 138, 139, 140, 141, 142, 143, 144, 145, 146, 147, 148, 149, 150, 151, 152, 153, 154, 155, 156, 157, 158, 159, 160, 161, 162, 163, 164, 165, 166, 167, 168, 169, 170, 171, 172, 173, 174, 175, 176, 177] rfl (by decide +kernel)
set_option maxRecDepth 20000 in
theorem gX11_house_X11_isGood : GoodIn wsX11_house (wsV RX11 208 RX11 yX11_isGood wsX11_isGood) := goodIn_app (goodIn_r _ [47, 48, 49, 20] rfl (by decide +kernel)) ggX11_house_X11_isGood
set_option maxRecDepth 20000 in
theorem ggX11_house_X11_readLine : GoodIn wsX11_house wsX11_readLine := goodIn_r _ [54, 35, 39, 40, 10, 9, 11, 55, 12, 56, 57, 58, 20, 59, 23, 60, 61, 62, 63, 22, 64, 65, 66, 67, 1, 2, 47, 48, 49, 50, 17, 18, 19, 21, 7, 4, 24, 25, 26, 27, 28, 5, 29, 30, 31, 32, 33, 34, 36, 37, 38, 41, 42, 43, 44, 45, 46, 68, 69, 70, 71, 72, 73, 74, 75, 76, 77, 78, 79, 80, 81, 82, 83, 84, 85, 86, 87, 88, 89, 90, 91, 92, 93, 94, 95, 96, 97, 98, 99, 100, 101, 102, 103, 104, 105, 106, 107, 108, 109, 110, 111, 112, 113, 114, 115, 116, 117, 118, 119, 120, 121, 122, 123, 124, 125, 126, 127, 128, 129, 130, 131, 132, 133, 134, 135, 136, 137, 138, 139, 140, 141, 142, 143, 144, 145, 146, 147, 148, 149, 150, 151, 152, 153, 154, 155, 156, 157, 158, 159, 160, 161, 162, 163, 164, 165, 166, 167, 168, 169, 170, 171, 172, 173, 174, 175, 176, 177] rfl (by decide +kernel)
set_option maxRecDepth 20000 in
theorem gX11_house_X11_readLine : GoodIn wsX11_house (wsV RX11 227 RX11 yX11_readLine wsX11_readLine) := goodIn_app (goodIn_r _ [51, 52, 53, 20] rfl (by decide +kernel)) ggX11_house_X11_readLine
set_option maxRecDepth 20000 in
theorem ggX11_readLine_X11_isWord : GoodIn wsX11_readLine wsX11_isWord := goodIn_r _ [13, 8, 14, 98, 99, 100, 101, 102, 103, 104, 105, 106, 107, 108, 109, 110, 111, 112, 113, 114, 115, 116, 117, 118, 119, 120, 121, 122, 123, 124, 125, 126, 127, 128, 129, 130, 131, 132, 133, 134, 135, 136, 137, 138, 139, 140, 141, 142, 143, 144, 145, 146, 147, 148, 149, 150, 151, 152, 153, 154, 155, 156, 157, 158, 159, 160, 161, 162, 163, 164, 165, 166] rfl (by decide +kernel)
set_option maxRecDepth 20000 in
theorem gX11_readLine_X11_isWord : GoodIn wsX11_readLine (wsV RX11 239 RX11 yX11_isWord wsX11_isWord) := goodIn_app (goodIn_r _ [9, 10, 11, 12] rfl (by decide +kernel)) ggX11_readLine_X11_isWord
set_option maxRecDepth 20000 in
theorem ggX11_readLine_X11_wrong : GoodIn wsX11_readLine wsX11_wrong := goodIn_r _ [18, 8, 19, 20, 21, 22, 12, 23, 24, 25, 98, 99, 100, 101, 102, 103, 104, 105, 106, 107, 108, 109, 110, 111, 112, 113, 114, 115, 116, 117, 118, 119, 120, 121, 122, 123, 124, 125, 126, 127, 128, 129, 130, 131, 132, 133, 134, 135, 136, 137, 138, 139, 140, 141, 142, 143, 144, 145, 146, 147, 148, 149, 150, 151, 152, 153, 154, 155, 156, 157, 158, 159, 160, 161, 162, 163, 164, 165, 166] rfl (by decide +kernel)
set_option maxRecDepth 20000 in
theorem gX11_readLine_X11_wrong : GoodIn wsX11_readLine (wsV RX11 215 RX11 yX11_wrong wsX11_wrong) := goodIn_app (goodIn_r _ [15, 16, 17, 12] rfl (by decide +kernel)) ggX11_readLine_X11_wrong
set_option maxRecDepth 20000 in
theorem ggX11_readLine_X11_isGood : GoodIn wsX11_readLine wsX11_isGood := goodIn_r _ [29, 24, 98, 99, 100, 101, 102, 103, 104, 105, 106, 107, 108, 109, 110, 111, 112, 113, 114, 115, 116, 117, 118, 119, 120, 121, 122, 123, 124, 125, 126, 127, 128, 129, 130, 131, 132, 133, 134, 135, 136, 137, 138, 139, 140, 141, 142, 143, 144, 145, 146, 147, 148, 149, 150, 151, 152, 153, 154, 155, 156, 157, 158, 159, 160, 161, 162, 163, 164, 165, 166] rfl (by decide +kernel)
set_option maxRecDepth 20000 in
theorem gX11_readLine_X11_isGood : GoodIn wsX11_readLine (wsV RX11 208 RX11 yX11_isGood wsX11_isGood) := goodIn_app (goodIn_r _ [26, 27, 28, 12] rfl (by decide +kernel)) ggX11_readLine_X11_isGood
set_option maxRecDepth 20000 in
theorem ggX11_readLine_X11_goOn : GoodIn wsX11_readLine wsX11_goOn := goodIn_r _ [33, 34, 19, 35, 8, 14, 36, 37, 38, 39, 12, 40, 41, 42, 43, 44, 45, 46, 47, 1, 48, 49, 50, 2, 3, 51, 52, 53, 54, 55, 56, 98, 99, 100, 101, 102, 103, 104, 105, 106, 107, 108, 109, 110, 111, 112, 113, 114, 115, 116, 117, 118, 119, 120, 121, 122, 123, 124, 125, 126, 127, 128, 129, 130, 131, 132, 133, 134, 135, 136, 137, 138, 139, 140, 141, 142, 143, 144, 145, 146, 147, 148, 149, 150, 151, 152, 153, 154, 155, 156, 157, 158, 159, 160, 161, 162, 163, 164, 165, 166] rfl (by decide +kernel)
set_option maxRecDepth 20000 in
theorem gX11_readLine_X11_goOn : GoodIn wsX11_readLine (wsV RX11 212 RX11 yX11_goOn wsX11_goOn) := goodIn_app (goodIn_r _ [30, 31, 32, 12] rfl (by decide +kernel)) ggX11_readLine_X11_goOn
set_option maxRecDepth 20000 in
theorem ggX11_readLine_X11_readFloor : GoodIn wsX11_readLine wsX11_readFloor := goodIn_r _ [60, 5, 4, 61, 48, 62, 49, 63, 50, 64, 65, 66, 67, 12, 68, 8, 14, 69, 70, 71, 72, 19, 26, 27, 28, 29, 24, 15, 16, 17, 18, 20, 21, 22, 23, 25, 30, 31, 32, 33, 34, 35, 36, 37, 38, 39, 40, 41, 42, 43, 44, 45, 46, 47, 1, 2, 3, 51, 52, 53, 54, 55, 56, 9, 10, 11, 13, 73, 74, 75, 76, 77, 78, 79, 80, 98, 99, 100, 101, 102, 103, 104, 105, 106, 107, 108, 109, 110, 111, 112, 113, 114, 115, 116, 117, 118, 119, 120, 121, 122, 123, 124, 125, 126, 127, 128, 129, 130, 131, 132, 133, 134, 135, 136, 137, 138, 139, 140, 141, 142, 143, 144, 145, 146, 147, 148, 149, 150, 151, 152, 153, 154, 155, 156, 157, 158, 159, 160, 161, 162, 163, 164, 165, 166] rfl (by decide +kernel)
set_option maxRecDepth 20000 in
theorem gX11_readLine_X11_readFloor : GoodIn wsX11_readLine (wsV RX11 242 RX11 yX11_readFloor wsX11_readFloor) := goodIn_app (goodIn_r _ [57, 58, 59, 12] rfl (by decide +kernel)) ggX11_readLine_X11_readFloor
set_option maxRecDepth 20000 in
theorem ggX11_readLine_X11_readDrawing : GoodIn wsX11_readLine wsX11_readDrawing := goodIn_r _ [84, 5, 6, 85, 7, 65, 66, 67, 12, 68, 8, 14, 69, 70, 71, 72, 19, 26, 27, 28, 29, 24, 15, 16, 17, 18, 20, 21, 22, 23, 25, 30, 31, 32, 33, 34, 35, 36, 37, 38, 39, 40, 41, 42, 43, 44, 45, 46, 47, 1, 48, 49, 50, 2, 3, 51, 52, 53, 54, 55, 56, 98, 99, 100, 101, 102, 103, 104, 105, 106, 107, 108, 109, 110, 111, 112, 113, 114, 115, 116, 117, 118, 119, 120, 121, 122, 123, 124, 125, 126, 127, 128, 129, 130, 131, 132, 133, 134, 135, 136, 137, 138, 139, 140, 141, 142, 143, 144, 145, 146, 147, 148, 149, 150, 151, 152, 153, 154, 155, 156, 157, 158, 159, 160, 161, 162, 163, 164, 165, 166] rfl (by decide +kernel)
set_option maxRecDepth 20000 in
theorem gX11_readLine_X11_readDrawing : GoodIn wsX11_readLine (wsV RX11 245 RX11 yX11_readDrawing wsX11_readDrawing) := goodIn_app (goodIn_r _ [81, 82, 83, 12] rfl (by decide +kernel)) ggX11_readLine_X11_readDrawing
set_option maxRecDepth 20000 in
theorem ggX11_readLine_X11_readRod : GoodIn wsX11_readLine wsX11_readRod := goodIn_r _ [89, 5, 6, 7, 90, 51, 91, 52, 53, 92, 8, 49, 93, 65, 66, 67, 12, 68, 14, 69, 70, 71, 72, 19, 26, 27, 28, 29, 24, 15, 16, 17, 18, 20, 21, 22, 23, 25, 30, 31, 32, 33, 34, 35, 36, 37, 38, 39, 40, 41, 42, 43, 44, 45, 46, 47, 1, 48, 50, 2, 3, 54, 55, 56, 9, 10, 11, 13, 73, 74, 75, 76, 94, 95, 96, 97, 61, 4, 77, 78, 79, 80, 98, 99, 100, 101, 102, 103, 104, 105, 106, 107, 108, 109, 110, 111, 112, 113, 114, 115, 116, 117, 118, 119, 120, 121, 122, 123, 124, 125, 126, 127, 128, 129, 130, 131, 132, 133, 134, 135, 136, 137, 138, 139, 140, 141, 142, 143, 144, 145, 146, 147, 148, 149, 150, 151, 152, 153, 154, 155, 156, 157, 158, 159, 160, 161, 162, 163, 164, 165, 166] rfl (by decide +kernel)
set_option maxRecDepth 20000 in
theorem gX11_readLine_X11_readRod : GoodIn wsX11_readLine (wsV RX11 248 RX11 yX11_readRod wsX11_readRod) := goodIn_app (goodIn_r _ [86, 87, 88, 12] rfl (by decide +kernel)) ggX11_readLine_X11_readRod
set_option maxRecDepth 20000 in
theorem ggX11_readLine_X11_must : GoodIn wsX11_readLine wsX11_must := goodIn_r _ [76, 26, 27, 28, 12, 29, 24, 30, 31, 32, 33, 34, 19, 35, 8, 14, 36, 37, 38, 39, 40, 41, 42, 43, 44, 45, 46, 47, 1, 48, 49, 50, 2, 3, 51, 52, 53, 54, 55, 56, 15, 16, 17, 18, 20, 21, 22, 23, 25, 98, 99, 100, 101, 102, 103, 104, 105, 106, 107, 108, 109, 110, 111, 112, 113, 114, 115, 116, 117, 118, 119, 120, 121, 122, 123, 124, 125, 126, 127, 128, 129, 130, 131, 132, 133, 134, 135, 136, 137, 138, 139, 140, 141, 142, 143, 144, 145, 146, 147, 148, 149, 150, 151, 152, 153, 154, 155, 156, 157, 158, 159, 160, 161, 162, 163, 164, 165, 166] rfl (by decide +kernel)
set_option maxRecDepth 20000 in
theorem gX11_readLine_X11_must : GoodIn wsX11_readLine (wsV RX11 251 RX11 yX11_must wsX11_must) := goodIn_app (goodIn_r _ [73, 74, 75, 12] rfl (by decide +kernel)) ggX11_readLine_X11_must
set_option maxRecDepth 20000 in
theorem ggX11_fresh_X11_isGood : GoodIn wsX11_fresh wsX11_isGood := goodIn_r _ [8, 9, 49, 50, 51, 52, 53, 54, 55, 56, 57, 58, 59, 60, 61, 62, 63, 64, 65, 66, 67, 68, 69, 70, 71, 72, 73, 74, 75, 76, 77, 78, 79, 80, 81, 82, 83, 84, 85, 86, 87, 88, 89, 90, 91, 92, 93, 94, 95, 96, 97, 98, 99, 100, 101, 102, 103, 104, 105, 106, 107, 108, 109, 110, 111, 112, 113, 114, 115, 116, 117] rfl (by decide +kernel)
set_option maxRecDepth 20000 in
theorem gX11_fresh_X11_isGood : GoodIn wsX11_fresh (wsV RX11 208 RX11 yX11_isGood wsX11_isGood) := goodIn_app (goodIn_r _ [4, 5, 6, 7] rfl (by decide +kernel)) ggX11_fresh_X11_isGood
set_option maxRecDepth 20000 in
theorem ggX11_fresh_X11_wrong : GoodIn wsX11_fresh wsX11_wrong := goodIn_r _ [13, 1, 2, 14, 15, 16, 7, 17, 9, 18, 49, 50, 51, 52, 53, 54, 55, 56, 57, 58, 59, 60, 61, 62, 63, 64, 65, 66, 67, 68, 69, 70, 71, 72, 73, 74, 75, 76, 77, 78, 79, 80, 81, 82, 83, 84, 85, 86, 87, 88, 89, 90, 91, 92, 93, 94, 95, 96, 97, 98, 99, 100, 101, 102, 103, 104, 105, 106, 107, 108, 109, 110, 111, 112, 113, 114, 115, 116, 117] rfl (by decide +kernel)
set_option maxRecDepth 20000 in
theorem gX11_fresh_X11_wrong : GoodIn wsX11_fresh (wsV RX11 215 RX11 yX11_wrong wsX11_wrong) := goodIn_app (goodIn_r _ [10, 11, 12, 7] rfl (by decide +kernel)) ggX11_fresh_X11_wrong
set_option maxRecDepth 20000 in
theorem ggX11_fresh_X11_fails : GoodIn wsX11_fresh wsX11_fails := goodIn_r _ [17, 9, 18, 49, 50, 51, 52, 53, 54, 55, 56, 57, 58, 59, 60, 61, 62, 63, 64, 65, 66, 67, 68, 69, 70, 71, 72, 73, 74, 75, 76, 77, 78, 79, 80, 81, 82, 83, 84, 85, 86, 87, 88, 89, 90, 91, 92, 93, 94, 95, 96, 97, 98, 99, 100, 101, 102, 103, 104, 105, 106, 107, 108, 109, 110, 111, 112, 113, 114, 115, 116, 117] rfl (by decide +kernel)
set_option maxRecDepth 20000 in
theorem gX11_fresh_X11_fails : GoodIn wsX11_fresh (wsV RX11 204 RX11 yX11_fails wsX11_fails) := goodIn_app (goodIn_r _ [14, 15, 16, 7] rfl (by decide +kernel)) ggX11_fresh_X11_fails
set_option maxRecDepth 20000 in
theorem ggX11_fresh_X11_goOn : GoodIn wsX11_fresh wsX11_goOn := goodIn_r _ [22, 23, 2, 24, 1, 3, 25, 26, 27, 28, 7, 29, 30, 31, 32, 33, 34, 35, 36, 37, 38, 39, 40, 41, 42, 43, 44, 45, 46, 47, 48, 49, 50, 51, 52, 53, 54, 55, 56, 57, 58, 59, 60, 61, 62, 63, 64, 65, 66, 67, 68, 69, 70, 71, 72, 73, 74, 75, 76, 77, 78, 79, 80, 81, 82, 83, 84, 85, 86, 87, 88, 89, 90, 91, 92, 93, 94, 95, 96, 97, 98, 99, 100, 101, 102, 103, 104, 105, 106, 107, 108, 109, 110, 111, 112, 113, 114, 115, 116, 117] rfl (by decide +kernel)
set_option maxRecDepth 20000 in
theorem gX11_fresh_X11_goOn : GoodIn wsX11_fresh (wsV RX11 212 RX11 yX11_goOn wsX11_goOn) := goodIn_app (goodIn_r _ [19, 20, 21, 7] rfl (by decide +kernel)) ggX11_fresh_X11_goOn
set_option maxRecDepth 20000 in
theorem ggX11_readFloor_X11_here : GoodIn wsX11_readFloor wsX11_here := goodIn_r _ [14, 15, 16, 75, 76, 77, 78, 79, 80, 81, 82, 83, 84, 85, 86, 87, 88, 89, 90, 91, 92, 93, 94, 95, 96, 97, 98, 99, 100, 101, 102, 103, 104, 105, 106, 107, 108, 109, 110, 111, 112, 113, 114, 115, 116, 117, 118, 119, 120, 121, 122, 123, 124, 125, 126, 127, 128, 129, 130, 131, 132, 133, 134, 135, 136, 137, 138, 139, 140, 141, 142, 143] rfl (by decide +kernel)
set_option maxRecDepth 20000 in
theorem gX11_readFloor_X11_here : GoodIn wsX11_readFloor (wsV RX11 255 RX11 yX11_here wsX11_here) := goodIn_app (goodIn_r _ [10, 11, 12, 13] rfl (by decide +kernel)) ggX11_readFloor_X11_here
set_option maxRecDepth 20000 in
theorem ggX11_readFloor_X11_fresh : GoodIn wsX11_readFloor wsX11_fresh := goodIn_r _ [20, 15, 21, 16, 22, 23, 24, 13, 25, 26, 27, 28, 29, 30, 31, 32, 33, 34, 35, 36, 37, 38, 39, 40, 41, 42, 43, 44, 45, 46, 47, 48, 49, 50, 51, 52, 53, 54, 4, 6, 8, 55, 56, 57, 58, 59, 60, 61, 62, 75, 76, 77, 78, 79, 80, 81, 82, 83, 84, 85, 86, 87, 88, 89, 90, 91, 92, 93, 94, 95, 96, 97, 98, 99, 100, 101, 102, 103, 104, 105, 106, 107, 108, 109, 110, 111, 112, 113, 114, 115, 116, 117, 118, 119, 120, 121, 122, 123, 124, 125, 126, 127, 128, 129, 130, 131, 132, 133, 134, 135, 136, 137, 138, 139, 140, 141, 142, 143] rfl (by decide +kernel)
set_option maxRecDepth 20000 in
theorem gX11_readFloor_X11_fresh : GoodIn wsX11_readFloor (wsV RX11 259 RX11 yX11_fresh wsX11_fresh) := goodIn_app (goodIn_r _ [17, 18, 19, 13] rfl (by decide +kernel)) ggX11_readFloor_X11_fresh
set_option maxRecDepth 20000 in
theorem ggX11_readFloor_X11_isWord : GoodIn wsX11_readFloor wsX11_isWord := goodIn_r _ [66, 15, 16, 75, 76, 77, 78, 79, 80, 81, 82, 83, 84, 85, 86, 87, 88, 89, 90, 91, 92, 93, 94, 95, 96, 97, 98, 99, 100, 101, 102, 103, 104, 105, 106, 107, 108, 109, 110, 111, 112, 113, 114, 115, 116, 117, 118, 119, 120, 121, 122, 123, 124, 125, 126, 127, 128, 129, 130, 131, 132, 133, 134, 135, 136, 137, 138, 139, 140, 141, 142, 143] rfl (by decide +kernel)
set_option maxRecDepth 20000 in
theorem gX11_readFloor_X11_isWord : GoodIn wsX11_readFloor (wsV RX11 239 RX11 yX11_isWord wsX11_isWord) := goodIn_app (goodIn_r _ [63, 64, 65, 13] rfl (by decide +kernel)) ggX11_readFloor_X11_isWord
set_option maxRecDepth 20000 in
theorem ggX11_readFloor_X11_must : GoodIn wsX11_readFloor wsX11_must := goodIn_r _ [70, 22, 23, 24, 13, 25, 26, 36, 37, 38, 39, 40, 21, 41, 15, 16, 42, 43, 44, 45, 46, 47, 48, 49, 50, 51, 52, 53, 54, 4, 6, 8, 55, 56, 57, 58, 59, 60, 61, 62, 27, 28, 29, 30, 31, 32, 33, 34, 35, 75, 76, 77, 78, 79, 80, 81, 82, 83, 84, 85, 86, 87, 88, 89, 90, 91, 92, 93, 94, 95, 96, 97, 98, 99, 100, 101, 102, 103, 104, 105, 106, 107, 108, 109, 110, 111, 112, 113, 114, 115, 116, 117, 118, 119, 120, 121, 122, 123, 124, 125, 126, 127, 128, 129, 130, 131, 132, 133, 134, 135, 136, 137, 138, 139, 140, 141, 142, 143] rfl (by decide +kernel)
set_option maxRecDepth 20000 in
theorem gX11_readFloor_X11_must : GoodIn wsX11_readFloor (wsV RX11 251 RX11 yX11_must wsX11_must) := goodIn_app (goodIn_r _ [67, 68, 69, 13] rfl (by decide +kernel)) ggX11_readFloor_X11_must
set_option maxRecDepth 20000 in
theorem ggX11_readFloor_X11_numeral : GoodIn wsX11_readFloor wsX11_numeral := goodIn_r _ [74, 15, 42, 21, 22, 23, 24, 13, 25, 26, 27, 28, 29, 30, 31, 32, 33, 34, 35, 36, 37, 38, 39, 40, 41, 16, 43, 44, 45, 46, 47, 48, 49, 50, 51, 52, 53, 54, 4, 6, 8, 55, 56, 57, 58, 59, 60, 61, 62, 75, 76, 77, 78, 79, 80, 81, 82, 83, 84, 85, 86, 87, 88, 89, 90, 91, 92, 93, 94, 95, 96, 97, 98, 99, 100, 101, 102, 103, 104, 105, 106, 107, 108, 109, 110, 111, 112, 113, 114, 115, 116, 117, 118, 119, 120, 121, 122, 123, 124, 125, 126, 127, 128, 129, 130, 131, 132, 133, 134, 135, 136, 137, 138, 139, 140, 141, 142, 143] rfl (by decide +kernel)
set_option maxRecDepth 20000 in
theorem gX11_readFloor_X11_numeral : GoodIn wsX11_readFloor (wsV RX11 263 RX11 yX11_numeral wsX11_numeral) := goodIn_app (goodIn_r _ [71, 72, 73, 13] rfl (by decide +kernel)) ggX11_readFloor_X11_numeral
set_option maxRecDepth 20000 in
theorem ggX11_readDrawing_X11_here : GoodIn wsX11_readDrawing wsX11_here := goodIn_r _ [9, 10, 11, 61, 62, 63, 64, 65, 66, 67, 68, 69, 70, 71, 72, 73, 74, 75, 76, 77, 78, 79, 80, 81, 82, 83, 84, 85, 86, 87, 88, 89, 90, 91, 92, 93, 94, 95, 96, 97, 98, 99, 100, 101, 102, 103, 104, 105, 106, 107, 108, 109, 110, 111, 112, 113, 114, 115, 116, 117, 118, 119, 120, 121, 122, 123, 124, 125, 126, 127, 128, 129] rfl (by decide +kernel)
set_option maxRecDepth 20000 in
theorem gX11_readDrawing_X11_here : GoodIn wsX11_readDrawing (wsV RX11 255 RX11 yX11_here wsX11_here) := goodIn_app (goodIn_r _ [5, 6, 7, 8] rfl (by decide +kernel)) ggX11_readDrawing_X11_here
set_option maxRecDepth 20000 in
theorem ggX11_readDrawing_X11_fresh : GoodIn wsX11_readDrawing wsX11_fresh := goodIn_r _ [15, 10, 16, 11, 17, 18, 19, 8, 20, 21, 22, 23, 24, 25, 26, 27, 28, 29, 30, 31, 32, 33, 34, 35, 36, 37, 38, 39, 40, 41, 42, 43, 44, 45, 46, 47, 48, 49, 50, 51, 52, 53, 54, 55, 56, 57, 58, 59, 60, 61, 62, 63, 64, 65, 66, 67, 68, 69, 70, 71, 72, 73, 74, 75, 76, 77, 78, 79, 80, 81, 82, 83, 84, 85, 86, 87, 88, 89, 90, 91, 92, 93, 94, 95, 96, 97, 98, 99, 100, 101, 102, 103, 104, 105, 106, 107, 108, 109, 110, 111, 112, 113, 114, 115, 116, 117, 118, 119, 120, 121, 122, 123, 124, 125, 126, 127, 128, 129] rfl (by decide +kernel)
set_option maxRecDepth 20000 in
theorem gX11_readDrawing_X11_fresh : GoodIn wsX11_readDrawing (wsV RX11 259 RX11 yX11_fresh wsX11_fresh) := goodIn_app (goodIn_r _ [12, 13, 14, 8] rfl (by decide +kernel)) ggX11_readDrawing_X11_fresh
set_option maxRecDepth 20000 in
theorem ggX11_lower_X11_isGood : GoodIn wsX11_lower wsX11_isGood := goodIn_r _ [10, 11, 56, 57, 58, 59, 60, 61, 62, 63, 64, 65, 66, 67, 68, 69, 70, 71, 72, 73, 74, 75, 76, 77, 78, 79, 80, 81, 82, 83, 84, 85, 86, 87, 88, 89, 90, 91, 92, 93, 94, 95, 96, 97, 98, 99, 100, 101, 102, 103, 104, 105, 106, 107, 108, 109, 110, 111, 112, 113, 114, 115, 116, 117, 118, 119, 120, 121, 122, 123, 124] rfl (by decide +kernel)
set_option maxRecDepth 20000 in
theorem gX11_lower_X11_isGood : GoodIn wsX11_lower (wsV RX11 208 RX11 yX11_isGood wsX11_isGood) := goodIn_app (goodIn_r _ [6, 7, 8, 9] rfl (by decide +kernel)) ggX11_lower_X11_isGood
set_option maxRecDepth 20000 in
theorem ggX11_lower_X11_here : GoodIn wsX11_lower wsX11_here := goodIn_r _ [15, 4, 16, 56, 57, 58, 59, 60, 61, 62, 63, 64, 65, 66, 67, 68, 69, 70, 71, 72, 73, 74, 75, 76, 77, 78, 79, 80, 81, 82, 83, 84, 85, 86, 87, 88, 89, 90, 91, 92, 93, 94, 95, 96, 97, 98, 99, 100, 101, 102, 103, 104, 105, 106, 107, 108, 109, 110, 111, 112, 113, 114, 115, 116, 117, 118, 119, 120, 121, 122, 123, 124] rfl (by decide +kernel)
set_option maxRecDepth 20000 in
theorem gX11_lower_X11_here : GoodIn wsX11_lower (wsV RX11 255 RX11 yX11_here wsX11_here) := goodIn_app (goodIn_r _ [12, 13, 14, 9] rfl (by decide +kernel)) ggX11_lower_X11_here
set_option maxRecDepth 20000 in
theorem ggX11_lower_X11_wrong : GoodIn wsX11_lower wsX11_wrong := goodIn_r _ [20, 4, 5, 21, 22, 23, 9, 24, 11, 25, 56, 57, 58, 59, 60, 61, 62, 63, 64, 65, 66, 67, 68, 69, 70, 71, 72, 73, 74, 75, 76, 77, 78, 79, 80, 81, 82, 83, 84, 85, 86, 87, 88, 89, 90, 91, 92, 93, 94, 95, 96, 97, 98, 99, 100, 101, 102, 103, 104, 105, 106, 107, 108, 109, 110, 111, 112, 113, 114, 115, 116, 117, 118, 119, 120, 121, 122, 123, 124] rfl (by decide +kernel)
set_option maxRecDepth 20000 in
theorem gX11_lower_X11_wrong : GoodIn wsX11_lower (wsV RX11 215 RX11 yX11_wrong wsX11_wrong) := goodIn_app (goodIn_r _ [17, 18, 19, 9] rfl (by decide +kernel)) ggX11_lower_X11_wrong
set_option maxRecDepth 20000 in
theorem ggX11_lower_X11_fails : GoodIn wsX11_lower wsX11_fails := goodIn_r _ [24, 11, 25, 56, 57, 58, 59, 60, 61, 62, 63, 64, 65, 66, 67, 68, 69, 70, 71, 72, 73, 74, 75, 76, 77, 78, 79, 80, 81, 82, 83, 84, 85, 86, 87, 88, 89, 90, 91, 92, 93, 94, 95, 96, 97, 98, 99, 100, 101, 102, 103, 104, 105, 106, 107, 108, 109, 110, 111, 112, 113, 114, 115, 116, 117, 118, 119, 120, 121, 122, 123, 124] rfl (by decide +kernel)
set_option maxRecDepth 20000 in
theorem gX11_lower_X11_fails : GoodIn wsX11_lower (wsV RX11 204 RX11 yX11_fails wsX11_fails) := goodIn_app (goodIn_r _ [21, 22, 23, 9] rfl (by decide +kernel)) ggX11_lower_X11_fails
set_option maxRecDepth 20000 in
theorem ggX11_lower_X11_goOn : GoodIn wsX11_lower wsX11_goOn := goodIn_r _ [29, 30, 5, 31, 4, 16, 32, 33, 34, 35, 9, 36, 37, 38, 39, 40, 41, 42, 43, 44, 45, 46, 47, 48, 49, 50, 51, 52, 53, 54, 55, 56, 57, 58, 59, 60, 61, 62, 63, 64, 65, 66, 67, 68, 69, 70, 71, 72, 73, 74, 75, 76, 77, 78, 79, 80, 81, 82, 83, 84, 85, 86, 87, 88, 89, 90, 91, 92, 93, 94, 95, 96, 97, 98, 99, 100, 101, 102, 103, 104, 105, 106, 107, 108, 109, 110, 111, 112, 113, 114, 115, 116, 117, 118, 119, 120, 121, 122, 123, 124] rfl (by decide +kernel)
set_option maxRecDepth 20000 in
theorem gX11_lower_X11_goOn : GoodIn wsX11_lower (wsV RX11 212 RX11 yX11_goOn wsX11_goOn) := goodIn_app (goodIn_r _ [26, 27, 28, 9] rfl (by decide +kernel)) ggX11_lower_X11_goOn
set_option maxRecDepth 20000 in
theorem ggX11_readRod_X11_here : GoodIn wsX11_readRod wsX11_here := goodIn_r _ [17, 10, 18, 82, 83, 84, 85, 86, 87, 88, 89, 90, 91, 92, 93, 94, 95, 96, 97, 98, 99, 100, 101, 102, 103, 104, 105, 106, 107, 108, 109, 110, 111, 112, 113, 114, 115, 116, 117, 118, 119, 120, 121, 122, 123, 124, 125, 126, 127, 128, 129, 130, 131, 132, 133, 134, 135, 136, 137, 138, 139, 140, 141, 142, 143, 144, 145, 146, 147, 148, 149, 150] rfl (by decide +kernel)
set_option maxRecDepth 20000 in
theorem gX11_readRod_X11_here : GoodIn wsX11_readRod (wsV RX11 255 RX11 yX11_here wsX11_here) := goodIn_app (goodIn_r _ [13, 14, 15, 16] rfl (by decide +kernel)) ggX11_readRod_X11_here
set_option maxRecDepth 20000 in
theorem ggX11_readRod_X11_fresh : GoodIn wsX11_readRod wsX11_fresh := goodIn_r _ [22, 10, 23, 18, 24, 25, 26, 16, 27, 28, 29, 30, 31, 32, 33, 34, 35, 36, 37, 38, 39, 40, 41, 42, 43, 44, 45, 46, 47, 48, 49, 50, 51, 52, 53, 54, 55, 56, 57, 11, 58, 59, 60, 5, 7, 8, 61, 62, 63, 82, 83, 84, 85, 86, 87, 88, 89, 90, 91, 92, 93, 94, 95, 96, 97, 98, 99, 100, 101, 102, 103, 104, 105, 106, 107, 108, 109, 110, 111, 112, 113, 114, 115, 116, 117, 118, 119, 120, 121, 122, 123, 124, 125, 126, 127, 128, 129, 130, 131, 132, 133, 134, 135, 136, 137, 138, 139, 140, 141, 142, 143, 144, 145, 146, 147, 148, 149, 150] rfl (by decide +kernel)
set_option maxRecDepth 20000 in
theorem gX11_readRod_X11_fresh : GoodIn wsX11_readRod (wsV RX11 259 RX11 yX11_fresh wsX11_fresh) := goodIn_app (goodIn_r _ [19, 20, 21, 16] rfl (by decide +kernel)) ggX11_readRod_X11_fresh
set_option maxRecDepth 20000 in
theorem ggX11_readRod_X11_isWord : GoodIn wsX11_readRod wsX11_isWord := goodIn_r _ [67, 10, 18, 82, 83, 84, 85, 86, 87, 88, 89, 90, 91, 92, 93, 94, 95, 96, 97, 98, 99, 100, 101, 102, 103, 104, 105, 106, 107, 108, 109, 110, 111, 112, 113, 114, 115, 116, 117, 118, 119, 120, 121, 122, 123, 124, 125, 126, 127, 128, 129, 130, 131, 132, 133, 134, 135, 136, 137, 138, 139, 140, 141, 142, 143, 144, 145, 146, 147, 148, 149, 150] rfl (by decide +kernel)
set_option maxRecDepth 20000 in
theorem gX11_readRod_X11_isWord : GoodIn wsX11_readRod (wsV RX11 239 RX11 yX11_isWord wsX11_isWord) := goodIn_app (goodIn_r _ [64, 65, 66, 16] rfl (by decide +kernel)) ggX11_readRod_X11_isWord
set_option maxRecDepth 20000 in
theorem ggX11_readRod_X11_must : GoodIn wsX11_readRod wsX11_must := goodIn_r _ [71, 24, 25, 26, 16, 27, 28, 38, 39, 40, 41, 42, 23, 43, 10, 18, 44, 45, 46, 47, 48, 49, 50, 51, 52, 53, 54, 55, 56, 57, 11, 58, 59, 60, 5, 7, 8, 61, 62, 63, 29, 30, 31, 32, 33, 34, 35, 36, 37, 82, 83, 84, 85, 86, 87, 88, 89, 90, 91, 92, 93, 94, 95, 96, 97, 98, 99, 100, 101, 102, 103, 104, 105, 106, 107, 108, 109, 110, 111, 112, 113, 114, 115, 116, 117, 118, 119, 120, 121, 122, 123, 124, 125, 126, 127, 128, 129, 130, 131, 132, 133, 134, 135, 136, 137, 138, 139, 140, 141, 142, 143, 144, 145, 146, 147, 148, 149, 150] rfl (by decide +kernel)
set_option maxRecDepth 20000 in
theorem gX11_readRod_X11_must : GoodIn wsX11_readRod (wsV RX11 251 RX11 yX11_must wsX11_must) := goodIn_app (goodIn_r _ [68, 69, 70, 16] rfl (by decide +kernel)) ggX11_readRod_X11_must
set_option maxRecDepth 20000 in
theorem ggX11_readRod_X11_isGood : GoodIn wsX11_readRod wsX11_isGood := goodIn_r _ [27, 28, 82, 83, 84, 85, 86, 87, 88, 89, 90, 91, 92, 93, 94, 95, 96, 97, 98, 99, 100, 101, 102, 103, 104, 105, 106, 107, 108, 109, 110, 111, 112, 113, 114, 115, 116, 117, 118, 119, 120, 121, 122, 123, 124, 125, 126, 127, 128, 129, 130, 131, 132, 133, 134, 135, 136, 137, 138, 139, 140, 141, 142, 143, 144, 145, 146, 147, 148, 149, 150] rfl (by decide +kernel)
set_option maxRecDepth 20000 in
theorem gX11_readRod_X11_isGood : GoodIn wsX11_readRod (wsV RX11 208 RX11 yX11_isGood wsX11_isGood) := goodIn_app (goodIn_r _ [24, 25, 26, 16] rfl (by decide +kernel)) ggX11_readRod_X11_isGood
set_option maxRecDepth 20000 in
theorem ggX11_readRod_X11_goOn : GoodIn wsX11_readRod wsX11_goOn := goodIn_r _ [41, 42, 23, 43, 10, 18, 44, 45, 46, 47, 16, 48, 49, 50, 51, 52, 53, 54, 55, 56, 57, 11, 58, 59, 60, 5, 7, 8, 61, 62, 63, 82, 83, 84, 85, 86, 87, 88, 89, 90, 91, 92, 93, 94, 95, 96, 97, 98, 99, 100, 101, 102, 103, 104, 105, 106, 107, 108, 109, 110, 111, 112, 113, 114, 115, 116, 117, 118, 119, 120, 121, 122, 123, 124, 125, 126, 127, 128, 129, 130, 131, 132, 133, 134, 135, 136, 137, 138, 139, 140, 141, 142, 143, 144, 145, 146, 147, 148, 149, 150] rfl (by decide +kernel)
set_option maxRecDepth 20000 in
theorem gX11_readRod_X11_goOn : GoodIn wsX11_readRod (wsV RX11 212 RX11 yX11_goOn wsX11_goOn) := goodIn_app (goodIn_r _ [38, 39, 40, 16] rfl (by decide +kernel)) ggX11_readRod_X11_goOn
set_option maxRecDepth 20000 in
theorem ggX11_readRod_X11_lower : GoodIn wsX11_readRod wsX11_lower := goodIn_r _ [75, 76, 1, 77, 10, 23, 24, 25, 26, 16, 27, 28, 13, 14, 15, 17, 18, 29, 30, 31, 32, 33, 34, 35, 36, 37, 38, 39, 40, 41, 42, 43, 44, 45, 46, 47, 48, 49, 50, 51, 52, 53, 54, 55, 56, 57, 11, 58, 59, 60, 5, 7, 8, 61, 62, 63, 82, 83, 84, 85, 86, 87, 88, 89, 90, 91, 92, 93, 94, 95, 96, 97, 98, 99, 100, 101, 102, 103, 104, 105, 106, 107, 108, 109, 110, 111, 112, 113, 114, 115, 116, 117, 118, 119, 120, 121, 122, 123, 124, 125, 126, 127, 128, 129, 130, 131, 132, 133, 134, 135, 136, 137, 138, 139, 140, 141, 142, 143, 144, 145, 146, 147, 148, 149, 150] rfl (by decide +kernel)
set_option maxRecDepth 20000 in
theorem gX11_readRod_X11_lower : GoodIn wsX11_readRod (wsV RX11 267 RX11 yX11_lower wsX11_lower) := goodIn_app (goodIn_r _ [72, 73, 74, 16] rfl (by decide +kernel)) ggX11_readRod_X11_lower
set_option maxRecDepth 20000 in
theorem ggX11_readRod_X11_numeral : GoodIn wsX11_readRod wsX11_numeral := goodIn_r _ [81, 10, 44, 23, 24, 25, 26, 16, 27, 28, 29, 30, 31, 32, 33, 34, 35, 36, 37, 38, 39, 40, 41, 42, 43, 18, 45, 46, 47, 48, 49, 50, 51, 52, 53, 54, 55, 56, 57, 11, 58, 59, 60, 5, 7, 8, 61, 62, 63, 82, 83, 84, 85, 86, 87, 88, 89, 90, 91, 92, 93, 94, 95, 96, 97, 98, 99, 100, 101, 102, 103, 104, 105, 106, 107, 108, 109, 110, 111, 112, 113, 114, 115, 116, 117, 118, 119, 120, 121, 122, 123, 124, 125, 126, 127, 128, 129, 130, 131, 132, 133, 134, 135, 136, 137, 138, 139, 140, 141, 142, 143, 144, 145, 146, 147, 148, 149, 150] rfl (by decide +kernel)
set_option maxRecDepth 20000 in
theorem gX11_readRod_X11_numeral : GoodIn wsX11_readRod (wsV RX11 263 RX11 yX11_numeral wsX11_numeral) := goodIn_app (goodIn_r _ [78, 79, 80, 16] rfl (by decide +kernel)) ggX11_readRod_X11_numeral
set_option maxRecDepth 20000 in
theorem ggX11_isFloor_X11_floorMany : GoodIn wsX11_isFloor wsX11_floorMany := goodIn_r _ [5, 6, 7, 11, 12, 13, 14, 15, 16, 17, 18, 19, 20, 21, 22, 23, 24, 25, 26, 27, 28, 29, 30, 31, 32, 33, 34, 35, 36, 37, 38, 39, 40, 41, 42, 43, 44, 45, 46, 47, 48, 49, 50, 51, 52, 53, 54, 55, 56, 57, 58, 59, 60, 61, 62, 63, 64, 65, 66, 67, 68, 69, 70, 71, 72, 73, 74, 75, 76, 77, 78, 79] rfl (by decide +kernel)
set_option maxRecDepth 20000 in
theorem gX11_isFloor_X11_floorMany : GoodIn wsX11_isFloor (wsV RX11 270 RX11 yX11_floorMany wsX11_floorMany) := goodIn_app (goodIn_r _ [1, 2, 3, 4] rfl (by decide +kernel)) ggX11_isFloor_X11_floorMany
set_option maxRecDepth 20000 in
theorem ggX11_isFloor_X11_isIn : GoodIn wsX11_isFloor wsX11_isIn := goodIn_r _ [10] rfl (by decide +kernel)
set_option maxRecDepth 20000 in
theorem gX11_isFloor_X11_isIn : GoodIn wsX11_isFloor (va_wsS RX11 274 yX11_isIn wsX11_isIn) := goodIn_app (goodIn_r _ [8, 9, 4] rfl (by decide +kernel)) ggX11_isFloor_X11_isIn
set_option maxRecDepth 20000 in
theorem ggX11_isDrawing_X11_isIn : GoodIn wsX11_isDrawing wsX11_isIn := goodIn_r _ [6] rfl (by decide +kernel)
set_option maxRecDepth 20000 in
theorem gX11_isDrawing_X11_isIn : GoodIn wsX11_isDrawing (va_wsS RX11 274 yX11_isIn wsX11_isIn) := goodIn_app (goodIn_r _ [3, 4, 5] rfl (by decide +kernel)) ggX11_isDrawing_X11_isIn
set_option maxRecDepth 20000 in
theorem ggX11_isPart_X11_isIn : GoodIn wsX11_isPart wsX11_isIn := goodIn_r _ [4] rfl (by decide +kernel)
set_option maxRecDepth 20000 in
theorem gX11_isPart_X11_isIn : GoodIn wsX11_isPart (va_wsS RX11 274 yX11_isIn wsX11_isIn) := goodIn_app (goodIn_r _ [1, 2, 3] rfl (by decide +kernel)) ggX11_isPart_X11_isIn
set_option maxRecDepth 20000 in
theorem ggX11_live_X11_isFloor : GoodIn wsX11_live wsX11_isFloor := goodIn_r _ [6, 7, 8, 9, 5, 10, 11, 12, 13, 14, 15, 16, 17, 18, 19, 20, 21, 22, 23, 24, 25, 26, 27, 28, 29, 30, 31, 32, 33, 34, 35, 36, 37, 38, 39, 40, 41, 42, 43, 44, 45, 46, 47, 48, 49, 50, 51, 52, 53, 54, 55, 56, 57, 58, 59, 60, 61, 62, 63, 64, 65, 66, 67, 68, 69, 70, 71, 72, 73, 74, 75, 76, 77, 78, 79, 80, 81, 82, 83, 84] rfl (by decide +kernel)
set_option maxRecDepth 20000 in
theorem gX11_live_X11_isFloor : GoodIn wsX11_live (wsV RX11 278 RX11 yX11_isFloor wsX11_isFloor) := goodIn_app (goodIn_r _ [2, 3, 4, 5] rfl (by decide +kernel)) ggX11_live_X11_isFloor
set_option maxRecDepth 20000 in
theorem ggX11_live_X11_isIn : GoodIn wsX11_live wsX11_isIn := goodIn_r _ [15] rfl (by decide +kernel)
set_option maxRecDepth 20000 in
theorem gX11_live_X11_isIn : GoodIn wsX11_live (va_wsS RX11 274 yX11_isIn wsX11_isIn) := goodIn_app (goodIn_r _ [13, 14, 5] rfl (by decide +kernel)) ggX11_live_X11_isIn
set_option maxRecDepth 20000 in
theorem ggX11_move_X11_isIn : GoodIn wsX11_move wsX11_isIn := goodIn_r _ [5] rfl (by decide +kernel)
set_option maxRecDepth 20000 in
theorem gX11_move_X11_isIn : GoodIn wsX11_move (va_wsS RX11 274 yX11_isIn wsX11_isIn) := goodIn_app (goodIn_r _ [2, 3, 4] rfl (by decide +kernel)) ggX11_move_X11_isIn
set_option maxRecDepth 20000 in
theorem ggX11_add_X11_common : GoodIn wsX11_add wsX11_common := goodIn_r _ [6] rfl (by decide +kernel)
set_option maxRecDepth 20000 in
theorem gX11_add_X11_common : GoodIn wsX11_add (va_wsS RX11 284 yX11_common wsX11_common) := goodIn_app (goodIn_r _ [3, 4, 5] rfl (by decide +kernel)) ggX11_add_X11_common
set_option maxRecDepth 20000 in
theorem ggX11_lay_X11_rodMany : GoodIn wsX11_lay wsX11_rodMany := goodIn_r _ [16, 17, 18, 23, 24, 25, 26, 27, 28, 29, 30, 31, 32, 33, 34, 35, 36, 37, 38, 39, 40, 41, 42, 43, 44, 45, 46, 47, 48, 49, 50, 51, 52, 53, 54, 55, 56, 57, 58, 59, 60, 61, 62, 63, 64, 65, 66, 67, 68, 69, 70, 71, 72, 73, 74, 75, 76, 77, 78, 79, 80, 81, 82, 83, 84, 85, 86, 87, 88, 89, 90, 91] rfl (by decide +kernel)
set_option maxRecDepth 20000 in
theorem gX11_lay_X11_rodMany : GoodIn wsX11_lay (wsV RX11 294 RX11 yX11_rodMany wsX11_rodMany) := goodIn_app (goodIn_r _ [12, 13, 14, 15] rfl (by decide +kernel)) ggX11_lay_X11_rodMany
set_option maxRecDepth 20000 in
theorem ggX11_lay_X11_rodNo : GoodIn wsX11_lay wsX11_rodNo := goodIn_r _ [22, 18, 23, 24, 25, 26, 27, 28, 29, 30, 31, 32, 33, 34, 35, 36, 37, 38, 39, 40, 41, 42, 43, 44, 45, 46, 47, 48, 49, 50, 51, 52, 53, 54, 55, 56, 57, 58, 59, 60, 61, 62, 63, 64, 65, 66, 67, 68, 69, 70, 71, 72, 73, 74, 75, 76, 77, 78, 79, 80, 81, 82, 83, 84, 85, 86, 87, 88, 89, 90, 91] rfl (by decide +kernel)
set_option maxRecDepth 20000 in
theorem gX11_lay_X11_rodNo : GoodIn wsX11_lay (wsV RX11 303 RX11 yX11_rodNo wsX11_rodNo) := goodIn_app (goodIn_r _ [19, 20, 21, 15] rfl (by decide +kernel)) ggX11_lay_X11_rodNo
set_option maxRecDepth 20000 in
theorem ggX11_reckon_X11_floorMany : GoodIn wsX11_reckon wsX11_floorMany := goodIn_r _ [20, 21, 5, 34, 35, 36, 37, 38, 39, 40, 41, 42, 43, 44, 45, 46, 47, 48, 49, 50, 51, 52, 53, 54, 55, 56, 57, 58, 59, 60, 61, 62, 63, 64, 65, 66, 67, 68, 69, 70, 71, 72, 73, 74, 75, 76, 77, 78, 79, 80, 81, 82, 83, 84, 85, 86, 87, 88, 89, 90, 91, 92, 93, 94, 95, 96, 97, 98, 99, 100, 101, 102] rfl (by decide +kernel)
set_option maxRecDepth 20000 in
theorem gX11_reckon_X11_floorMany : GoodIn wsX11_reckon (wsV RX11 270 RX11 yX11_floorMany wsX11_floorMany) := goodIn_app (goodIn_r _ [16, 17, 18, 19] rfl (by decide +kernel)) ggX11_reckon_X11_floorMany
set_option maxRecDepth 20000 in
theorem ggX11_reckon_X11_add : GoodIn wsX11_reckon wsX11_add := goodIn_r _ [25, 7, 6, 26, 27, 19, 28, 34, 35, 36, 37, 38, 39, 40, 41, 42, 43, 44, 45, 46, 47, 48, 49, 50, 51, 52, 53, 54, 55, 56, 57, 58, 59, 60, 61, 62, 63, 64, 65, 66, 67, 68, 69, 70, 71, 72, 73, 74, 75, 76, 77, 78, 79, 80, 81, 82, 83, 84, 85, 86, 87, 88, 89, 90, 91, 92, 93, 94, 95, 96, 97, 98, 99, 100, 101, 102] rfl (by decide +kernel)
set_option maxRecDepth 20000 in
theorem gX11_reckon_X11_add : GoodIn wsX11_reckon (wsV RX11 308 RX11 yX11_add wsX11_add) := goodIn_app (goodIn_r _ [22, 23, 24, 19] rfl (by decide +kernel)) ggX11_reckon_X11_add
set_option maxRecDepth 20000 in
theorem ggX11_reckon_X11_isHeld : GoodIn wsX11_reckon wsX11_isHeld := goodIn_r _ [32, 12, 33, 34, 35, 36, 37, 38, 39, 40, 41, 42, 43, 44, 45, 46, 47, 48, 49, 50, 51, 52, 53, 54, 55, 56, 57, 58, 59, 60, 61, 62, 63, 64, 65, 66, 67, 68, 69, 70, 71, 72, 73, 74, 75, 76, 77, 78, 79, 80, 81, 82, 83, 84, 85, 86, 87, 88, 89, 90, 91, 92, 93, 94, 95, 96, 97, 98, 99, 100, 101, 102] rfl (by decide +kernel)
set_option maxRecDepth 20000 in
theorem gX11_reckon_X11_isHeld : GoodIn wsX11_reckon (wsV RX11 312 RX11 yX11_isHeld wsX11_isHeld) := goodIn_app (goodIn_r _ [29, 30, 31, 19] rfl (by decide +kernel)) ggX11_reckon_X11_isHeld
set_option maxRecDepth 20000 in
theorem ggX11_layJoints_X11_rodMany : GoodIn wsX11_layJoints wsX11_rodMany := goodIn_r _ [9, 10, 11, 21, 22, 23, 24, 25, 26, 27, 28, 29, 30, 31, 32, 33, 34, 35, 36, 37, 38, 39, 40, 41, 42, 43, 44, 45, 46, 47, 48, 49, 50, 51, 52, 53, 54, 55, 56, 57, 58, 59, 60, 61, 62, 63, 64, 65, 66, 67, 68, 69, 70, 71, 72, 73, 74, 75, 76, 77, 78, 79, 80, 81, 82, 83, 84, 85, 86, 87, 88, 89] rfl (by decide +kernel)
set_option maxRecDepth 20000 in
theorem gX11_layJoints_X11_rodMany : GoodIn wsX11_layJoints (wsV RX11 294 RX11 yX11_rodMany wsX11_rodMany) := goodIn_app (goodIn_r _ [5, 6, 7, 8] rfl (by decide +kernel)) ggX11_layJoints_X11_rodMany
set_option maxRecDepth 20000 in
theorem ggX11_layJoints_X11_floorMany : GoodIn wsX11_layJoints wsX11_floorMany := goodIn_r _ [15, 16, 11, 21, 22, 23, 24, 25, 26, 27, 28, 29, 30, 31, 32, 33, 34, 35, 36, 37, 38, 39, 40, 41, 42, 43, 44, 45, 46, 47, 48, 49, 50, 51, 52, 53, 54, 55, 56, 57, 58, 59, 60, 61, 62, 63, 64, 65, 66, 67, 68, 69, 70, 71, 72, 73, 74, 75, 76, 77, 78, 79, 80, 81, 82, 83, 84, 85, 86, 87, 88, 89] rfl (by decide +kernel)
set_option maxRecDepth 20000 in
theorem gX11_layJoints_X11_floorMany : GoodIn wsX11_layJoints (wsV RX11 270 RX11 yX11_floorMany wsX11_floorMany) := goodIn_app (goodIn_r _ [12, 13, 14, 8] rfl (by decide +kernel)) ggX11_layJoints_X11_floorMany
set_option maxRecDepth 20000 in
theorem ggX11_layJoints_X11_rodNo : GoodIn wsX11_layJoints wsX11_rodNo := goodIn_r _ [20, 11, 21, 22, 23, 24, 25, 26, 27, 28, 29, 30, 31, 32, 33, 34, 35, 36, 37, 38, 39, 40, 41, 42, 43, 44, 45, 46, 47, 48, 49, 50, 51, 52, 53, 54, 55, 56, 57, 58, 59, 60, 61, 62, 63, 64, 65, 66, 67, 68, 69, 70, 71, 72, 73, 74, 75, 76, 77, 78, 79, 80, 81, 82, 83, 84, 85, 86, 87, 88, 89] rfl (by decide +kernel)
set_option maxRecDepth 20000 in
theorem gX11_layJoints_X11_rodNo : GoodIn wsX11_layJoints (wsV RX11 303 RX11 yX11_rodNo wsX11_rodNo) := goodIn_app (goodIn_r _ [17, 18, 19, 8] rfl (by decide +kernel)) ggX11_layJoints_X11_rodNo
set_option maxRecDepth 20000 in
theorem ggX11_isThere_X11_isHeld : GoodIn wsX11_isThere wsX11_isHeld := goodIn_r _ [8, 2, 9, 10, 11, 12, 13, 14, 15, 16, 17, 18, 19, 20, 21, 22, 23, 24, 25, 26, 27, 28, 29, 30, 31, 32, 33, 34, 35, 36, 37, 38, 39, 40, 41, 42, 43, 44, 45, 46, 47, 48, 49, 50, 51, 52, 53, 54, 55, 56, 57, 58, 59, 60, 61, 62, 63, 64, 65, 66, 67, 68, 69, 70, 71, 72, 73, 74, 75, 76, 77, 78] rfl (by decide +kernel)
set_option maxRecDepth 20000 in
theorem gX11_isThere_X11_isHeld : GoodIn wsX11_isThere (wsV RX11 312 RX11 yX11_isHeld wsX11_isHeld) := goodIn_app (goodIn_r _ [4, 5, 6, 7] rfl (by decide +kernel)) ggX11_isThere_X11_isHeld
set_option maxRecDepth 20000 in
theorem ggX11_canOf_X11_rodNo : GoodIn wsX11_canOf wsX11_rodNo := goodIn_r _ [12, 4, 13, 14, 15, 16, 17, 18, 19, 20, 21, 22, 23, 24, 25, 26, 27, 28, 29, 30, 31, 32, 33, 34, 35, 36, 37, 38, 39, 40, 41, 42, 43, 44, 45, 46, 47, 48, 49, 50, 51, 52, 53, 54, 55, 56, 57, 58, 59, 60, 61, 62, 63, 64, 65, 66, 67, 68, 69, 70, 71, 72, 73, 74, 75, 76, 77, 78, 79, 80, 81] rfl (by decide +kernel)
set_option maxRecDepth 20000 in
theorem gX11_canOf_X11_rodNo : GoodIn wsX11_canOf (wsV RX11 303 RX11 yX11_rodNo wsX11_rodNo) := goodIn_app (goodIn_r _ [8, 9, 10, 11] rfl (by decide +kernel)) ggX11_canOf_X11_rodNo
set_option maxRecDepth 20000 in
theorem ggX11_bear_X11_common : GoodIn wsX11_bear wsX11_common := goodIn_r _ [13] rfl (by decide +kernel)
set_option maxRecDepth 20000 in
theorem gX11_bear_X11_common : GoodIn wsX11_bear (va_wsS RX11 284 yX11_common wsX11_common) := goodIn_app (goodIn_r _ [10, 11, 12] rfl (by decide +kernel)) ggX11_bear_X11_common
set_option maxRecDepth 20000 in
theorem ggX11_isBeyond_X11_bear : GoodIn wsX11_isBeyond wsX11_bear := goodIn_r _ [7, 8, 9, 10, 11, 1, 12, 13, 14, 2, 15, 16, 6, 17, 31, 32, 33, 34, 35, 36, 37, 38, 39, 40, 41, 42, 43, 44, 45, 46, 47, 48, 49, 50, 51, 52, 53, 54, 55, 56, 57, 58, 59, 60, 61, 62, 63, 64, 65, 66, 67, 68, 69, 70, 71, 72, 73, 74, 75, 76, 77, 78, 79, 80, 81, 82, 83, 84, 85, 86, 87, 88, 89, 90, 91, 92, 93, 94, 95, 96, 97, 98, 99] rfl (by decide +kernel)
set_option maxRecDepth 20000 in
theorem gX11_isBeyond_X11_bear : GoodIn wsX11_isBeyond (wsV RX11 325 RX11 yX11_bear wsX11_bear) := goodIn_app (goodIn_r _ [3, 4, 5, 6] rfl (by decide +kernel)) ggX11_isBeyond_X11_bear
set_option maxRecDepth 20000 in
theorem ggX11_isBeyond_X11_canOf : GoodIn wsX11_isBeyond wsX11_canOf := goodIn_r _ [21, 10, 8, 22, 23, 24, 25, 26, 27, 28, 29, 6, 30, 31, 32, 33, 34, 35, 36, 37, 38, 39, 40, 41, 42, 43, 44, 45, 46, 47, 48, 49, 50, 51, 52, 53, 54, 55, 56, 57, 58, 59, 60, 61, 62, 63, 64, 65, 66, 67, 68, 69, 70, 71, 72, 73, 74, 75, 76, 77, 78, 79, 80, 81, 82, 83, 84, 85, 86, 87, 88, 89, 90, 91, 92, 93, 94, 95, 96, 97, 98, 99] rfl (by decide +kernel)
set_option maxRecDepth 20000 in
theorem gX11_isBeyond_X11_canOf : GoodIn wsX11_isBeyond (wsV RX11 329 RX11 yX11_canOf wsX11_canOf) := goodIn_app (goodIn_r _ [18, 19, 20, 6] rfl (by decide +kernel)) ggX11_isBeyond_X11_canOf
set_option maxRecDepth 20000 in
theorem ggX11_worstOf_X11_isThere : GoodIn wsX11_worstOf wsX11_isThere := goodIn_r _ [8, 9, 10, 11, 12, 13, 14, 7, 15, 16, 45, 46, 47, 48, 49, 50, 51, 52, 53, 54, 55, 56, 57, 58, 59, 60, 61, 62, 63, 64, 65, 66, 67, 68, 69, 70, 71, 72, 73, 74, 75, 76, 77, 78, 79, 80, 81, 82, 83, 84, 85, 86, 87, 88, 89, 90, 91, 92, 93, 94, 95, 96, 97, 98, 99, 100, 101, 102, 103, 104, 105, 106, 107, 108, 109, 110, 111, 112, 113] rfl (by decide +kernel)
set_option maxRecDepth 20000 in
theorem gX11_worstOf_X11_isThere : GoodIn wsX11_worstOf (wsV RX11 332 RX11 yX11_isThere wsX11_isThere) := goodIn_app (goodIn_r _ [4, 5, 6, 7] rfl (by decide +kernel)) ggX11_worstOf_X11_isThere
set_option maxRecDepth 20000 in
theorem ggX11_worstOf_X11_bear : GoodIn wsX11_worstOf wsX11_bear := goodIn_r _ [20, 9, 21, 11, 22, 3, 23, 24, 25, 2, 26, 27, 7, 28, 45, 46, 47, 48, 49, 50, 51, 52, 53, 54, 55, 56, 57, 58, 59, 60, 61, 62, 63, 64, 65, 66, 67, 68, 69, 70, 71, 72, 73, 74, 75, 76, 77, 78, 79, 80, 81, 82, 83, 84, 85, 86, 87, 88, 89, 90, 91, 92, 93, 94, 95, 96, 97, 98, 99, 100, 101, 102, 103, 104, 105, 106, 107, 108, 109, 110, 111, 112, 113] rfl (by decide +kernel)
set_option maxRecDepth 20000 in
theorem gX11_worstOf_X11_bear : GoodIn wsX11_worstOf (wsV RX11 325 RX11 yX11_bear wsX11_bear) := goodIn_app (goodIn_r _ [17, 18, 19, 7] rfl (by decide +kernel)) ggX11_worstOf_X11_bear
set_option maxRecDepth 20000 in
theorem ggX11_worstOf_X11_canOf : GoodIn wsX11_worstOf wsX11_canOf := goodIn_r _ [32, 11, 9, 33, 34, 35, 36, 37, 38, 39, 40, 7, 41, 45, 46, 47, 48, 49, 50, 51, 52, 53, 54, 55, 56, 57, 58, 59, 60, 61, 62, 63, 64, 65, 66, 67, 68, 69, 70, 71, 72, 73, 74, 75, 76, 77, 78, 79, 80, 81, 82, 83, 84, 85, 86, 87, 88, 89, 90, 91, 92, 93, 94, 95, 96, 97, 98, 99, 100, 101, 102, 103, 104, 105, 106, 107, 108, 109, 110, 111, 112, 113] rfl (by decide +kernel)
set_option maxRecDepth 20000 in
theorem gX11_worstOf_X11_canOf : GoodIn wsX11_worstOf (wsV RX11 329 RX11 yX11_canOf wsX11_canOf) := goodIn_app (goodIn_r _ [29, 30, 31, 7] rfl (by decide +kernel)) ggX11_worstOf_X11_canOf
set_option maxRecDepth 20000 in
theorem ggX11_worstOf_X11_isMore : GoodIn wsX11_worstOf wsX11_isMore := goodIn_r _ [44] rfl (by decide +kernel)
set_option maxRecDepth 20000 in
theorem gX11_worstOf_X11_isMore : GoodIn wsX11_worstOf (va_wsS RX11 335 yX11_isMore wsX11_isMore) := goodIn_app (goodIn_r _ [42, 43, 7] rfl (by decide +kernel)) ggX11_worstOf_X11_isMore
set_option maxRecDepth 20000 in
theorem ggX11_layAll_X11_lay : GoodIn wsX11_layAll wsX11_lay := goodIn_r _ [5, 6, 7, 8, 9, 10, 11, 12, 13, 14, 15, 16, 17, 18, 19, 4, 20, 21, 22, 23, 24, 25, 26, 63, 64, 65, 66, 67, 68, 69, 70, 71, 72, 73, 74, 75, 76, 77, 78, 79, 80, 81, 82, 83, 84, 85, 86, 87, 88, 89, 90, 91, 92, 93, 94, 95, 96, 97, 98, 99, 100, 101, 102, 103, 104, 105, 106, 107, 108, 109, 110, 111, 112, 113, 114, 115, 116, 117, 118, 119, 120, 121, 122, 123, 124, 125, 126, 127, 128, 129, 130, 131] rfl (by decide +kernel)
set_option maxRecDepth 20000 in
theorem gX11_layAll_X11_lay : GoodIn wsX11_layAll (wsV RX11 339 RX11 yX11_lay wsX11_lay) := goodIn_app (goodIn_r _ [1, 2, 3, 4] rfl (by decide +kernel)) ggX11_layAll_X11_lay
set_option maxRecDepth 20000 in
theorem ggX11_layAll_X11_layJoints : GoodIn wsX11_layAll wsX11_layJoints := goodIn_r _ [30, 31, 16, 32, 33, 17, 18, 19, 4, 20, 21, 22, 34, 35, 36, 37, 38, 23, 24, 25, 26, 63, 64, 65, 66, 67, 68, 69, 70, 71, 72, 73, 74, 75, 76, 77, 78, 79, 80, 81, 82, 83, 84, 85, 86, 87, 88, 89, 90, 91, 92, 93, 94, 95, 96, 97, 98, 99, 100, 101, 102, 103, 104, 105, 106, 107, 108, 109, 110, 111, 112, 113, 114, 115, 116, 117, 118, 119, 120, 121, 122, 123, 124, 125, 126, 127, 128, 129, 130, 131] rfl (by decide +kernel)
set_option maxRecDepth 20000 in
theorem gX11_layAll_X11_layJoints : GoodIn wsX11_layAll (wsV RX11 343 RX11 yX11_layJoints wsX11_layJoints) := goodIn_app (goodIn_r _ [27, 28, 29, 4] rfl (by decide +kernel)) ggX11_layAll_X11_layJoints
set_option maxRecDepth 20000 in
theorem ggX11_layAll_X11_reckon : GoodIn wsX11_layAll wsX11_reckon := goodIn_r _ [42, 7, 43, 44, 45, 22, 46, 47, 10, 9, 48, 49, 12, 13, 50, 51, 34, 35, 36, 4, 37, 38, 52, 53, 54, 55, 56, 57, 58, 59, 60, 61, 62, 15, 63, 64, 65, 66, 67, 68, 69, 70, 71, 72, 73, 74, 75, 76, 77, 78, 79, 80, 81, 82, 83, 84, 85, 86, 87, 88, 89, 90, 91, 92, 93, 94, 95, 96, 97, 98, 99, 100, 101, 102, 103, 104, 105, 106, 107, 108, 109, 110, 111, 112, 113, 114, 115, 116, 117, 118, 119, 120, 121, 122, 123, 124, 125, 126, 127, 128, 129, 130, 131] rfl (by decide +kernel)
set_option maxRecDepth 20000 in
theorem gX11_layAll_X11_reckon : GoodIn wsX11_layAll (wsV RX11 346 RX11 yX11_reckon wsX11_reckon) := goodIn_app (goodIn_r _ [39, 40, 41, 4] rfl (by decide +kernel)) ggX11_layAll_X11_reckon
set_option maxRecDepth 20000 in
theorem ggX11_joints_X11_isDrawing : GoodIn wsX11_joints wsX11_isDrawing := goodIn_r _ [6, 7, 8, 9, 10, 5, 11, 33, 34, 35, 36, 37, 38, 39, 40, 41, 42, 43, 44, 45, 46, 47, 48, 49, 50, 51, 52, 53, 54, 55, 56, 57, 58, 59, 60, 61, 62, 63, 64, 65, 66, 67, 68, 69, 70, 71, 72, 73, 74, 75, 76, 77, 78, 79, 80, 81, 82, 83, 84, 85, 86, 87, 88, 89, 90, 91, 92, 93, 94, 95, 96, 97, 98, 99, 100, 101] rfl (by decide +kernel)
set_option maxRecDepth 20000 in
theorem gX11_joints_X11_isDrawing : GoodIn wsX11_joints (wsV RX11 349 RX11 yX11_isDrawing wsX11_isDrawing) := goodIn_app (goodIn_r _ [2, 3, 4, 5] rfl (by decide +kernel)) ggX11_joints_X11_isDrawing
set_option maxRecDepth 20000 in
theorem ggX11_joints_X11_layJoints : GoodIn wsX11_joints wsX11_layJoints := goodIn_r _ [15, 1, 16, 17, 18, 19, 20, 21, 5, 22, 23, 8, 24, 25, 26, 27, 28, 29, 30, 31, 32, 33, 34, 35, 36, 37, 38, 39, 40, 41, 42, 43, 44, 45, 46, 47, 48, 49, 50, 51, 52, 53, 54, 55, 56, 57, 58, 59, 60, 61, 62, 63, 64, 65, 66, 67, 68, 69, 70, 71, 72, 73, 74, 75, 76, 77, 78, 79, 80, 81, 82, 83, 84, 85, 86, 87, 88, 89, 90, 91, 92, 93, 94, 95, 96, 97, 98, 99, 100, 101] rfl (by decide +kernel)
set_option maxRecDepth 20000 in
theorem gX11_joints_X11_layJoints : GoodIn wsX11_joints (wsV RX11 343 RX11 yX11_layJoints wsX11_layJoints) := goodIn_app (goodIn_r _ [12, 13, 14, 5] rfl (by decide +kernel)) ggX11_joints_X11_layJoints
set_option maxRecDepth 20000 in
theorem ggX11_joint_X11_joints : GoodIn wsX11_joint wsX11_joints := goodIn_r _ [7, 8, 9, 10, 11, 6, 12, 13, 14, 15, 16, 17, 18, 19, 20, 21, 22, 1, 2, 23, 24, 25, 26, 27, 28, 29, 30, 31, 32, 33, 34, 35, 36, 95, 96, 97, 98, 99, 100, 101, 102, 103, 104, 105, 106, 107, 108, 109, 110, 111, 112, 113, 114, 115, 116, 117, 118, 119, 120, 121, 122, 123, 124, 125, 126, 127, 128, 129, 130, 131, 132, 133, 134, 135, 136, 137, 138, 139, 140, 141, 142, 143, 144, 145, 146, 147, 148, 149, 150, 151, 152, 153, 154, 155, 156, 157, 158, 159, 160, 161, 162, 163] rfl (by decide +kernel)
set_option maxRecDepth 20000 in
theorem gX11_joint_X11_joints : GoodIn wsX11_joint (wsV RX11 352 RX11 yX11_joints wsX11_joints) := goodIn_app (goodIn_r _ [3, 4, 5, 6] rfl (by decide +kernel)) ggX11_joint_X11_joints
set_option maxRecDepth 20000 in
theorem ggX11_joint_X11_isIn : GoodIn wsX11_joint wsX11_isIn := goodIn_r _ [17] rfl (by decide +kernel)
set_option maxRecDepth 20000 in
theorem gX11_joint_X11_isIn : GoodIn wsX11_joint (va_wsS RX11 274 yX11_isIn wsX11_isIn) := goodIn_app (goodIn_r _ [15, 16, 6] rfl (by decide +kernel)) ggX11_joint_X11_isIn
set_option maxRecDepth 20000 in
theorem ggX11_joint_X11_layAll : GoodIn wsX11_joint wsX11_layAll := goodIn_r _ [40, 41, 42, 43, 6, 44, 45, 46, 47, 48, 49, 50, 51, 52, 53, 54, 22, 23, 24, 25, 26, 27, 14, 33, 34, 35, 36, 18, 19, 20, 21, 8, 1, 2, 28, 29, 30, 31, 32, 55, 56, 57, 58, 59, 60, 61, 62, 63, 64, 65, 66, 67, 68, 69, 70, 71, 72, 73, 74, 75, 76, 77, 78, 95, 96, 97, 98, 99, 100, 101, 102, 103, 104, 105, 106, 107, 108, 109, 110, 111, 112, 113, 114, 115, 116, 117, 118, 119, 120, 121, 122, 123, 124, 125, 126, 127, 128, 129, 130, 131, 132, 133, 134, 135, 136, 137, 138, 139, 140, 141, 142, 143, 144, 145, 146, 147, 148, 149, 150, 151, 152, 153, 154, 155, 156, 157, 158, 159, 160, 161, 162, 163] rfl (by decide +kernel)
set_option maxRecDepth 20000 in
theorem gX11_joint_X11_layAll : GoodIn wsX11_joint (wsV RX11 355 RX11 yX11_layAll wsX11_layAll) := goodIn_app (goodIn_r _ [37, 38, 39, 6] rfl (by decide +kernel)) ggX11_joint_X11_layAll
set_option maxRecDepth 20000 in
theorem ggX11_joint_X11_canOf : GoodIn wsX11_joint wsX11_canOf := goodIn_r _ [82, 1, 2, 83, 14, 52, 84, 45, 33, 34, 35, 6, 36, 95, 96, 97, 98, 99, 100, 101, 102, 103, 104, 105, 106, 107, 108, 109, 110, 111, 112, 113, 114, 115, 116, 117, 118, 119, 120, 121, 122, 123, 124, 125, 126, 127, 128, 129, 130, 131, 132, 133, 134, 135, 136, 137, 138, 139, 140, 141, 142, 143, 144, 145, 146, 147, 148, 149, 150, 151, 152, 153, 154, 155, 156, 157, 158, 159, 160, 161, 162, 163] rfl (by decide +kernel)
set_option maxRecDepth 20000 in
theorem gX11_joint_X11_canOf : GoodIn wsX11_joint (wsV RX11 329 RX11 yX11_canOf wsX11_canOf) := goodIn_app (goodIn_r _ [79, 80, 81, 6] rfl (by decide +kernel)) ggX11_joint_X11_canOf
set_option maxRecDepth 20000 in
theorem ggX11_joint_X11_isBeyond : GoodIn wsX11_joint wsX11_isBeyond := goodIn_r _ [88, 89, 90, 91, 92, 93, 6, 94, 2, 59, 1, 66, 60, 67, 65, 72, 73, 74, 79, 80, 81, 82, 83, 14, 52, 84, 45, 33, 34, 35, 36, 95, 96, 97, 98, 99, 100, 101, 102, 103, 104, 105, 106, 107, 108, 109, 110, 111, 112, 113, 114, 115, 116, 117, 118, 119, 120, 121, 122, 123, 124, 125, 126, 127, 128, 129, 130, 131, 132, 133, 134, 135, 136, 137, 138, 139, 140, 141, 142, 143, 144, 145, 146, 147, 148, 149, 150, 151, 152, 153, 154, 155, 156, 157, 158, 159, 160, 161, 162, 163] rfl (by decide +kernel)
set_option maxRecDepth 20000 in
theorem gX11_joint_X11_isBeyond : GoodIn wsX11_joint (wsV RX11 358 RX11 yX11_isBeyond wsX11_isBeyond) := goodIn_app (goodIn_r _ [85, 86, 87, 6] rfl (by decide +kernel)) ggX11_joint_X11_isBeyond
set_option maxRecDepth 20000 in
theorem ggX11_bears_X11_joints : GoodIn wsX11_bears wsX11_joints := goodIn_r _ [8, 9, 10, 11, 12, 7, 13, 14, 15, 16, 17, 18, 19, 20, 21, 22, 23, 24, 25, 26, 27, 28, 29, 30, 31, 32, 33, 34, 35, 36, 37, 38, 39, 89, 90, 91, 92, 93, 94, 95, 96, 97, 98, 99, 100, 101, 102, 103, 104, 105, 106, 107, 108, 109, 110, 111, 112, 113, 114, 115, 116, 117, 118, 119, 120, 121, 122, 123, 124, 125, 126, 127, 128, 129, 130, 131, 132, 133, 134, 135, 136, 137, 138, 139, 140, 141, 142, 143, 144, 145, 146, 147, 148, 149, 150, 151, 152, 153, 154, 155, 156, 157] rfl (by decide +kernel)
set_option maxRecDepth 20000 in
theorem gX11_bears_X11_joints : GoodIn wsX11_bears (wsV RX11 352 RX11 yX11_joints wsX11_joints) := goodIn_app (goodIn_r _ [4, 5, 6, 7] rfl (by decide +kernel)) ggX11_bears_X11_joints

set_option maxRecDepth 20000 in
theorem ggX11_weak_X11_layJoints : GoodIn wsX11_weak wsX11_layJoints := goodIn_r _ [31, 32, 18, 33, 34, 19, 20, 21, 6, 22, 23, 2, 35, 36, 37, 38, 39, 24, 25, 26, 27, 88, 89, 90, 91, 92, 93, 94, 95, 96, 97, 98, 99, 100, 101, 102, 103, 104, 105, 106, 107, 108, 109, 110, 111, 112, 113, 114, 115, 116, 117, 118, 119, 120, 121, 122, 123, 124, 125, 126, 127, 128, 129, 130, 131, 132, 133, 134, 135, 136, 137, 138, 139, 140, 141, 142, 143, 144, 145, 146, 147, 148, 149, 150, 151, 152, 153, 154, 155, 156] rfl (by decide +kernel)
set_option maxRecDepth 20000 in
theorem gX11_weak_X11_layJoints : GoodIn wsX11_weak (wsV RX11 343 RX11 yX11_layJoints wsX11_layJoints) := goodIn_app (goodIn_r _ [28, 29, 30, 6] rfl (by decide +kernel)) ggX11_weak_X11_layJoints
set_option maxRecDepth 20000 in
theorem ggX11_weak_X11_reckon : GoodIn wsX11_weak wsX11_reckon := goodIn_r _ [43, 9, 44, 45, 46, 2, 47, 48, 12, 11, 49, 50, 14, 15, 51, 52, 35, 36, 37, 6, 38, 39, 53, 54, 55, 56, 57, 58, 59, 60, 61, 62, 63, 17, 88, 89, 90, 91, 92, 93, 94, 95, 96, 97, 98, 99, 100, 101, 102, 103, 104, 105, 106, 107, 108, 109, 110, 111, 112, 113, 114, 115, 116, 117, 118, 119, 120, 121, 122, 123, 124, 125, 126, 127, 128, 129, 130, 131, 132, 133, 134, 135, 136, 137, 138, 139, 140, 141, 142, 143, 144, 145, 146, 147, 148, 149, 150, 151, 152, 153, 154, 155, 156] rfl (by decide +kernel)
set_option maxRecDepth 20000 in
theorem gX11_weak_X11_reckon : GoodIn wsX11_weak (wsV RX11 346 RX11 yX11_reckon wsX11_reckon) := goodIn_app (goodIn_r _ [40, 41, 42, 6] rfl (by decide +kernel)) ggX11_weak_X11_reckon
set_option maxRecDepth 20000 in
theorem ggX11_weak_X11_beyondMany : GoodIn wsX11_weak wsX11_beyondMany := goodIn_r _ [67, 32, 68, 69, 70, 6, 71, 34, 14, 33, 60, 61, 62, 63, 17, 72, 73, 74, 75, 76, 77, 78, 79, 80, 81, 44, 51, 45, 52, 50, 57, 58, 59, 82, 83, 84, 85, 86, 2, 15, 87, 8, 24, 25, 26, 27, 88, 89, 90, 91, 92, 93, 94, 95, 96, 97, 98, 99, 100, 101, 102, 103, 104, 105, 106, 107, 108, 109, 110, 111, 112, 113, 114, 115, 116, 117, 118, 119, 120, 121, 122, 123, 124, 125, 126, 127, 128, 129, 130, 131, 132, 133, 134, 135, 136, 137, 138, 139, 140, 141, 142, 143, 144, 145, 146, 147, 148, 149, 150, 151, 152, 153, 154, 155, 156] rfl (by decide +kernel)
set_option maxRecDepth 20000 in
theorem gX11_weak_X11_beyondMany : GoodIn wsX11_weak (wsV RX11 366 RX11 yX11_beyondMany wsX11_beyondMany) := goodIn_app (goodIn_r _ [64, 65, 66, 6] rfl (by decide +kernel)) ggX11_weak_X11_beyondMany
set_option maxRecDepth 20000 in
theorem ggX11_floors_X11_isDrawing : GoodIn wsX11_floors wsX11_isDrawing := goodIn_r _ [6, 7, 8, 9, 10, 5, 11, 31, 32, 33, 34, 35, 36, 37, 38, 39, 40, 41, 42, 43, 44, 45, 46, 47, 48, 49, 50, 51, 52, 53, 54, 55, 56, 57, 58, 59, 60, 61, 62, 63, 64, 65, 66, 67, 68, 69, 70, 71, 72, 73, 74, 75, 76, 77, 78, 79, 80, 81, 82, 83, 84, 85, 86, 87, 88, 89, 90, 91, 92, 93, 94, 95, 96, 97, 98, 99] rfl (by decide +kernel)
set_option maxRecDepth 20000 in
theorem gX11_floors_X11_isDrawing : GoodIn wsX11_floors (wsV RX11 349 RX11 yX11_isDrawing wsX11_isDrawing) := goodIn_app (goodIn_r _ [2, 3, 4, 5] rfl (by decide +kernel)) ggX11_floors_X11_isDrawing
set_option maxRecDepth 20000 in
theorem ggX11_floors_X11_isIn : GoodIn wsX11_floors wsX11_isIn := goodIn_r _ [11] rfl (by decide +kernel)
set_option maxRecDepth 20000 in
theorem gX11_floors_X11_isIn : GoodIn wsX11_floors (va_wsS RX11 274 yX11_isIn wsX11_isIn) := goodIn_app (goodIn_r _ [9, 10, 5] rfl (by decide +kernel)) ggX11_floors_X11_isIn
set_option maxRecDepth 20000 in
theorem ggX11_floors_X11_openOf : GoodIn wsX11_floors wsX11_openOf := goodIn_r _ [15, 16, 17, 18, 19, 5, 20, 21, 8, 22, 23, 24, 25, 26, 27, 28, 29, 30, 31, 32, 33, 34, 35, 36, 37, 38, 39, 40, 41, 42, 43, 44, 45, 46, 47, 48, 49, 50, 51, 52, 53, 54, 55, 56, 57, 58, 59, 60, 61, 62, 63, 64, 65, 66, 67, 68, 69, 70, 71, 72, 73, 74, 75, 76, 77, 78, 79, 80, 81, 82, 83, 84, 85, 86, 87, 88, 89, 90, 91, 92, 93, 94, 95, 96, 97, 98, 99] rfl (by decide +kernel)
set_option maxRecDepth 20000 in
theorem gX11_floors_X11_openOf : GoodIn wsX11_floors (wsV RX11 375 RX11 yX11_openOf wsX11_openOf) := goodIn_app (goodIn_r _ [12, 13, 14, 5] rfl (by decide +kernel)) ggX11_floors_X11_openOf
set_option maxRecDepth 20000 in
theorem ggX11_floors_X11_rodMany : GoodIn wsX11_floors wsX11_rodMany := goodIn_r _ [20, 21, 8, 31, 32, 33, 34, 35, 36, 37, 38, 39, 40, 41, 42, 43, 44, 45, 46, 47, 48, 49, 50, 51, 52, 53, 54, 55, 56, 57, 58, 59, 60, 61, 62, 63, 64, 65, 66, 67, 68, 69, 70, 71, 72, 73, 74, 75, 76, 77, 78, 79, 80, 81, 82, 83, 84, 85, 86, 87, 88, 89, 90, 91, 92, 93, 94, 95, 96, 97, 98, 99] rfl (by decide +kernel)
set_option maxRecDepth 20000 in
theorem gX11_floors_X11_rodMany : GoodIn wsX11_floors (wsV RX11 294 RX11 yX11_rodMany wsX11_rodMany) := goodIn_app (goodIn_r _ [17, 18, 19, 5] rfl (by decide +kernel)) ggX11_floors_X11_rodMany
set_option maxRecDepth 20000 in
theorem ggX11_floors_X11_rodNo : GoodIn wsX11_floors wsX11_rodNo := goodIn_r _ [25, 8, 31, 32, 33, 34, 35, 36, 37, 38, 39, 40, 41, 42, 43, 44, 45, 46, 47, 48, 49, 50, 51, 52, 53, 54, 55, 56, 57, 58, 59, 60, 61, 62, 63, 64, 65, 66, 67, 68, 69, 70, 71, 72, 73, 74, 75, 76, 77, 78, 79, 80, 81, 82, 83, 84, 85, 86, 87, 88, 89, 90, 91, 92, 93, 94, 95, 96, 97, 98, 99] rfl (by decide +kernel)
set_option maxRecDepth 20000 in
theorem gX11_floors_X11_rodNo : GoodIn wsX11_floors (wsV RX11 303 RX11 yX11_rodNo wsX11_rodNo) := goodIn_app (goodIn_r _ [22, 23, 24, 5] rfl (by decide +kernel)) ggX11_floors_X11_rodNo
set_option maxRecDepth 20000 in
theorem ggX11_mend_X11_isDrawing : GoodIn wsX11_mend wsX11_isDrawing := goodIn_r _ [8, 9, 10, 11, 12, 7, 13, 98, 99, 100, 101, 102, 103, 104, 105, 106, 107, 108, 109, 110, 111, 112, 113, 114, 115, 116, 117, 118, 119, 120, 121, 122, 123, 124, 125, 126, 127, 128, 129, 130, 131, 132, 133, 134, 135, 136, 137, 138, 139, 140, 141, 142, 143, 144, 145, 146, 147, 148, 149, 150, 151, 152, 153, 154, 155, 156, 157, 158, 159, 160, 161, 162, 163, 164, 165, 166] rfl (by decide +kernel)
set_option maxRecDepth 20000 in
theorem gX11_mend_X11_isDrawing : GoodIn wsX11_mend (wsV RX11 349 RX11 yX11_isDrawing wsX11_isDrawing) := goodIn_app (goodIn_r _ [4, 5, 6, 7] rfl (by decide +kernel)) ggX11_mend_X11_isDrawing
set_option maxRecDepth 20000 in
theorem ggX11_mend_X11_isIn : GoodIn wsX11_mend wsX11_isIn := goodIn_r _ [13] rfl (by decide +kernel)
set_option maxRecDepth 20000 in
theorem gX11_mend_X11_isIn : GoodIn wsX11_mend (va_wsS RX11 274 yX11_isIn wsX11_isIn) := goodIn_app (goodIn_r _ [11, 12, 7] rfl (by decide +kernel)) ggX11_mend_X11_isIn
set_option maxRecDepth 20000 in
theorem ggX11_mend_X11_rodMany : GoodIn wsX11_mend wsX11_rodMany := goodIn_r _ [17, 18, 10, 98, 99, 100, 101, 102, 103, 104, 105, 106, 107, 108, 109, 110, 111, 112, 113, 114, 115, 116, 117, 118, 119, 120, 121, 122, 123, 124, 125, 126, 127, 128, 129, 130, 131, 132, 133, 134, 135, 136, 137, 138, 139, 140, 141, 142, 143, 144, 145, 146, 147, 148, 149, 150, 151, 152, 153, 154, 155, 156, 157, 158, 159, 160, 161, 162, 163, 164, 165, 166] rfl (by decide +kernel)
set_option maxRecDepth 20000 in
theorem gX11_mend_X11_rodMany : GoodIn wsX11_mend (wsV RX11 294 RX11 yX11_rodMany wsX11_rodMany) := goodIn_app (goodIn_r _ [14, 15, 16, 7] rfl (by decide +kernel)) ggX11_mend_X11_rodMany
set_option maxRecDepth 20000 in
theorem ggX11_mend_X11_rodNo : GoodIn wsX11_mend wsX11_rodNo := goodIn_r _ [22, 10, 98, 99, 100, 101, 102, 103, 104, 105, 106, 107, 108, 109, 110, 111, 112, 113, 114, 115, 116, 117, 118, 119, 120, 121, 122, 123, 124, 125, 126, 127, 128, 129, 130, 131, 132, 133, 134, 135, 136, 137, 138, 139, 140, 141, 142, 143, 144, 145, 146, 147, 148, 149, 150, 151, 152, 153, 154, 155, 156, 157, 158, 159, 160, 161, 162, 163, 164, 165, 166] rfl (by decide +kernel)
set_option maxRecDepth 20000 in
theorem gX11_mend_X11_rodNo : GoodIn wsX11_mend (wsV RX11 303 RX11 yX11_rodNo wsX11_rodNo) := goodIn_app (goodIn_r _ [19, 20, 21, 7] rfl (by decide +kernel)) ggX11_mend_X11_rodNo
set_option maxRecDepth 20000 in
theorem ggX11_mend_X11_bitsOf : GoodIn wsX11_mend wsX11_bitsOf := goodIn_r _ [25] rfl (by decide +kernel)
set_option maxRecDepth 20000 in
theorem gX11_mend_X11_bitsOf : GoodIn wsX11_mend (va_wsS RX11 389 yX11_bitsOf wsX11_bitsOf) := goodIn_app (goodIn_r _ [23, 24, 7] rfl (by decide +kernel)) ggX11_mend_X11_bitsOf
set_option maxRecDepth 20000 in
theorem ggX11_mend_X11_lay : GoodIn wsX11_mend wsX11_lay := goodIn_r _ [29, 30, 2, 31, 32, 33, 34, 35, 3, 1, 36, 37, 14, 15, 16, 7, 17, 18, 10, 19, 20, 21, 22, 98, 99, 100, 101, 102, 103, 104, 105, 106, 107, 108, 109, 110, 111, 112, 113, 114, 115, 116, 117, 118, 119, 120, 121, 122, 123, 124, 125, 126, 127, 128, 129, 130, 131, 132, 133, 134, 135, 136, 137, 138, 139, 140, 141, 142, 143, 144, 145, 146, 147, 148, 149, 150, 151, 152, 153, 154, 155, 156, 157, 158, 159, 160, 161, 162, 163, 164, 165, 166] rfl (by decide +kernel)
set_option maxRecDepth 20000 in
theorem gX11_mend_X11_lay : GoodIn wsX11_mend (wsV RX11 339 RX11 yX11_lay wsX11_lay) := goodIn_app (goodIn_r _ [26, 27, 28, 7] rfl (by decide +kernel)) ggX11_mend_X11_lay
set_option maxRecDepth 20000 in
theorem ggX11_mend_X11_layJoints : GoodIn wsX11_mend wsX11_layJoints := goodIn_r _ [41, 42, 37, 43, 44, 14, 15, 16, 7, 17, 18, 10, 45, 46, 47, 48, 49, 19, 20, 21, 22, 98, 99, 100, 101, 102, 103, 104, 105, 106, 107, 108, 109, 110, 111, 112, 113, 114, 115, 116, 117, 118, 119, 120, 121, 122, 123, 124, 125, 126, 127, 128, 129, 130, 131, 132, 133, 134, 135, 136, 137, 138, 139, 140, 141, 142, 143, 144, 145, 146, 147, 148, 149, 150, 151, 152, 153, 154, 155, 156, 157, 158, 159, 160, 161, 162, 163, 164, 165, 166] rfl (by decide +kernel)
set_option maxRecDepth 20000 in
theorem gX11_mend_X11_layJoints : GoodIn wsX11_mend (wsV RX11 343 RX11 yX11_layJoints wsX11_layJoints) := goodIn_app (goodIn_r _ [38, 39, 40, 7] rfl (by decide +kernel)) ggX11_mend_X11_layJoints
set_option maxRecDepth 20000 in
theorem ggX11_mend_X11_reckon : GoodIn wsX11_mend wsX11_reckon := goodIn_r _ [53, 2, 54, 55, 56, 10, 57, 58, 33, 32, 59, 60, 35, 3, 61, 62, 45, 46, 47, 7, 48, 49, 63, 64, 65, 66, 67, 68, 69, 70, 71, 72, 73, 36, 98, 99, 100, 101, 102, 103, 104, 105, 106, 107, 108, 109, 110, 111, 112, 113, 114, 115, 116, 117, 118, 119, 120, 121, 122, 123, 124, 125, 126, 127, 128, 129, 130, 131, 132, 133, 134, 135, 136, 137, 138, 139, 140, 141, 142, 143, 144, 145, 146, 147, 148, 149, 150, 151, 152, 153, 154, 155, 156, 157, 158, 159, 160, 161, 162, 163, 164, 165, 166] rfl (by decide +kernel)
set_option maxRecDepth 20000 in
theorem gX11_mend_X11_reckon : GoodIn wsX11_mend (wsV RX11 346 RX11 yX11_reckon wsX11_reckon) := goodIn_app (goodIn_r _ [50, 51, 52, 7] rfl (by decide +kernel)) ggX11_mend_X11_reckon
set_option maxRecDepth 20000 in
theorem ggX11_mend_X11_beyondMany : GoodIn wsX11_mend wsX11_beyondMany := goodIn_r _ [77, 42, 78, 79, 80, 7, 81, 44, 35, 43, 70, 71, 72, 73, 36, 82, 83, 84, 85, 86, 87, 88, 89, 90, 91, 54, 61, 55, 62, 60, 67, 68, 69, 92, 93, 94, 95, 96, 10, 3, 97, 30, 19, 20, 21, 22, 98, 99, 100, 101, 102, 103, 104, 105, 106, 107, 108, 109, 110, 111, 112, 113, 114, 115, 116, 117, 118, 119, 120, 121, 122, 123, 124, 125, 126, 127, 128, 129, 130, 131, 132, 133, 134, 135, 136, 137, 138, 139, 140, 141, 142, 143, 144, 145, 146, 147, 148, 149, 150, 151, 152, 153, 154, 155, 156, 157, 158, 159, 160, 161, 162, 163, 164, 165, 166] rfl (by decide +kernel)
set_option maxRecDepth 20000 in
theorem gX11_mend_X11_beyondMany : GoodIn wsX11_mend (wsV RX11 366 RX11 yX11_beyondMany wsX11_beyondMany) := goodIn_app (goodIn_r _ [74, 75, 76, 7] rfl (by decide +kernel)) ggX11_mend_X11_beyondMany
set_option maxRecDepth 20000 in
theorem ggX11_weightOf_X11_floorMany : GoodIn wsX11_weightOf wsX11_floorMany := goodIn_r _ [8, 9, 3, 13, 14, 15, 16, 17, 18, 19, 20, 21, 22, 23, 24, 25, 26, 27, 28, 29, 30, 31, 32, 33, 34, 35, 36, 37, 38, 39, 40, 41, 42, 43, 44, 45, 46, 47, 48, 49, 50, 51, 52, 53, 54, 55, 56, 57, 58, 59, 60, 61, 62, 63, 64, 65, 66, 67, 68, 69, 70, 71, 72, 73, 74, 75, 76, 77, 78, 79, 80, 81] rfl (by decide +kernel)
set_option maxRecDepth 20000 in
theorem gX11_weightOf_X11_floorMany : GoodIn wsX11_weightOf (wsV RX11 270 RX11 yX11_floorMany wsX11_floorMany) := goodIn_app (goodIn_r _ [4, 5, 6, 7] rfl (by decide +kernel)) ggX11_weightOf_X11_floorMany
set_option maxRecDepth 20000 in
theorem ggX11_weightOf_X11_ways : GoodIn wsX11_weightOf wsX11_ways := goodIn_r _ [12] rfl (by decide +kernel)
set_option maxRecDepth 20000 in
theorem gX11_weightOf_X11_ways : GoodIn wsX11_weightOf (va_wsS RX11 392 yX11_ways wsX11_ways) := goodIn_app (goodIn_r _ [10, 11, 7] rfl (by decide +kernel)) ggX11_weightOf_X11_ways
set_option maxRecDepth 20000 in
theorem ggX11_nextStand_X11_floorMany : GoodIn wsX11_nextStand wsX11_floorMany := goodIn_r _ [6, 7, 8, 9, 10, 11, 12, 13, 14, 15, 16, 17, 18, 19, 20, 21, 22, 23, 24, 25, 26, 27, 28, 29, 30, 31, 32, 33, 34, 35, 36, 37, 38, 39, 40, 41, 42, 43, 44, 45, 46, 47, 48, 49, 50, 51, 52, 53, 54, 55, 56, 57, 58, 59, 60, 61, 62, 63, 64, 65, 66, 67, 68, 69, 70, 71, 72, 73, 74, 75, 76, 77] rfl (by decide +kernel)
set_option maxRecDepth 20000 in
theorem gX11_nextStand_X11_floorMany : GoodIn wsX11_nextStand (wsV RX11 270 RX11 yX11_floorMany wsX11_floorMany) := goodIn_app (goodIn_r _ [2, 3, 4, 5] rfl (by decide +kernel)) ggX11_nextStand_X11_floorMany
set_option maxRecDepth 20000 in
theorem ggX11_odds_X11_isDrawing : GoodIn wsX11_odds wsX11_isDrawing := goodIn_r _ [10, 11, 3, 12, 13, 9, 14, 111, 112, 113, 114, 115, 116, 117, 118, 119, 120, 121, 122, 123, 124, 125, 126, 127, 128, 129, 130, 131, 132, 133, 134, 135, 136, 137, 138, 139, 140, 141, 142, 143, 144, 145, 146, 147, 148, 149, 150, 151, 152, 153, 154, 155, 156, 157, 158, 159, 160, 161, 162, 163, 164, 165, 166, 167, 168, 169, 170, 171, 172, 173, 174, 175, 176, 177, 178, 179] rfl (by decide +kernel)
set_option maxRecDepth 20000 in
theorem gX11_odds_X11_isDrawing : GoodIn wsX11_odds (wsV RX11 349 RX11 yX11_isDrawing wsX11_isDrawing) := goodIn_app (goodIn_r _ [6, 7, 8, 9] rfl (by decide +kernel)) ggX11_odds_X11_isDrawing
set_option maxRecDepth 20000 in
theorem ggX11_odds_X11_isIn : GoodIn wsX11_odds wsX11_isIn := goodIn_r _ [14] rfl (by decide +kernel)
set_option maxRecDepth 20000 in
theorem gX11_odds_X11_isIn : GoodIn wsX11_odds (va_wsS RX11 274 yX11_isIn wsX11_isIn) := goodIn_app (goodIn_r _ [12, 13, 9] rfl (by decide +kernel)) ggX11_odds_X11_isIn
set_option maxRecDepth 20000 in
theorem ggX11_odds_X11_isPart : GoodIn wsX11_odds wsX11_isPart := goodIn_r _ [17, 12, 13, 9, 14] rfl (by decide +kernel)
set_option maxRecDepth 20000 in
theorem gX11_odds_X11_isPart : GoodIn wsX11_odds (va_wsS RX11 361 yX11_isPart wsX11_isPart) := goodIn_app (goodIn_r _ [15, 16, 9] rfl (by decide +kernel)) ggX11_odds_X11_isPart
set_option maxRecDepth 20000 in
theorem ggX11_odds_X11_floorMany : GoodIn wsX11_odds wsX11_floorMany := goodIn_r _ [21, 22, 3, 111, 112, 113, 114, 115, 116, 117, 118, 119, 120, 121, 122, 123, 124, 125, 126, 127, 128, 129, 130, 131, 132, 133, 134, 135, 136, 137, 138, 139, 140, 141, 142, 143, 144, 145, 146, 147, 148, 149, 150, 151, 152, 153, 154, 155, 156, 157, 158, 159, 160, 161, 162, 163, 164, 165, 166, 167, 168, 169, 170, 171, 172, 173, 174, 175, 176, 177, 178, 179] rfl (by decide +kernel)
set_option maxRecDepth 20000 in
theorem gX11_odds_X11_floorMany : GoodIn wsX11_odds (wsV RX11 270 RX11 yX11_floorMany wsX11_floorMany) := goodIn_app (goodIn_r _ [18, 19, 20, 9] rfl (by decide +kernel)) ggX11_odds_X11_floorMany
set_option maxRecDepth 20000 in
theorem ggX11_odds_X11_lay : GoodIn wsX11_odds wsX11_lay := goodIn_r _ [26, 27, 28, 29, 4, 5, 30, 31, 32, 33, 34, 35, 36, 37, 38, 9, 39, 40, 3, 41, 42, 43, 44, 111, 112, 113, 114, 115, 116, 117, 118, 119, 120, 121, 122, 123, 124, 125, 126, 127, 128, 129, 130, 131, 132, 133, 134, 135, 136, 137, 138, 139, 140, 141, 142, 143, 144, 145, 146, 147, 148, 149, 150, 151, 152, 153, 154, 155, 156, 157, 158, 159, 160, 161, 162, 163, 164, 165, 166, 167, 168, 169, 170, 171, 172, 173, 174, 175, 176, 177, 178, 179] rfl (by decide +kernel)
set_option maxRecDepth 20000 in
theorem gX11_odds_X11_lay : GoodIn wsX11_odds (wsV RX11 339 RX11 yX11_lay wsX11_lay) := goodIn_app (goodIn_r _ [23, 24, 25, 9] rfl (by decide +kernel)) ggX11_odds_X11_lay
set_option maxRecDepth 20000 in
theorem ggX11_odds_X11_layJoints : GoodIn wsX11_odds wsX11_layJoints := goodIn_r _ [48, 49, 35, 50, 51, 36, 37, 38, 9, 39, 40, 3, 18, 19, 20, 21, 22, 41, 42, 43, 44, 111, 112, 113, 114, 115, 116, 117, 118, 119, 120, 121, 122, 123, 124, 125, 126, 127, 128, 129, 130, 131, 132, 133, 134, 135, 136, 137, 138, 139, 140, 141, 142, 143, 144, 145, 146, 147, 148, 149, 150, 151, 152, 153, 154, 155, 156, 157, 158, 159, 160, 161, 162, 163, 164, 165, 166, 167, 168, 169, 170, 171, 172, 173, 174, 175, 176, 177, 178, 179] rfl (by decide +kernel)
set_option maxRecDepth 20000 in
theorem gX11_odds_X11_layJoints : GoodIn wsX11_odds (wsV RX11 343 RX11 yX11_layJoints wsX11_layJoints) := goodIn_app (goodIn_r _ [45, 46, 47, 9] rfl (by decide +kernel)) ggX11_odds_X11_layJoints
set_option maxRecDepth 20000 in
theorem ggX11_odds_X11_weightOf : GoodIn wsX11_odds wsX11_weightOf := goodIn_r _ [55, 5, 2, 3, 18, 19, 20, 9, 21, 22, 56, 57, 58, 111, 112, 113, 114, 115, 116, 117, 118, 119, 120, 121, 122, 123, 124, 125, 126, 127, 128, 129, 130, 131, 132, 133, 134, 135, 136, 137, 138, 139, 140, 141, 142, 143, 144, 145, 146, 147, 148, 149, 150, 151, 152, 153, 154, 155, 156, 157, 158, 159, 160, 161, 162, 163, 164, 165, 166, 167, 168, 169, 170, 171, 172, 173, 174, 175, 176, 177, 178, 179] rfl (by decide +kernel)
set_option maxRecDepth 20000 in
theorem gX11_odds_X11_weightOf : GoodIn wsX11_odds (wsV RX11 396 RX11 yX11_weightOf wsX11_weightOf) := goodIn_app (goodIn_r _ [52, 53, 54, 9] rfl (by decide +kernel)) ggX11_odds_X11_weightOf
set_option maxRecDepth 20000 in
theorem ggX11_odds_X11_reckon : GoodIn wsX11_odds wsX11_reckon := goodIn_r _ [62, 28, 63, 64, 65, 3, 66, 67, 5, 4, 68, 69, 31, 32, 70, 71, 18, 19, 20, 9, 21, 22, 72, 73, 74, 75, 76, 77, 78, 79, 80, 81, 82, 34, 111, 112, 113, 114, 115, 116, 117, 118, 119, 120, 121, 122, 123, 124, 125, 126, 127, 128, 129, 130, 131, 132, 133, 134, 135, 136, 137, 138, 139, 140, 141, 142, 143, 144, 145, 146, 147, 148, 149, 150, 151, 152, 153, 154, 155, 156, 157, 158, 159, 160, 161, 162, 163, 164, 165, 166, 167, 168, 169, 170, 171, 172, 173, 174, 175, 176, 177, 178, 179] rfl (by decide +kernel)
set_option maxRecDepth 20000 in
theorem gX11_odds_X11_reckon : GoodIn wsX11_odds (wsV RX11 346 RX11 yX11_reckon wsX11_reckon) := goodIn_app (goodIn_r _ [59, 60, 61, 9] rfl (by decide +kernel)) ggX11_odds_X11_reckon
set_option maxRecDepth 20000 in
theorem ggX11_odds_X11_beyondMany : GoodIn wsX11_odds wsX11_beyondMany := goodIn_r _ [86, 49, 87, 88, 89, 9, 90, 51, 31, 50, 79, 80, 81, 82, 34, 91, 92, 93, 94, 95, 96, 97, 98, 99, 100, 63, 70, 64, 71, 69, 76, 77, 78, 101, 102, 103, 104, 105, 3, 32, 106, 27, 41, 42, 43, 44, 111, 112, 113, 114, 115, 116, 117, 118, 119, 120, 121, 122, 123, 124, 125, 126, 127, 128, 129, 130, 131, 132, 133, 134, 135, 136, 137, 138, 139, 140, 141, 142, 143, 144, 145, 146, 147, 148, 149, 150, 151, 152, 153, 154, 155, 156, 157, 158, 159, 160, 161, 162, 163, 164, 165, 166, 167, 168, 169, 170, 171, 172, 173, 174, 175, 176, 177, 178, 179] rfl (by decide +kernel)
set_option maxRecDepth 20000 in
theorem gX11_odds_X11_beyondMany : GoodIn wsX11_odds (wsV RX11 366 RX11 yX11_beyondMany wsX11_beyondMany) := goodIn_app (goodIn_r _ [83, 84, 85, 9] rfl (by decide +kernel)) ggX11_odds_X11_beyondMany
set_option maxRecDepth 20000 in
theorem ggX11_odds_X11_nextStand : GoodIn wsX11_odds wsX11_nextStand := goodIn_r _ [110, 5, 18, 19, 20, 9, 21, 22, 3, 111, 112, 113, 114, 115, 116, 117, 118, 119, 120, 121, 122, 123, 124, 125, 126, 127, 128, 129, 130, 131, 132, 133, 134, 135, 136, 137, 138, 139, 140, 141, 142, 143, 144, 145, 146, 147, 148, 149, 150, 151, 152, 153, 154, 155, 156, 157, 158, 159, 160, 161, 162, 163, 164, 165, 166, 167, 168, 169, 170, 171, 172, 173, 174, 175, 176, 177, 178, 179] rfl (by decide +kernel)
set_option maxRecDepth 20000 in
theorem gX11_odds_X11_nextStand : GoodIn wsX11_odds (wsV RX11 399 RX11 yX11_nextStand wsX11_nextStand) := goodIn_app (goodIn_r _ [107, 108, 109, 9] rfl (by decide +kernel)) ggX11_odds_X11_nextStand
set_option maxRecDepth 20000 in
theorem ggX11_odds_X11_common : GoodIn wsX11_odds wsX11_common := goodIn_r _ [78] rfl (by decide +kernel)
set_option maxRecDepth 20000 in
theorem gX11_odds_X11_common : GoodIn wsX11_odds (va_wsS RX11 284 yX11_common wsX11_common) := goodIn_app (goodIn_r _ [76, 77, 9] rfl (by decide +kernel)) ggX11_odds_X11_common
set_option maxRecDepth 20000 in
theorem ggX11_paper_X11_isIn : GoodIn wsX11_paper wsX11_isIn := goodIn_r _ [14] rfl (by decide +kernel)
set_option maxRecDepth 20000 in
theorem gX11_paper_X11_isIn : GoodIn wsX11_paper (va_wsS RX11 274 yX11_isIn wsX11_isIn) := goodIn_app (goodIn_r _ [11, 12, 13] rfl (by decide +kernel)) ggX11_paper_X11_isIn
set_option maxRecDepth 20000 in
theorem ggX11_paper_X11_isDrawing : GoodIn wsX11_paper wsX11_isDrawing := goodIn_r _ [18, 19, 20, 11, 12, 13, 14, 21, 22, 23, 24, 25, 26, 27, 28, 29, 30, 31, 32, 33, 34, 35, 36, 37, 38, 39, 40, 41, 42, 43, 44, 45, 46, 47, 48, 49, 50, 51, 52, 53, 54, 55, 56, 57, 58, 59, 60, 61, 62, 63, 64, 65, 66, 67, 68, 69, 70, 71, 72, 73, 74, 75, 76, 77, 78, 79, 80, 81, 82, 83, 84, 85, 86, 87, 88, 89] rfl (by decide +kernel)
set_option maxRecDepth 20000 in
theorem gX11_paper_X11_isDrawing : GoodIn wsX11_paper (wsV RX11 349 RX11 yX11_isDrawing wsX11_isDrawing) := goodIn_app (goodIn_r _ [15, 16, 17, 13] rfl (by decide +kernel)) ggX11_paper_X11_isDrawing
set_option maxRecDepth 20000 in
theorem ggX11_untell_X11_isIn : GoodIn wsX11_untell wsX11_isIn := goodIn_r _ [7] rfl (by decide +kernel)
set_option maxRecDepth 20000 in
theorem gX11_untell_X11_isIn : GoodIn wsX11_untell (va_wsS RX11 274 yX11_isIn wsX11_isIn) := goodIn_app (goodIn_r _ [4, 5, 6] rfl (by decide +kernel)) ggX11_untell_X11_isIn
set_option maxRecDepth 20000 in
theorem ggX11_later_X11_isIn : GoodIn wsX11_later wsX11_isIn := goodIn_r _ [6] rfl (by decide +kernel)
set_option maxRecDepth 20000 in
theorem gX11_later_X11_isIn : GoodIn wsX11_later (va_wsS RX11 274 yX11_isIn wsX11_isIn) := goodIn_app (goodIn_r _ [3, 4, 5] rfl (by decide +kernel)) ggX11_later_X11_isIn
set_option maxRecDepth 20000 in
theorem ggX11_spentBy_X11_counts : GoodIn wsX11_spentBy wsX11_counts := goodIn_r _ [10, 11, 12, 13, 14, 15, 16, 17, 18, 19, 20, 21, 22, 23, 24, 25, 26, 27, 28, 29, 30, 31, 32, 33, 34, 35, 36, 37, 38, 39, 40, 41, 42, 43, 44, 45, 46, 47, 48, 49, 50, 51, 52, 53, 54, 55, 56, 57, 58, 59, 60, 61, 62, 63, 64, 65, 66, 67, 68, 69, 70, 71, 72, 73, 74, 75, 76, 77, 78, 79, 80, 81] rfl (by decide +kernel)
set_option maxRecDepth 20000 in
theorem gX11_spentBy_X11_counts : GoodIn wsX11_spentBy (wsV RX11 406 RX11 yX11_counts wsX11_counts) := goodIn_app (goodIn_r _ [6, 7, 8, 9] rfl (by decide +kernel)) ggX11_spentBy_X11_counts
set_option maxRecDepth 20000 in
theorem ggX11_spent_X11_isIn : GoodIn wsX11_spent wsX11_isIn := goodIn_r _ [4] rfl (by decide +kernel)
set_option maxRecDepth 20000 in
theorem gX11_spent_X11_isIn : GoodIn wsX11_spent (va_wsS RX11 274 yX11_isIn wsX11_isIn) := goodIn_app (goodIn_r _ [1, 2, 3] rfl (by decide +kernel)) ggX11_spent_X11_isIn
set_option maxRecDepth 20000 in
theorem ggX11_spent_X11_isDrawing : GoodIn wsX11_spent wsX11_isDrawing := goodIn_r _ [8, 9, 10, 1, 2, 3, 4, 26, 27, 28, 29, 30, 31, 32, 33, 34, 35, 36, 37, 38, 39, 40, 41, 42, 43, 44, 45, 46, 47, 48, 49, 50, 51, 52, 53, 54, 55, 56, 57, 58, 59, 60, 61, 62, 63, 64, 65, 66, 67, 68, 69, 70, 71, 72, 73, 74, 75, 76, 77, 78, 79, 80, 81, 82, 83, 84, 85, 86, 87, 88, 89, 90, 91, 92, 93, 94] rfl (by decide +kernel)
set_option maxRecDepth 20000 in
theorem gX11_spent_X11_isDrawing : GoodIn wsX11_spent (wsV RX11 349 RX11 yX11_isDrawing wsX11_isDrawing) := goodIn_app (goodIn_r _ [5, 6, 7, 3] rfl (by decide +kernel)) ggX11_spent_X11_isDrawing
set_option maxRecDepth 20000 in
theorem ggX11_spent_X11_spentBy : GoodIn wsX11_spent wsX11_spentBy := goodIn_r _ [14, 15, 16, 17, 18, 19, 20, 21, 22, 3, 23, 24, 25, 26, 27, 28, 29, 30, 31, 32, 33, 34, 35, 36, 37, 38, 39, 40, 41, 42, 43, 44, 45, 46, 47, 48, 49, 50, 51, 52, 53, 54, 55, 56, 57, 58, 59, 60, 61, 62, 63, 64, 65, 66, 67, 68, 69, 70, 71, 72, 73, 74, 75, 76, 77, 78, 79, 80, 81, 82, 83, 84, 85, 86, 87, 88, 89, 90, 91, 92, 93, 94] rfl (by decide +kernel)
set_option maxRecDepth 20000 in
theorem gX11_spent_X11_spentBy : GoodIn wsX11_spent (wsV RX11 409 RX11 yX11_spentBy wsX11_spentBy) := goodIn_app (goodIn_r _ [11, 12, 13, 3] rfl (by decide +kernel)) ggX11_spent_X11_spentBy
set_option maxRecDepth 20000 in
theorem ggX11_saw_X11_isDrawing : GoodIn wsX11_saw wsX11_isDrawing := goodIn_r _ [6, 7, 8, 9, 10, 5, 11, 118, 119, 120, 121, 122, 123, 124, 125, 126, 127, 128, 129, 130, 131, 132, 133, 134, 135, 136, 137, 138, 139, 140, 141, 142, 143, 144, 145, 146, 147, 148, 149, 150, 151, 152, 153, 154, 155, 156, 157, 158, 159, 160, 161, 162, 163, 164, 165, 166, 167, 168, 169, 170, 171, 172, 173, 174, 175, 176, 177, 178, 179, 180, 181, 182, 183, 184, 185, 186] rfl (by decide +kernel)
set_option maxRecDepth 20000 in
theorem gX11_saw_X11_isDrawing : GoodIn wsX11_saw (wsV RX11 349 RX11 yX11_isDrawing wsX11_isDrawing) := goodIn_app (goodIn_r _ [2, 3, 4, 5] rfl (by decide +kernel)) ggX11_saw_X11_isDrawing

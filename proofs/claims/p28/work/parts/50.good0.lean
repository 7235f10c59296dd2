set_option maxRecDepth 20000 in
theorem ggX11_bears_X11_isIn : GoodIn wsX11_bears wsX11_isIn := goodIn_r _ [18] rfl (by decide +kernel)
set_option maxRecDepth 20000 in
theorem gX11_bears_X11_isIn : GoodIn wsX11_bears (va_wsS RX11 274 yX11_isIn wsX11_isIn) := goodIn_app (goodIn_r _ [16, 17, 7] rfl (by decide +kernel)) ggX11_bears_X11_isIn
set_option maxRecDepth 20000 in
theorem ggX11_bears_X11_isPart : GoodIn wsX11_bears wsX11_isPart := goodIn_r _ [42, 16, 17, 7, 18] rfl (by decide +kernel)
set_option maxRecDepth 20000 in
theorem gX11_bears_X11_isPart : GoodIn wsX11_bears (va_wsS RX11 361 yX11_isPart wsX11_isPart) := goodIn_app (goodIn_r _ [40, 41, 7] rfl (by decide +kernel)) ggX11_bears_X11_isPart
set_option maxRecDepth 20000 in
theorem ggX11_bears_X11_layAll : GoodIn wsX11_bears wsX11_layAll := goodIn_r _ [46, 47, 48, 49, 7, 50, 51, 52, 53, 54, 55, 56, 57, 58, 59, 60, 23, 26, 27, 28, 29, 30, 15, 36, 37, 38, 39, 19, 20, 21, 22, 9, 24, 25, 31, 32, 33, 34, 35, 61, 62, 63, 64, 65, 66, 67, 68, 69, 70, 71, 72, 73, 74, 75, 76, 77, 78, 79, 80, 81, 82, 83, 84, 89, 90, 91, 92, 93, 94, 95, 96, 97, 98, 99, 100, 101, 102, 103, 104, 105, 106, 107, 108, 109, 110, 111, 112, 113, 114, 115, 116, 117, 118, 119, 120, 121, 122, 123, 124, 125, 126, 127, 128, 129, 130, 131, 132, 133, 134, 135, 136, 137, 138, 139, 140, 141, 142, 143, 144, 145, 146, 147, 148, 149, 150, 151, 152, 153, 154, 155, 156, 157] rfl (by decide +kernel)
set_option maxRecDepth 20000 in
theorem gX11_bears_X11_layAll : GoodIn wsX11_bears (wsV RX11 355 RX11 yX11_layAll wsX11_layAll) := goodIn_app (goodIn_r _ [43, 44, 45, 7] rfl (by decide +kernel)) ggX11_bears_X11_layAll
set_option maxRecDepth 20000 in
theorem ggX11_bears_X11_bear : GoodIn wsX11_bears wsX11_bear := goodIn_r _ [88, 25, 65, 24, 72, 2, 66, 73, 71, 3, 78, 79, 7, 80, 89, 90, 91, 92, 93, 94, 95, 96, 97, 98, 99, 100, 101, 102, 103, 104, 105, 106, 107, 108, 109, 110, 111, 112, 113, 114, 115, 116, 117, 118, 119, 120, 121, 122, 123, 124, 125, 126, 127, 128, 129, 130, 131, 132, 133, 134, 135, 136, 137, 138, 139, 140, 141, 142, 143, 144, 145, 146, 147, 148, 149, 150, 151, 152, 153, 154, 155, 156, 157] rfl (by decide +kernel)
set_option maxRecDepth 20000 in
theorem gX11_bears_X11_bear : GoodIn wsX11_bears (wsV RX11 325 RX11 yX11_bear wsX11_bear) := goodIn_app (goodIn_r _ [85, 86, 87, 7] rfl (by decide +kernel)) ggX11_bears_X11_bear
set_option maxRecDepth 20000 in
theorem ggX11_weight_X11_isDrawing : GoodIn wsX11_weight wsX11_isDrawing := goodIn_r _ [8, 9, 10, 11, 12, 7, 13, 83, 84, 85, 86, 87, 88, 89, 90, 91, 92, 93, 94, 95, 96, 97, 98, 99, 100, 101, 102, 103, 104, 105, 106, 107, 108, 109, 110, 111, 112, 113, 114, 115, 116, 117, 118, 119, 120, 121, 122, 123, 124, 125, 126, 127, 128, 129, 130, 131, 132, 133, 134, 135, 136, 137, 138, 139, 140, 141, 142, 143, 144, 145, 146, 147, 148, 149, 150, 151] rfl (by decide +kernel)
set_option maxRecDepth 20000 in
theorem gX11_weight_X11_isDrawing : GoodIn wsX11_weight (wsV RX11 349 RX11 yX11_isDrawing wsX11_isDrawing) := goodIn_app (goodIn_r _ [4, 5, 6, 7] rfl (by decide +kernel)) ggX11_weight_X11_isDrawing
set_option maxRecDepth 20000 in
theorem ggX11_weight_X11_isFloor : GoodIn wsX11_weight wsX11_isFloor := goodIn_r _ [17, 18, 19, 20, 7, 21, 22, 10, 11, 12, 13, 83, 84, 85, 86, 87, 88, 89, 90, 91, 92, 93, 94, 95, 96, 97, 98, 99, 100, 101, 102, 103, 104, 105, 106, 107, 108, 109, 110, 111, 112, 113, 114, 115, 116, 117, 118, 119, 120, 121, 122, 123, 124, 125, 126, 127, 128, 129, 130, 131, 132, 133, 134, 135, 136, 137, 138, 139, 140, 141, 142, 143, 144, 145, 146, 147, 148, 149, 150, 151] rfl (by decide +kernel)
set_option maxRecDepth 20000 in
theorem gX11_weight_X11_isFloor : GoodIn wsX11_weight (wsV RX11 278 RX11 yX11_isFloor wsX11_isFloor) := goodIn_app (goodIn_r _ [14, 15, 16, 7] rfl (by decide +kernel)) ggX11_weight_X11_isFloor
set_option maxRecDepth 20000 in
theorem ggX11_weight_X11_isPart : GoodIn wsX11_weight wsX11_isPart := goodIn_r _ [25, 11, 12, 7, 13] rfl (by decide +kernel)
set_option maxRecDepth 20000 in
theorem gX11_weight_X11_isPart : GoodIn wsX11_weight (va_wsS RX11 361 yX11_isPart wsX11_isPart) := goodIn_app (goodIn_r _ [23, 24, 7] rfl (by decide +kernel)) ggX11_weight_X11_isPart
set_option maxRecDepth 20000 in
theorem ggX11_weight_X11_layAll : GoodIn wsX11_weight wsX11_layAll := goodIn_r _ [29, 30, 31, 32, 7, 33, 34, 35, 36, 37, 38, 39, 40, 41, 42, 43, 44, 45, 46, 47, 48, 49, 10, 50, 51, 52, 53, 54, 55, 56, 57, 58, 59, 60, 18, 19, 20, 21, 22, 61, 62, 63, 64, 65, 66, 67, 68, 69, 70, 71, 2, 3, 72, 73, 74, 75, 76, 77, 78, 79, 80, 81, 82, 83, 84, 85, 86, 87, 88, 89, 90, 91, 92, 93, 94, 95, 96, 97, 98, 99, 100, 101, 102, 103, 104, 105, 106, 107, 108, 109, 110, 111, 112, 113, 114, 115, 116, 117, 118, 119, 120, 121, 122, 123, 124, 125, 126, 127, 128, 129, 130, 131, 132, 133, 134, 135, 136, 137, 138, 139, 140, 141, 142, 143, 144, 145, 146, 147, 148, 149, 150, 151] rfl (by decide +kernel)
set_option maxRecDepth 20000 in
theorem gX11_weight_X11_layAll : GoodIn wsX11_weight (wsV RX11 355 RX11 yX11_layAll wsX11_layAll) := goodIn_app (goodIn_r _ [26, 27, 28, 7] rfl (by decide +kernel)) ggX11_weight_X11_layAll
set_option maxRecDepth 20000 in
theorem ggX11_beyondMany_X11_isThere : GoodIn wsX11_beyondMany wsX11_isThere := goodIn_r _ [6, 7, 8, 9, 10, 11, 12, 5, 13, 14, 46, 47, 48, 49, 50, 51, 52, 53, 54, 55, 56, 57, 58, 59, 60, 61, 62, 63, 64, 65, 66, 67, 68, 69, 70, 71, 72, 73, 74, 75, 76, 77, 78, 79, 80, 81, 82, 83, 84, 85, 86, 87, 88, 89, 90, 91, 92, 93, 94, 95, 96, 97, 98, 99, 100, 101, 102, 103, 104, 105, 106, 107, 108, 109, 110, 111, 112, 113, 114] rfl (by decide +kernel)
set_option maxRecDepth 20000 in
theorem gX11_beyondMany_X11_isThere : GoodIn wsX11_beyondMany (wsV RX11 332 RX11 yX11_isThere wsX11_isThere) := goodIn_app (goodIn_r _ [2, 3, 4, 5] rfl (by decide +kernel)) ggX11_beyondMany_X11_isThere
set_option maxRecDepth 20000 in
theorem ggX11_beyondMany_X11_isBeyond : GoodIn wsX11_beyondMany wsX11_isBeyond := goodIn_r _ [18, 19, 20, 21, 22, 23, 5, 24, 7, 25, 9, 26, 27, 28, 29, 30, 31, 32, 33, 34, 35, 36, 37, 38, 39, 40, 41, 42, 43, 44, 45, 46, 47, 48, 49, 50, 51, 52, 53, 54, 55, 56, 57, 58, 59, 60, 61, 62, 63, 64, 65, 66, 67, 68, 69, 70, 71, 72, 73, 74, 75, 76, 77, 78, 79, 80, 81, 82, 83, 84, 85, 86, 87, 88, 89, 90, 91, 92, 93, 94, 95, 96, 97, 98, 99, 100, 101, 102, 103, 104, 105, 106, 107, 108, 109, 110, 111, 112, 113, 114] rfl (by decide +kernel)
set_option maxRecDepth 20000 in
theorem gX11_beyondMany_X11_isBeyond : GoodIn wsX11_beyondMany (wsV RX11 358 RX11 yX11_isBeyond wsX11_isBeyond) := goodIn_app (goodIn_r _ [15, 16, 17, 5] rfl (by decide +kernel)) ggX11_beyondMany_X11_isBeyond
set_option maxRecDepth 20000 in
theorem ggX11_beyond_X11_isDrawing : GoodIn wsX11_beyond wsX11_isDrawing := goodIn_r _ [5, 6, 7, 8, 9, 4, 10, 99, 100, 101, 102, 103, 104, 105, 106, 107, 108, 109, 110, 111, 112, 113, 114, 115, 116, 117, 118, 119, 120, 121, 122, 123, 124, 125, 126, 127, 128, 129, 130, 131, 132, 133, 134, 135, 136, 137, 138, 139, 140, 141, 142, 143, 144, 145, 146, 147, 148, 149, 150, 151, 152, 153, 154, 155, 156, 157, 158, 159, 160, 161, 162, 163, 164, 165, 166, 167] rfl (by decide +kernel)
set_option maxRecDepth 20000 in
theorem gX11_beyond_X11_isDrawing : GoodIn wsX11_beyond (wsV RX11 349 RX11 yX11_isDrawing wsX11_isDrawing) := goodIn_app (goodIn_r _ [1, 2, 3, 4] rfl (by decide +kernel)) ggX11_beyond_X11_isDrawing
set_option maxRecDepth 20000 in
theorem ggX11_beyond_X11_layAll : GoodIn wsX11_beyond wsX11_layAll := goodIn_r _ [14, 15, 16, 17, 4, 18, 19, 20, 21, 22, 23, 24, 25, 26, 27, 28, 29, 30, 31, 32, 33, 34, 7, 35, 36, 37, 38, 39, 40, 41, 42, 43, 44, 45, 46, 47, 48, 49, 50, 51, 52, 53, 54, 55, 56, 57, 58, 59, 60, 61, 62, 63, 64, 65, 66, 67, 68, 69, 70, 71, 72, 73, 74, 99, 100, 101, 102, 103, 104, 105, 106, 107, 108, 109, 110, 111, 112, 113, 114, 115, 116, 117, 118, 119, 120, 121, 122, 123, 124, 125, 126, 127, 128, 129, 130, 131, 132, 133, 134, 135, 136, 137, 138, 139, 140, 141, 142, 143, 144, 145, 146, 147, 148, 149, 150, 151, 152, 153, 154, 155, 156, 157, 158, 159, 160, 161, 162, 163, 164, 165, 166, 167] rfl (by decide +kernel)
set_option maxRecDepth 20000 in
theorem gX11_beyond_X11_layAll : GoodIn wsX11_beyond (wsV RX11 355 RX11 yX11_layAll wsX11_layAll) := goodIn_app (goodIn_r _ [11, 12, 13, 4] rfl (by decide +kernel)) ggX11_beyond_X11_layAll
set_option maxRecDepth 20000 in
theorem ggX11_beyond_X11_beyondMany : GoodIn wsX11_beyond wsX11_beyondMany := goodIn_r _ [78, 43, 79, 80, 81, 4, 82, 45, 25, 44, 71, 72, 73, 74, 28, 83, 84, 85, 86, 87, 88, 89, 90, 91, 92, 55, 62, 56, 63, 61, 68, 69, 70, 93, 94, 95, 96, 97, 7, 26, 98, 19, 35, 36, 37, 38, 99, 100, 101, 102, 103, 104, 105, 106, 107, 108, 109, 110, 111, 112, 113, 114, 115, 116, 117, 118, 119, 120, 121, 122, 123, 124, 125, 126, 127, 128, 129, 130, 131, 132, 133, 134, 135, 136, 137, 138, 139, 140, 141, 142, 143, 144, 145, 146, 147, 148, 149, 150, 151, 152, 153, 154, 155, 156, 157, 158, 159, 160, 161, 162, 163, 164, 165, 166, 167] rfl (by decide +kernel)
set_option maxRecDepth 20000 in
theorem gX11_beyond_X11_beyondMany : GoodIn wsX11_beyond (wsV RX11 366 RX11 yX11_beyondMany wsX11_beyondMany) := goodIn_app (goodIn_r _ [75, 76, 77, 4] rfl (by decide +kernel)) ggX11_beyond_X11_beyondMany
set_option maxRecDepth 20000 in
theorem ggX11_worst_X11_isDrawing : GoodIn wsX11_worst wsX11_isDrawing := goodIn_r _ [5, 6, 7, 8, 9, 4, 10, 98, 99, 100, 101, 102, 103, 104, 105, 106, 107, 108, 109, 110, 111, 112, 113, 114, 115, 116, 117, 118, 119, 120, 121, 122, 123, 124, 125, 126, 127, 128, 129, 130, 131, 132, 133, 134, 135, 136, 137, 138, 139, 140, 141, 142, 143, 144, 145, 146, 147, 148, 149, 150, 151, 152, 153, 154, 155, 156, 157, 158, 159, 160, 161, 162, 163, 164, 165, 166] rfl (by decide +kernel)
set_option maxRecDepth 20000 in
theorem gX11_worst_X11_isDrawing : GoodIn wsX11_worst (wsV RX11 349 RX11 yX11_isDrawing wsX11_isDrawing) := goodIn_app (goodIn_r _ [1, 2, 3, 4] rfl (by decide +kernel)) ggX11_worst_X11_isDrawing
set_option maxRecDepth 20000 in
theorem ggX11_worst_X11_layAll : GoodIn wsX11_worst wsX11_layAll := goodIn_r _ [14, 15, 16, 17, 4, 18, 19, 20, 21, 22, 23, 24, 25, 26, 27, 28, 29, 30, 31, 32, 33, 34, 7, 35, 36, 37, 38, 39, 40, 41, 42, 43, 44, 45, 46, 47, 48, 49, 50, 51, 52, 53, 54, 55, 56, 57, 58, 59, 60, 61, 62, 63, 64, 65, 66, 67, 68, 69, 70, 71, 72, 73, 74, 98, 99, 100, 101, 102, 103, 104, 105, 106, 107, 108, 109, 110, 111, 112, 113, 114, 115, 116, 117, 118, 119, 120, 121, 122, 123, 124, 125, 126, 127, 128, 129, 130, 131, 132, 133, 134, 135, 136, 137, 138, 139, 140, 141, 142, 143, 144, 145, 146, 147, 148, 149, 150, 151, 152, 153, 154, 155, 156, 157, 158, 159, 160, 161, 162, 163, 164, 165, 166] rfl (by decide +kernel)
set_option maxRecDepth 20000 in
theorem gX11_worst_X11_layAll : GoodIn wsX11_worst (wsV RX11 355 RX11 yX11_layAll wsX11_layAll) := goodIn_app (goodIn_r _ [11, 12, 13, 4] rfl (by decide +kernel)) ggX11_worst_X11_layAll
set_option maxRecDepth 20000 in
theorem ggX11_worst_X11_worstOf : GoodIn wsX11_worst wsX11_worstOf := goodIn_r _ [78, 43, 79, 80, 81, 82, 83, 4, 84, 45, 25, 44, 71, 72, 73, 74, 28, 85, 86, 87, 88, 55, 62, 56, 63, 61, 68, 69, 70, 89, 90, 91, 92, 93, 7, 26, 94, 19, 35, 36, 37, 38, 95, 96, 97, 98, 99, 100, 101, 102, 103, 104, 105, 106, 107, 108, 109, 110, 111, 112, 113, 114, 115, 116, 117, 118, 119, 120, 121, 122, 123, 124, 125, 126, 127, 128, 129, 130, 131, 132, 133, 134, 135, 136, 137, 138, 139, 140, 141, 142, 143, 144, 145, 146, 147, 148, 149, 150, 151, 152, 153, 154, 155, 156, 157, 158, 159, 160, 161, 162, 163, 164, 165, 166] rfl (by decide +kernel)
set_option maxRecDepth 20000 in
theorem gX11_worst_X11_worstOf : GoodIn wsX11_worst (wsV RX11 369 RX11 yX11_worstOf wsX11_worstOf) := goodIn_app (goodIn_r _ [75, 76, 77, 4] rfl (by decide +kernel)) ggX11_worst_X11_worstOf
set_option maxRecDepth 20000 in
theorem ggX11_drop_X11_floorMany : GoodIn wsX11_drop wsX11_floorMany := goodIn_r _ [9, 10, 11, 17, 18, 19, 20, 21, 22, 23, 24, 25, 26, 27, 28, 29, 30, 31, 32, 33, 34, 35, 36, 37, 38, 39, 40, 41, 42, 43, 44, 45, 46, 47, 48, 49, 50, 51, 52, 53, 54, 55, 56, 57, 58, 59, 60, 61, 62, 63, 64, 65, 66, 67, 68, 69, 70, 71, 72, 73, 74, 75, 76, 77, 78, 79, 80, 81, 82, 83, 84, 85] rfl (by decide +kernel)
set_option maxRecDepth 20000 in
theorem gX11_drop_X11_floorMany : GoodIn wsX11_drop (wsV RX11 270 RX11 yX11_floorMany wsX11_floorMany) := goodIn_app (goodIn_r _ [5, 6, 7, 8] rfl (by decide +kernel)) ggX11_drop_X11_floorMany
set_option maxRecDepth 20000 in
theorem ggX11_drop_X11_isHeld : GoodIn wsX11_drop wsX11_isHeld := goodIn_r _ [15, 4, 16, 17, 18, 19, 20, 21, 22, 23, 24, 25, 26, 27, 28, 29, 30, 31, 32, 33, 34, 35, 36, 37, 38, 39, 40, 41, 42, 43, 44, 45, 46, 47, 48, 49, 50, 51, 52, 53, 54, 55, 56, 57, 58, 59, 60, 61, 62, 63, 64, 65, 66, 67, 68, 69, 70, 71, 72, 73, 74, 75, 76, 77, 78, 79, 80, 81, 82, 83, 84, 85] rfl (by decide +kernel)
set_option maxRecDepth 20000 in
theorem gX11_drop_X11_isHeld : GoodIn wsX11_drop (wsV RX11 312 RX11 yX11_isHeld wsX11_isHeld) := goodIn_app (goodIn_r _ [12, 13, 14, 8] rfl (by decide +kernel)) ggX11_drop_X11_isHeld
set_option maxRecDepth 20000 in
theorem ggX11_openOf_X11_rodMany : GoodIn wsX11_openOf wsX11_rodMany := goodIn_r _ [6, 7, 8, 18, 19, 20, 21, 22, 23, 24, 25, 26, 27, 28, 29, 30, 31, 32, 33, 34, 35, 36, 37, 38, 39, 40, 41, 42, 43, 44, 45, 46, 47, 48, 49, 50, 51, 52, 53, 54, 55, 56, 57, 58, 59, 60, 61, 62, 63, 64, 65, 66, 67, 68, 69, 70, 71, 72, 73, 74, 75, 76, 77, 78, 79, 80, 81, 82, 83, 84, 85, 86] rfl (by decide +kernel)
set_option maxRecDepth 20000 in
theorem gX11_openOf_X11_rodMany : GoodIn wsX11_openOf (wsV RX11 294 RX11 yX11_rodMany wsX11_rodMany) := goodIn_app (goodIn_r _ [2, 3, 4, 5] rfl (by decide +kernel)) ggX11_openOf_X11_rodMany
set_option maxRecDepth 20000 in
theorem ggX11_openOf_X11_rodNo : GoodIn wsX11_openOf wsX11_rodNo := goodIn_r _ [12, 8, 18, 19, 20, 21, 22, 23, 24, 25, 26, 27, 28, 29, 30, 31, 32, 33, 34, 35, 36, 37, 38, 39, 40, 41, 42, 43, 44, 45, 46, 47, 48, 49, 50, 51, 52, 53, 54, 55, 56, 57, 58, 59, 60, 61, 62, 63, 64, 65, 66, 67, 68, 69, 70, 71, 72, 73, 74, 75, 76, 77, 78, 79, 80, 81, 82, 83, 84, 85, 86] rfl (by decide +kernel)
set_option maxRecDepth 20000 in
theorem gX11_openOf_X11_rodNo : GoodIn wsX11_openOf (wsV RX11 303 RX11 yX11_rodNo wsX11_rodNo) := goodIn_app (goodIn_r _ [9, 10, 11, 5] rfl (by decide +kernel)) ggX11_openOf_X11_rodNo
set_option maxRecDepth 20000 in
theorem ggX11_openOf_X11_floorMany : GoodIn wsX11_openOf wsX11_floorMany := goodIn_r _ [16, 17, 8, 18, 19, 20, 21, 22, 23, 24, 25, 26, 27, 28, 29, 30, 31, 32, 33, 34, 35, 36, 37, 38, 39, 40, 41, 42, 43, 44, 45, 46, 47, 48, 49, 50, 51, 52, 53, 54, 55, 56, 57, 58, 59, 60, 61, 62, 63, 64, 65, 66, 67, 68, 69, 70, 71, 72, 73, 74, 75, 76, 77, 78, 79, 80, 81, 82, 83, 84, 85, 86] rfl (by decide +kernel)
set_option maxRecDepth 20000 in
theorem gX11_openOf_X11_floorMany : GoodIn wsX11_openOf (wsV RX11 270 RX11 yX11_floorMany wsX11_floorMany) := goodIn_app (goodIn_r _ [13, 14, 15, 5] rfl (by decide +kernel)) ggX11_openOf_X11_floorMany
set_option maxRecDepth 20000 in
theorem ggX11_fallAll_X11_layAll : GoodIn wsX11_fallAll wsX11_layAll := goodIn_r _ [12, 13, 14, 15, 11, 16, 17, 18, 19, 20, 21, 22, 5, 23, 24, 7, 25, 26, 27, 28, 29, 30, 31, 32, 33, 34, 35, 36, 37, 38, 39, 40, 6, 4, 41, 42, 43, 44, 45, 46, 47, 48, 49, 50, 51, 52, 53, 54, 55, 56, 57, 58, 59, 60, 61, 62, 63, 64, 65, 66, 67, 68, 69, 105, 106, 107, 108, 109, 110, 111, 112, 113, 114, 115, 116, 117, 118, 119, 120, 121, 122, 123, 124, 125, 126, 127, 128, 129, 130, 131, 132, 133, 134, 135, 136, 137, 138, 139, 140, 141, 142, 143, 144, 145, 146, 147, 148, 149, 150, 151, 152, 153, 154, 155, 156, 157, 158, 159, 160, 161, 162, 163, 164, 165, 166, 167, 168, 169, 170, 171, 172, 173] rfl (by decide +kernel)
set_option maxRecDepth 20000 in
theorem gX11_fallAll_X11_layAll : GoodIn wsX11_fallAll (wsV RX11 355 RX11 yX11_layAll wsX11_layAll) := goodIn_app (goodIn_r _ [8, 9, 10, 11] rfl (by decide +kernel)) ggX11_fallAll_X11_layAll
set_option maxRecDepth 20000 in
theorem ggX11_fallAll_X11_openOf : GoodIn wsX11_fallAll wsX11_openOf := goodIn_r _ [73, 25, 26, 27, 28, 11, 29, 30, 31, 32, 33, 34, 35, 41, 42, 43, 44, 45, 105, 106, 107, 108, 109, 110, 111, 112, 113, 114, 115, 116, 117, 118, 119, 120, 121, 122, 123, 124, 125, 126, 127, 128, 129, 130, 131, 132, 133, 134, 135, 136, 137, 138, 139, 140, 141, 142, 143, 144, 145, 146, 147, 148, 149, 150, 151, 152, 153, 154, 155, 156, 157, 158, 159, 160, 161, 162, 163, 164, 165, 166, 167, 168, 169, 170, 171, 172, 173] rfl (by decide +kernel)
set_option maxRecDepth 20000 in
theorem gX11_fallAll_X11_openOf : GoodIn wsX11_fallAll (wsV RX11 375 RX11 yX11_openOf wsX11_openOf) := goodIn_app (goodIn_r _ [70, 71, 72, 11] rfl (by decide +kernel)) ggX11_fallAll_X11_openOf
set_option maxRecDepth 20000 in
theorem ggX11_fallAll_X11_worstOf : GoodIn wsX11_fallAll wsX11_worstOf := goodIn_r _ [77, 40, 78, 79, 80, 81, 82, 11, 83, 4, 5, 6, 66, 67, 68, 69, 7, 84, 85, 86, 87, 50, 57, 51, 58, 56, 63, 64, 65, 88, 89, 90, 91, 92, 31, 23, 93, 17, 32, 33, 34, 35, 94, 95, 96, 105, 106, 107, 108, 109, 110, 111, 112, 113, 114, 115, 116, 117, 118, 119, 120, 121, 122, 123, 124, 125, 126, 127, 128, 129, 130, 131, 132, 133, 134, 135, 136, 137, 138, 139, 140, 141, 142, 143, 144, 145, 146, 147, 148, 149, 150, 151, 152, 153, 154, 155, 156, 157, 158, 159, 160, 161, 162, 163, 164, 165, 166, 167, 168, 169, 170, 171, 172, 173] rfl (by decide +kernel)
set_option maxRecDepth 20000 in
theorem gX11_fallAll_X11_worstOf : GoodIn wsX11_fallAll (wsV RX11 369 RX11 yX11_worstOf wsX11_worstOf) := goodIn_app (goodIn_r _ [74, 75, 76, 11] rfl (by decide +kernel)) ggX11_fallAll_X11_worstOf
set_option maxRecDepth 20000 in
theorem ggX11_fallAll_X11_isBeyond : GoodIn wsX11_fallAll wsX11_isBeyond := goodIn_r _ [100, 79, 78, 84, 85, 86, 11, 87, 4, 50, 6, 57, 51, 58, 56, 63, 64, 65, 88, 89, 90, 91, 92, 31, 23, 93, 17, 32, 33, 34, 35, 105, 106, 107, 108, 109, 110, 111, 112, 113, 114, 115, 116, 117, 118, 119, 120, 121, 122, 123, 124, 125, 126, 127, 128, 129, 130, 131, 132, 133, 134, 135, 136, 137, 138, 139, 140, 141, 142, 143, 144, 145, 146, 147, 148, 149, 150, 151, 152, 153, 154, 155, 156, 157, 158, 159, 160, 161, 162, 163, 164, 165, 166, 167, 168, 169, 170, 171, 172, 173] rfl (by decide +kernel)
set_option maxRecDepth 20000 in
theorem gX11_fallAll_X11_isBeyond : GoodIn wsX11_fallAll (wsV RX11 358 RX11 yX11_isBeyond wsX11_isBeyond) := goodIn_app (goodIn_r _ [97, 98, 99, 11] rfl (by decide +kernel)) ggX11_fallAll_X11_isBeyond
set_option maxRecDepth 20000 in
theorem ggX11_fallAll_X11_drop : GoodIn wsX11_fallAll wsX11_drop := goodIn_r _ [104, 18, 2, 23, 5, 41, 42, 43, 11, 44, 45, 31, 66, 67, 68, 69, 7, 105, 106, 107, 108, 109, 110, 111, 112, 113, 114, 115, 116, 117, 118, 119, 120, 121, 122, 123, 124, 125, 126, 127, 128, 129, 130, 131, 132, 133, 134, 135, 136, 137, 138, 139, 140, 141, 142, 143, 144, 145, 146, 147, 148, 149, 150, 151, 152, 153, 154, 155, 156, 157, 158, 159, 160, 161, 162, 163, 164, 165, 166, 167, 168, 169, 170, 171, 172, 173] rfl (by decide +kernel)
set_option maxRecDepth 20000 in
theorem gX11_fallAll_X11_drop : GoodIn wsX11_fallAll (wsV RX11 381 RX11 yX11_drop wsX11_drop) := goodIn_app (goodIn_r _ [101, 102, 103, 11] rfl (by decide +kernel)) ggX11_fallAll_X11_drop
set_option maxRecDepth 20000 in
theorem ggX11_fallAll_X11_reckon : GoodIn wsX11_fallAll wsX11_reckon := goodIn_r _ [49, 18, 50, 51, 52, 31, 53, 54, 21, 20, 55, 56, 5, 23, 57, 58, 41, 42, 43, 11, 44, 45, 59, 60, 61, 62, 63, 64, 65, 66, 67, 68, 69, 7, 105, 106, 107, 108, 109, 110, 111, 112, 113, 114, 115, 116, 117, 118, 119, 120, 121, 122, 123, 124, 125, 126, 127, 128, 129, 130, 131, 132, 133, 134, 135, 136, 137, 138, 139, 140, 141, 142, 143, 144, 145, 146, 147, 148, 149, 150, 151, 152, 153, 154, 155, 156, 157, 158, 159, 160, 161, 162, 163, 164, 165, 166, 167, 168, 169, 170, 171, 172, 173] rfl (by decide +kernel)
set_option maxRecDepth 20000 in
theorem gX11_fallAll_X11_reckon : GoodIn wsX11_fallAll (wsV RX11 346 RX11 yX11_reckon wsX11_reckon) := goodIn_app (goodIn_r _ [46, 47, 48, 11] rfl (by decide +kernel)) ggX11_fallAll_X11_reckon
set_option maxRecDepth 20000 in
theorem ggX11_fall_X11_isDrawing : GoodIn wsX11_fall wsX11_isDrawing := goodIn_r _ [7, 8, 9, 10, 11, 6, 12, 117, 118, 119, 120, 121, 122, 123, 124, 125, 126, 127, 128, 129, 130, 131, 132, 133, 134, 135, 136, 137, 138, 139, 140, 141, 142, 143, 144, 145, 146, 147, 148, 149, 150, 151, 152, 153, 154, 155, 156, 157, 158, 159, 160, 161, 162, 163, 164, 165, 166, 167, 168, 169, 170, 171, 172, 173, 174, 175, 176, 177, 178, 179, 180, 181, 182, 183, 184, 185] rfl (by decide +kernel)
set_option maxRecDepth 20000 in
theorem gX11_fall_X11_isDrawing : GoodIn wsX11_fall (wsV RX11 349 RX11 yX11_isDrawing wsX11_isDrawing) := goodIn_app (goodIn_r _ [3, 4, 5, 6] rfl (by decide +kernel)) ggX11_fall_X11_isDrawing
set_option maxRecDepth 20000 in
theorem ggX11_fall_X11_isIn : GoodIn wsX11_fall wsX11_isIn := goodIn_r _ [12] rfl (by decide +kernel)
set_option maxRecDepth 20000 in
theorem gX11_fall_X11_isIn : GoodIn wsX11_fall (va_wsS RX11 274 yX11_isIn wsX11_isIn) := goodIn_app (goodIn_r _ [10, 11, 6] rfl (by decide +kernel)) ggX11_fall_X11_isIn
set_option maxRecDepth 20000 in
theorem ggX11_fall_X11_fallAll : GoodIn wsX11_fall wsX11_fallAll := goodIn_r _ [16, 2, 1, 17, 18, 19, 20, 21, 22, 23, 24, 6, 25, 26, 27, 28, 29, 30, 31, 32, 33, 34, 35, 36, 37, 38, 39, 40, 41, 42, 43, 9, 44, 45, 46, 47, 48, 49, 50, 51, 52, 53, 54, 55, 56, 57, 58, 59, 60, 61, 62, 63, 64, 65, 66, 67, 68, 69, 70, 71, 72, 73, 74, 75, 76, 77, 78, 79, 80, 81, 82, 83, 84, 85, 86, 87, 88, 89, 90, 91, 92, 93, 94, 95, 96, 97, 98, 99, 100, 101, 102, 103, 104, 105, 106, 107, 108, 109, 110, 111, 112, 113, 114, 115, 116, 117, 118, 119, 120, 121, 122, 123, 124, 125, 126, 127, 128, 129, 130, 131, 132, 133, 134, 135, 136, 137, 138, 139, 140, 141, 142, 143, 144, 145, 146, 147, 148, 149, 150, 151, 152, 153, 154, 155, 156, 157, 158, 159, 160, 161, 162, 163, 164, 165, 166, 167, 168, 169, 170, 171, 172, 173, 174, 175, 176, 177, 178, 179, 180, 181, 182, 183, 184, 185] rfl (by decide +kernel)
set_option maxRecDepth 20000 in
theorem gX11_fall_X11_fallAll : GoodIn wsX11_fall (wsV RX11 384 RX11 yX11_fallAll wsX11_fallAll) := goodIn_app (goodIn_r _ [13, 14, 15, 6] rfl (by decide +kernel)) ggX11_fall_X11_fallAll
set_option maxRecDepth 20000 in
theorem ggX11_goes_X11_isDrawing : GoodIn wsX11_goes wsX11_isDrawing := goodIn_r _ [7, 8, 9, 10, 11, 6, 12, 117, 118, 119, 120, 121, 122, 123, 124, 125, 126, 127, 128, 129, 130, 131, 132, 133, 134, 135, 136, 137, 138, 139, 140, 141, 142, 143, 144, 145, 146, 147, 148, 149, 150, 151, 152, 153, 154, 155, 156, 157, 158, 159, 160, 161, 162, 163, 164, 165, 166, 167, 168, 169, 170, 171, 172, 173, 174, 175, 176, 177, 178, 179, 180, 181, 182, 183, 184, 185] rfl (by decide +kernel)
set_option maxRecDepth 20000 in
theorem gX11_goes_X11_isDrawing : GoodIn wsX11_goes (wsV RX11 349 RX11 yX11_isDrawing wsX11_isDrawing) := goodIn_app (goodIn_r _ [3, 4, 5, 6] rfl (by decide +kernel)) ggX11_goes_X11_isDrawing
set_option maxRecDepth 20000 in
theorem ggX11_goes_X11_fallAll : GoodIn wsX11_goes wsX11_fallAll := goodIn_r _ [16, 1, 17, 2, 18, 19, 20, 21, 22, 23, 24, 6, 25, 26, 27, 28, 29, 30, 31, 32, 33, 34, 35, 36, 37, 38, 39, 40, 41, 42, 43, 9, 44, 45, 46, 47, 48, 49, 50, 51, 52, 53, 54, 55, 56, 57, 58, 59, 60, 61, 62, 63, 64, 65, 66, 67, 68, 69, 70, 71, 72, 73, 74, 75, 76, 77, 78, 79, 80, 81, 82, 83, 84, 85, 86, 87, 88, 89, 90, 91, 92, 93, 94, 95, 96, 97, 98, 99, 100, 101, 102, 103, 104, 105, 106, 107, 108, 109, 110, 111, 112, 113, 114, 115, 116, 117, 118, 119, 120, 121, 122, 123, 124, 125, 126, 127, 128, 129, 130, 131, 132, 133, 134, 135, 136, 137, 138, 139, 140, 141, 142, 143, 144, 145, 146, 147, 148, 149, 150, 151, 152, 153, 154, 155, 156, 157, 158, 159, 160, 161, 162, 163, 164, 165, 166, 167, 168, 169, 170, 171, 172, 173, 174, 175, 176, 177, 178, 179, 180, 181, 182, 183, 184, 185] rfl (by decide +kernel)
set_option maxRecDepth 20000 in
theorem gX11_goes_X11_fallAll : GoodIn wsX11_goes (wsV RX11 384 RX11 yX11_fallAll wsX11_fallAll) := goodIn_app (goodIn_r _ [13, 14, 15, 6] rfl (by decide +kernel)) ggX11_goes_X11_fallAll
set_option maxRecDepth 20000 in
theorem ggX11_goes_X11_isIn : GoodIn wsX11_goes wsX11_isIn := goodIn_r _ [12] rfl (by decide +kernel)
set_option maxRecDepth 20000 in
theorem gX11_goes_X11_isIn : GoodIn wsX11_goes (va_wsS RX11 274 yX11_isIn wsX11_isIn) := goodIn_app (goodIn_r _ [10, 11, 6] rfl (by decide +kernel)) ggX11_goes_X11_isIn
set_option maxRecDepth 20000 in
theorem ggX11_change_X11_isDrawing : GoodIn wsX11_change wsX11_isDrawing := goodIn_r _ [16, 17, 18, 19, 20, 15, 21, 90, 91, 92, 93, 94, 95, 96, 97, 98, 99, 100, 101, 102, 103, 104, 105, 106, 107, 108, 109, 110, 111, 112, 113, 114, 115, 116, 117, 118, 119, 120, 121, 122, 123, 124, 125, 126, 127, 128, 129, 130, 131, 132, 133, 134, 135, 136, 137, 138, 139, 140, 141, 142, 143, 144, 145, 146, 147, 148, 149, 150, 151, 152, 153, 154, 155, 156, 157, 158] rfl (by decide +kernel)
set_option maxRecDepth 20000 in
theorem gX11_change_X11_isDrawing : GoodIn wsX11_change (wsV RX11 349 RX11 yX11_isDrawing wsX11_isDrawing) := goodIn_app (goodIn_r _ [12, 13, 14, 15] rfl (by decide +kernel)) ggX11_change_X11_isDrawing
set_option maxRecDepth 20000 in
theorem ggX11_change_X11_isIn : GoodIn wsX11_change wsX11_isIn := goodIn_r _ [21] rfl (by decide +kernel)
set_option maxRecDepth 20000 in
theorem gX11_change_X11_isIn : GoodIn wsX11_change (va_wsS RX11 274 yX11_isIn wsX11_isIn) := goodIn_app (goodIn_r _ [19, 20, 15] rfl (by decide +kernel)) ggX11_change_X11_isIn
set_option maxRecDepth 20000 in
theorem ggX11_change_X11_layAll : GoodIn wsX11_change wsX11_layAll := goodIn_r _ [25, 26, 27, 28, 15, 29, 30, 31, 32, 33, 34, 35, 36, 37, 38, 39, 40, 41, 42, 43, 44, 45, 18, 46, 47, 48, 49, 50, 51, 52, 53, 1, 7, 9, 54, 55, 56, 57, 58, 59, 60, 61, 62, 63, 64, 65, 66, 67, 68, 69, 70, 71, 72, 73, 74, 75, 76, 77, 78, 79, 80, 81, 82, 90, 91, 92, 93, 94, 95, 96, 97, 98, 99, 100, 101, 102, 103, 104, 105, 106, 107, 108, 109, 110, 111, 112, 113, 114, 115, 116, 117, 118, 119, 120, 121, 122, 123, 124, 125, 126, 127, 128, 129, 130, 131, 132, 133, 134, 135, 136, 137, 138, 139, 140, 141, 142, 143, 144, 145, 146, 147, 148, 149, 150, 151, 152, 153, 154, 155, 156, 157, 158] rfl (by decide +kernel)
set_option maxRecDepth 20000 in
theorem gX11_change_X11_layAll : GoodIn wsX11_change (wsV RX11 355 RX11 yX11_layAll wsX11_layAll) := goodIn_app (goodIn_r _ [22, 23, 24, 15] rfl (by decide +kernel)) ggX11_change_X11_layAll
set_option maxRecDepth 20000 in
theorem ggX11_change_X11_bear : GoodIn wsX11_change wsX11_bear := goodIn_r _ [86, 9, 63, 7, 70, 3, 64, 71, 69, 5, 76, 77, 15, 78, 90, 91, 92, 93, 94, 95, 96, 97, 98, 99, 100, 101, 102, 103, 104, 105, 106, 107, 108, 109, 110, 111, 112, 113, 114, 115, 116, 117, 118, 119, 120, 121, 122, 123, 124, 125, 126, 127, 128, 129, 130, 131, 132, 133, 134, 135, 136, 137, 138, 139, 140, 141, 142, 143, 144, 145, 146, 147, 148, 149, 150, 151, 152, 153, 154, 155, 156, 157, 158] rfl (by decide +kernel)
set_option maxRecDepth 20000 in
theorem gX11_change_X11_bear : GoodIn wsX11_change (wsV RX11 325 RX11 yX11_bear wsX11_bear) := goodIn_app (goodIn_r _ [83, 84, 85, 15] rfl (by decide +kernel)) ggX11_change_X11_bear
set_option maxRecDepth 20000 in
theorem ggX11_change_X11_rodNo : GoodIn wsX11_change wsX11_rodNo := goodIn_r _ [49, 18, 90, 91, 92, 93, 94, 95, 96, 97, 98, 99, 100, 101, 102, 103, 104, 105, 106, 107, 108, 109, 110, 111, 112, 113, 114, 115, 116, 117, 118, 119, 120, 121, 122, 123, 124, 125, 126, 127, 128, 129, 130, 131, 132, 133, 134, 135, 136, 137, 138, 139, 140, 141, 142, 143, 144, 145, 146, 147, 148, 149, 150, 151, 152, 153, 154, 155, 156, 157, 158] rfl (by decide +kernel)
set_option maxRecDepth 20000 in
theorem gX11_change_X11_rodNo : GoodIn wsX11_change (wsV RX11 303 RX11 yX11_rodNo wsX11_rodNo) := goodIn_app (goodIn_r _ [46, 47, 48, 15] rfl (by decide +kernel)) ggX11_change_X11_rodNo
set_option maxRecDepth 20000 in
theorem ggX11_change_X11_isMore : GoodIn wsX11_change wsX11_isMore := goodIn_r _ [89] rfl (by decide +kernel)
set_option maxRecDepth 20000 in
theorem gX11_change_X11_isMore : GoodIn wsX11_change (va_wsS RX11 335 yX11_isMore wsX11_isMore) := goodIn_app (goodIn_r _ [87, 88, 15] rfl (by decide +kernel)) ggX11_change_X11_isMore
set_option maxRecDepth 20000 in
theorem ggX11_weak_X11_lay : GoodIn wsX11_weak wsX11_lay := goodIn_r _ [7, 8, 9, 10, 11, 12, 13, 14, 15, 16, 17, 18, 19, 20, 21, 6, 22, 23, 2, 24, 25, 26, 27, 88, 89, 90, 91, 92, 93, 94, 95, 96, 97, 98, 99, 100, 101, 102, 103, 104, 105, 106, 107, 108, 109, 110, 111, 112, 113, 114, 115, 116, 117, 118, 119, 120, 121, 122, 123, 124, 125, 126, 127, 128, 129, 130, 131, 132, 133, 134, 135, 136, 137, 138, 139, 140, 141, 142, 143, 144, 145, 146, 147, 148, 149, 150, 151, 152, 153, 154, 155, 156] rfl (by decide +kernel)
set_option maxRecDepth 20000 in
theorem gX11_weak_X11_lay : GoodIn wsX11_weak (wsV RX11 339 RX11 yX11_lay wsX11_lay) := goodIn_app (goodIn_r _ [3, 4, 5, 6] rfl (by decide +kernel)) ggX11_weak_X11_lay

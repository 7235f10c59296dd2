set_option maxRecDepth 20000 in
theorem ggX11_saw_X11_isIn : GoodIn wsX11_saw wsX11_isIn := goodIn_r _ [11] rfl (by decide +kernel)
set_option maxRecDepth 20000 in
theorem gX11_saw_X11_isIn : GoodIn wsX11_saw (va_wsS RX11 274 yX11_isIn wsX11_isIn) := goodIn_app (goodIn_r _ [9, 10, 5] rfl (by decide +kernel)) ggX11_saw_X11_isIn
set_option maxRecDepth 20000 in
theorem ggX11_saw_X11_beyond : GoodIn wsX11_saw wsX11_beyond := goodIn_r _ [15, 2, 3, 4, 5, 6, 7, 8, 9, 10, 11, 16, 17, 18, 19, 20, 21, 22, 23, 24, 25, 26, 27, 28, 29, 30, 31, 32, 33, 34, 35, 36, 37, 38, 39, 40, 41, 42, 43, 44, 45, 46, 47, 1, 48, 49, 50, 51, 52, 53, 54, 55, 56, 57, 58, 59, 60, 61, 62, 63, 64, 65, 66, 67, 68, 69, 70, 71, 72, 73, 74, 75, 76, 77, 78, 79, 80, 81, 82, 83, 84, 85, 86, 87, 88, 89, 90, 91, 92, 93, 94, 95, 96, 97, 98, 99, 100, 101, 102, 118, 119, 120, 121, 122, 123, 124, 125, 126, 127, 128, 129, 130, 131, 132, 133, 134, 135, 136, 137, 138, 139, 140, 141, 142, 143, 144, 145, 146, 147, 148, 149, 150, 151, 152, 153, 154, 155, 156, 157, 158, 159, 160, 161, 162, 163, 164, 165, 166, 167, 168, 169, 170, 171, 172, 173, 174, 175, 176, 177, 178, 179, 180, 181, 182, 183, 184, 185, 186] rfl (by decide +kernel)
set_option maxRecDepth 20000 in
theorem gX11_saw_X11_beyond : GoodIn wsX11_saw (wsV RX11 413 RX11 yX11_beyond wsX11_beyond) := goodIn_app (goodIn_r _ [12, 13, 14, 5] rfl (by decide +kernel)) ggX11_saw_X11_beyond
set_option maxRecDepth 20000 in
theorem ggX11_saw_X11_spentBy : GoodIn wsX11_saw wsX11_spentBy := goodIn_r _ [106, 107, 108, 109, 110, 111, 112, 113, 114, 5, 115, 116, 117, 118, 119, 120, 121, 122, 123, 124, 125, 126, 127, 128, 129, 130, 131, 132, 133, 134, 135, 136, 137, 138, 139, 140, 141, 142, 143, 144, 145, 146, 147, 148, 149, 150, 151, 152, 153, 154, 155, 156, 157, 158, 159, 160, 161, 162, 163, 164, 165, 166, 167, 168, 169, 170, 171, 172, 173, 174, 175, 176, 177, 178, 179, 180, 181, 182, 183, 184, 185, 186] rfl (by decide +kernel)
set_option maxRecDepth 20000 in
theorem gX11_saw_X11_spentBy : GoodIn wsX11_saw (wsV RX11 409 RX11 yX11_spentBy wsX11_spentBy) := goodIn_app (goodIn_r _ [103, 104, 105, 5] rfl (by decide +kernel)) ggX11_saw_X11_spentBy
set_option maxRecDepth 20000 in
theorem ggX11_hollow_X11_counts : GoodIn wsX11_hollow wsX11_counts := goodIn_r _ [11, 12, 13, 49, 50, 51, 52, 53, 54, 55, 56, 57, 58, 59, 60, 61, 62, 63, 64, 65, 66, 67, 68, 69, 70, 71, 72, 73, 74, 75, 76, 77, 78, 79, 80, 81, 82, 83, 84, 85, 86, 87, 88, 89, 90, 91, 92, 93, 94, 95, 96, 97, 98, 99, 100, 101, 102, 103, 104, 105, 106, 107, 108, 109, 110, 111, 112, 113, 114, 115, 116, 117] rfl (by decide +kernel)
set_option maxRecDepth 20000 in
theorem gX11_hollow_X11_counts : GoodIn wsX11_hollow (wsV RX11 406 RX11 yX11_counts wsX11_counts) := goodIn_app (goodIn_r _ [7, 8, 9, 10] rfl (by decide +kernel)) ggX11_hollow_X11_counts
set_option maxRecDepth 20000 in
theorem ggX11_hollow_X11_joints : GoodIn wsX11_hollow wsX11_joints := goodIn_r _ [17, 18, 19, 20, 21, 10, 22, 23, 24, 25, 26, 27, 28, 29, 30, 31, 32, 33, 34, 35, 36, 37, 38, 39, 40, 41, 42, 43, 44, 45, 46, 47, 48, 49, 50, 51, 52, 53, 54, 55, 56, 57, 58, 59, 60, 61, 62, 63, 64, 65, 66, 67, 68, 69, 70, 71, 72, 73, 74, 75, 76, 77, 78, 79, 80, 81, 82, 83, 84, 85, 86, 87, 88, 89, 90, 91, 92, 93, 94, 95, 96, 97, 98, 99, 100, 101, 102, 103, 104, 105, 106, 107, 108, 109, 110, 111, 112, 113, 114, 115, 116, 117] rfl (by decide +kernel)
set_option maxRecDepth 20000 in
theorem gX11_hollow_X11_joints : GoodIn wsX11_hollow (wsV RX11 352 RX11 yX11_joints wsX11_joints) := goodIn_app (goodIn_r _ [14, 15, 16, 10] rfl (by decide +kernel)) ggX11_hollow_X11_joints
set_option maxRecDepth 20000 in
theorem ggX11_story_X11_isIn : GoodIn wsX11_story wsX11_isIn := goodIn_r _ [9] rfl (by decide +kernel)
set_option maxRecDepth 20000 in
theorem gX11_story_X11_isIn : GoodIn wsX11_story (va_wsS RX11 274 yX11_isIn wsX11_isIn) := goodIn_app (goodIn_r _ [6, 7, 8] rfl (by decide +kernel)) ggX11_story_X11_isIn
set_option maxRecDepth 20000 in
theorem ggX11_believed_X11_isPart : GoodIn wsX11_believed wsX11_isPart := goodIn_r _ [9, 10, 11, 8, 12] rfl (by decide +kernel)
set_option maxRecDepth 20000 in
theorem gX11_believed_X11_isPart : GoodIn wsX11_believed (va_wsS RX11 361 yX11_isPart wsX11_isPart) := goodIn_app (goodIn_r _ [6, 7, 8] rfl (by decide +kernel)) ggX11_believed_X11_isPart
set_option maxRecDepth 20000 in
theorem ggX11_believed_X11_counts : GoodIn wsX11_believed wsX11_counts := goodIn_r _ [16, 17, 18, 22, 23, 24, 25, 26, 27, 28, 29, 30, 31, 32, 33, 34, 35, 36, 37, 38, 39, 40, 41, 42, 43, 44, 45, 46, 47, 48, 49, 50, 51, 52, 53, 54, 55, 56, 57, 58, 59, 60, 61, 62, 63, 64, 65, 66, 67, 68, 69, 70, 71, 72, 73, 74, 75, 76, 77, 78, 79, 80, 81, 82, 83, 84, 85, 86, 87, 88, 89, 90] rfl (by decide +kernel)
set_option maxRecDepth 20000 in
theorem gX11_believed_X11_counts : GoodIn wsX11_believed (wsV RX11 406 RX11 yX11_counts wsX11_counts) := goodIn_app (goodIn_r _ [13, 14, 15, 8] rfl (by decide +kernel)) ggX11_believed_X11_counts
set_option maxRecDepth 20000 in
theorem ggX11_believed_X11_common : GoodIn wsX11_believed wsX11_common := goodIn_r _ [21] rfl (by decide +kernel)
set_option maxRecDepth 20000 in
theorem gX11_believed_X11_common : GoodIn wsX11_believed (va_wsS RX11 284 yX11_common wsX11_common) := goodIn_app (goodIn_r _ [19, 20, 8] rfl (by decide +kernel)) ggX11_believed_X11_common
set_option maxRecDepth 20000 in
theorem ggX11_firstBeyond_X11_layAll : GoodIn wsX11_firstBeyond wsX11_layAll := goodIn_r _ [10, 11, 12, 13, 9, 14, 15, 16, 17, 18, 19, 20, 21, 22, 23, 24, 25, 26, 27, 28, 29, 30, 31, 32, 33, 34, 35, 36, 37, 38, 39, 1, 40, 41, 42, 43, 44, 45, 46, 47, 48, 49, 50, 51, 52, 53, 54, 55, 56, 57, 58, 59, 60, 61, 62, 63, 64, 65, 66, 67, 68, 69, 70, 88, 89, 90, 91, 92, 93, 94, 95, 96, 97, 98, 99, 100, 101, 102, 103, 104, 105, 106, 107, 108, 109, 110, 111, 112, 113, 114, 115, 116, 117, 118, 119, 120, 121, 122, 123, 124, 125, 126, 127, 128, 129, 130, 131, 132, 133, 134, 135, 136, 137, 138, 139, 140, 141, 142, 143, 144, 145, 146, 147, 148, 149, 150, 151, 152, 153, 154, 155, 156] rfl (by decide +kernel)
set_option maxRecDepth 20000 in
theorem gX11_firstBeyond_X11_layAll : GoodIn wsX11_firstBeyond (wsV RX11 355 RX11 yX11_layAll wsX11_layAll) := goodIn_app (goodIn_r _ [6, 7, 8, 9] rfl (by decide +kernel)) ggX11_firstBeyond_X11_layAll
set_option maxRecDepth 20000 in
theorem ggX11_firstBeyond_X11_bear : GoodIn wsX11_firstBeyond wsX11_bear := goodIn_r _ [74, 41, 51, 40, 58, 3, 52, 59, 57, 5, 64, 65, 9, 66, 88, 89, 90, 91, 92, 93, 94, 95, 96, 97, 98, 99, 100, 101, 102, 103, 104, 105, 106, 107, 108, 109, 110, 111, 112, 113, 114, 115, 116, 117, 118, 119, 120, 121, 122, 123, 124, 125, 126, 127, 128, 129, 130, 131, 132, 133, 134, 135, 136, 137, 138, 139, 140, 141, 142, 143, 144, 145, 146, 147, 148, 149, 150, 151, 152, 153, 154, 155, 156] rfl (by decide +kernel)
set_option maxRecDepth 20000 in
theorem gX11_firstBeyond_X11_bear : GoodIn wsX11_firstBeyond (wsV RX11 325 RX11 yX11_bear wsX11_bear) := goodIn_app (goodIn_r _ [71, 72, 73, 9] rfl (by decide +kernel)) ggX11_firstBeyond_X11_bear
set_option maxRecDepth 20000 in
theorem ggX11_firstBeyond_X11_isBeyond : GoodIn wsX11_firstBeyond wsX11_isBeyond := goodIn_r _ [78, 3, 5, 71, 72, 73, 9, 74, 41, 51, 40, 58, 52, 59, 57, 64, 65, 66, 79, 80, 81, 82, 83, 31, 22, 84, 15, 32, 33, 34, 35, 88, 89, 90, 91, 92, 93, 94, 95, 96, 97, 98, 99, 100, 101, 102, 103, 104, 105, 106, 107, 108, 109, 110, 111, 112, 113, 114, 115, 116, 117, 118, 119, 120, 121, 122, 123, 124, 125, 126, 127, 128, 129, 130, 131, 132, 133, 134, 135, 136, 137, 138, 139, 140, 141, 142, 143, 144, 145, 146, 147, 148, 149, 150, 151, 152, 153, 154, 155, 156] rfl (by decide +kernel)
set_option maxRecDepth 20000 in
theorem gX11_firstBeyond_X11_isBeyond : GoodIn wsX11_firstBeyond (wsV RX11 358 RX11 yX11_isBeyond wsX11_isBeyond) := goodIn_app (goodIn_r _ [75, 76, 77, 9] rfl (by decide +kernel)) ggX11_firstBeyond_X11_isBeyond
set_option maxRecDepth 20000 in
theorem ggX11_firstBeyond_X11_isMore : GoodIn wsX11_firstBeyond wsX11_isMore := goodIn_r _ [87] rfl (by decide +kernel)
set_option maxRecDepth 20000 in
theorem gX11_firstBeyond_X11_isMore : GoodIn wsX11_firstBeyond (va_wsS RX11 335 yX11_isMore wsX11_isMore) := goodIn_app (goodIn_r _ [85, 86, 9] rfl (by decide +kernel)) ggX11_firstBeyond_X11_isMore
set_option maxRecDepth 20000 in
theorem ggX11_rule_X11_isIn : GoodIn wsX11_rule wsX11_isIn := goodIn_r _ [6] rfl (by decide +kernel)
set_option maxRecDepth 20000 in
theorem gX11_rule_X11_isIn : GoodIn wsX11_rule (va_wsS RX11 274 yX11_isIn wsX11_isIn) := goodIn_app (goodIn_r _ [3, 4, 5] rfl (by decide +kernel)) ggX11_rule_X11_isIn
set_option maxRecDepth 20000 in
theorem ggX11_rule_X11_firstBeyond : GoodIn wsX11_rule wsX11_firstBeyond := goodIn_r _ [10, 11, 12, 13, 14, 15, 16, 17, 18, 5, 19, 20, 21, 22, 23, 24, 25, 26, 27, 28, 29, 30, 31, 32, 33, 34, 35, 36, 37, 38, 39, 2, 40, 41, 42, 43, 44, 45, 46, 47, 48, 49, 50, 51, 52, 53, 54, 55, 56, 57, 58, 59, 60, 61, 62, 63, 64, 65, 66, 67, 68, 69, 70, 71, 72, 73, 74, 75, 76, 77, 78, 79, 80, 81, 82, 83, 84, 85, 86, 87, 88, 89, 90, 91, 92, 93, 94, 95, 104, 105, 106, 107, 108, 109, 110, 111, 112, 113, 114, 115, 116, 117, 118, 119, 120, 121, 122, 123, 124, 125, 126, 127, 128, 129, 130, 131, 132, 133, 134, 135, 136, 137, 138, 139, 140, 141, 142, 143, 144, 145, 146, 147, 148, 149, 150, 151, 152, 153, 154, 155, 156, 157, 158, 159, 160, 161, 162, 163, 164, 165, 166, 167, 168, 169, 170, 171, 172] rfl (by decide +kernel)
set_option maxRecDepth 20000 in
theorem gX11_rule_X11_firstBeyond : GoodIn wsX11_rule (wsV RX11 416 RX11 yX11_firstBeyond wsX11_firstBeyond) := goodIn_app (goodIn_r _ [7, 8, 9, 5] rfl (by decide +kernel)) ggX11_rule_X11_firstBeyond
set_option maxRecDepth 20000 in
theorem ggX11_rule_X11_joints : GoodIn wsX11_rule wsX11_joints := goodIn_r _ [99, 11, 100, 101, 102, 5, 103, 1, 2, 3, 4, 6, 44, 45, 46, 47, 34, 48, 49, 35, 36, 37, 38, 39, 50, 51, 52, 53, 54, 40, 41, 42, 43, 104, 105, 106, 107, 108, 109, 110, 111, 112, 113, 114, 115, 116, 117, 118, 119, 120, 121, 122, 123, 124, 125, 126, 127, 128, 129, 130, 131, 132, 133, 134, 135, 136, 137, 138, 139, 140, 141, 142, 143, 144, 145, 146, 147, 148, 149, 150, 151, 152, 153, 154, 155, 156, 157, 158, 159, 160, 161, 162, 163, 164, 165, 166, 167, 168, 169, 170, 171, 172] rfl (by decide +kernel)
set_option maxRecDepth 20000 in
theorem gX11_rule_X11_joints : GoodIn wsX11_rule (wsV RX11 352 RX11 yX11_joints wsX11_joints) := goodIn_app (goodIn_r _ [96, 97, 98, 5] rfl (by decide +kernel)) ggX11_rule_X11_joints
set_option maxRecDepth 20000 in
theorem ggX11_most_X11_isDrawing : GoodIn wsX11_most wsX11_isDrawing := goodIn_r _ [6, 7, 8, 9, 10, 5, 11, 99, 100, 101, 102, 103, 104, 105, 106, 107, 108, 109, 110, 111, 112, 113, 114, 115, 116, 117, 118, 119, 120, 121, 122, 123, 124, 125, 126, 127, 128, 129, 130, 131, 132, 133, 134, 135, 136, 137, 138, 139, 140, 141, 142, 143, 144, 145, 146, 147, 148, 149, 150, 151, 152, 153, 154, 155, 156, 157, 158, 159, 160, 161, 162, 163, 164, 165, 166, 167] rfl (by decide +kernel)
set_option maxRecDepth 20000 in
theorem gX11_most_X11_isDrawing : GoodIn wsX11_most (wsV RX11 349 RX11 yX11_isDrawing wsX11_isDrawing) := goodIn_app (goodIn_r _ [2, 3, 4, 5] rfl (by decide +kernel)) ggX11_most_X11_isDrawing
set_option maxRecDepth 20000 in
theorem ggX11_most_X11_isFloor : GoodIn wsX11_most wsX11_isFloor := goodIn_r _ [15, 16, 17, 18, 5, 19, 20, 8, 9, 10, 11, 99, 100, 101, 102, 103, 104, 105, 106, 107, 108, 109, 110, 111, 112, 113, 114, 115, 116, 117, 118, 119, 120, 121, 122, 123, 124, 125, 126, 127, 128, 129, 130, 131, 132, 133, 134, 135, 136, 137, 138, 139, 140, 141, 142, 143, 144, 145, 146, 147, 148, 149, 150, 151, 152, 153, 154, 155, 156, 157, 158, 159, 160, 161, 162, 163, 164, 165, 166, 167] rfl (by decide +kernel)
set_option maxRecDepth 20000 in
theorem gX11_most_X11_isFloor : GoodIn wsX11_most (wsV RX11 278 RX11 yX11_isFloor wsX11_isFloor) := goodIn_app (goodIn_r _ [12, 13, 14, 5] rfl (by decide +kernel)) ggX11_most_X11_isFloor
set_option maxRecDepth 20000 in
theorem ggX11_most_X11_lay : GoodIn wsX11_most wsX11_lay := goodIn_r _ [24, 25, 26, 27, 28, 1, 29, 30, 31, 32, 33, 34, 35, 36, 37, 5, 38, 39, 8, 40, 41, 42, 43, 99, 100, 101, 102, 103, 104, 105, 106, 107, 108, 109, 110, 111, 112, 113, 114, 115, 116, 117, 118, 119, 120, 121, 122, 123, 124, 125, 126, 127, 128, 129, 130, 131, 132, 133, 134, 135, 136, 137, 138, 139, 140, 141, 142, 143, 144, 145, 146, 147, 148, 149, 150, 151, 152, 153, 154, 155, 156, 157, 158, 159, 160, 161, 162, 163, 164, 165, 166, 167] rfl (by decide +kernel)
set_option maxRecDepth 20000 in
theorem gX11_most_X11_lay : GoodIn wsX11_most (wsV RX11 339 RX11 yX11_lay wsX11_lay) := goodIn_app (goodIn_r _ [21, 22, 23, 5] rfl (by decide +kernel)) ggX11_most_X11_lay
set_option maxRecDepth 20000 in
theorem ggX11_most_X11_layJoints : GoodIn wsX11_most wsX11_layJoints := goodIn_r _ [47, 48, 34, 49, 50, 35, 36, 37, 5, 38, 39, 8, 16, 17, 18, 19, 20, 40, 41, 42, 43, 99, 100, 101, 102, 103, 104, 105, 106, 107, 108, 109, 110, 111, 112, 113, 114, 115, 116, 117, 118, 119, 120, 121, 122, 123, 124, 125, 126, 127, 128, 129, 130, 131, 132, 133, 134, 135, 136, 137, 138, 139, 140, 141, 142, 143, 144, 145, 146, 147, 148, 149, 150, 151, 152, 153, 154, 155, 156, 157, 158, 159, 160, 161, 162, 163, 164, 165, 166, 167] rfl (by decide +kernel)
set_option maxRecDepth 20000 in
theorem gX11_most_X11_layJoints : GoodIn wsX11_most (wsV RX11 343 RX11 yX11_layJoints wsX11_layJoints) := goodIn_app (goodIn_r _ [44, 45, 46, 5] rfl (by decide +kernel)) ggX11_most_X11_layJoints
set_option maxRecDepth 20000 in
theorem ggX11_most_X11_reckon : GoodIn wsX11_most wsX11_reckon := goodIn_r _ [54, 26, 55, 56, 57, 8, 58, 59, 1, 28, 60, 61, 30, 31, 62, 63, 16, 17, 18, 5, 19, 20, 64, 65, 66, 67, 68, 69, 70, 71, 72, 73, 74, 33, 99, 100, 101, 102, 103, 104, 105, 106, 107, 108, 109, 110, 111, 112, 113, 114, 115, 116, 117, 118, 119, 120, 121, 122, 123, 124, 125, 126, 127, 128, 129, 130, 131, 132, 133, 134, 135, 136, 137, 138, 139, 140, 141, 142, 143, 144, 145, 146, 147, 148, 149, 150, 151, 152, 153, 154, 155, 156, 157, 158, 159, 160, 161, 162, 163, 164, 165, 166, 167] rfl (by decide +kernel)
set_option maxRecDepth 20000 in
theorem gX11_most_X11_reckon : GoodIn wsX11_most (wsV RX11 346 RX11 yX11_reckon wsX11_reckon) := goodIn_app (goodIn_r _ [51, 52, 53, 5] rfl (by decide +kernel)) ggX11_most_X11_reckon
set_option maxRecDepth 20000 in
theorem ggX11_most_X11_beyondMany : GoodIn wsX11_most wsX11_beyondMany := goodIn_r _ [78, 48, 79, 80, 81, 5, 82, 50, 30, 49, 71, 72, 73, 74, 33, 83, 84, 85, 86, 87, 88, 89, 90, 91, 92, 55, 62, 56, 63, 61, 68, 69, 70, 93, 94, 95, 96, 97, 8, 31, 98, 25, 40, 41, 42, 43, 99, 100, 101, 102, 103, 104, 105, 106, 107, 108, 109, 110, 111, 112, 113, 114, 115, 116, 117, 118, 119, 120, 121, 122, 123, 124, 125, 126, 127, 128, 129, 130, 131, 132, 133, 134, 135, 136, 137, 138, 139, 140, 141, 142, 143, 144, 145, 146, 147, 148, 149, 150, 151, 152, 153, 154, 155, 156, 157, 158, 159, 160, 161, 162, 163, 164, 165, 166, 167] rfl (by decide +kernel)
set_option maxRecDepth 20000 in
theorem gX11_most_X11_beyondMany : GoodIn wsX11_most (wsV RX11 366 RX11 yX11_beyondMany wsX11_beyondMany) := goodIn_app (goodIn_r _ [75, 76, 77, 5] rfl (by decide +kernel)) ggX11_most_X11_beyondMany
set_option maxRecDepth 20000 in
theorem ggX11_elsewhere_X11_isDrawing : GoodIn wsX11_elsewhere wsX11_isDrawing := goodIn_r _ [14, 1, 2, 15, 16, 13, 17, 101, 102, 103, 104, 105, 106, 107, 108, 109, 110, 111, 112, 113, 114, 115, 116, 117, 118, 119, 120, 121, 122, 123, 124, 125, 126, 127, 128, 129, 130, 131, 132, 133, 134, 135, 136, 137, 138, 139, 140, 141, 142, 143, 144, 145, 146, 147, 148, 149, 150, 151, 152, 153, 154, 155, 156, 157, 158, 159, 160, 161, 162, 163, 164, 165, 166, 167, 168, 169] rfl (by decide +kernel)
set_option maxRecDepth 20000 in
theorem gX11_elsewhere_X11_isDrawing : GoodIn wsX11_elsewhere (wsV RX11 349 RX11 yX11_isDrawing wsX11_isDrawing) := goodIn_app (goodIn_r _ [10, 11, 12, 13] rfl (by decide +kernel)) ggX11_elsewhere_X11_isDrawing
set_option maxRecDepth 20000 in
theorem ggX11_elsewhere_X11_floors : GoodIn wsX11_elsewhere wsX11_floors := goodIn_r _ [21, 22, 10, 11, 12, 13, 14, 1, 2, 15, 16, 17, 23, 24, 25, 26, 27, 28, 29, 30, 31, 32, 33, 34, 35, 36, 37, 38, 39, 40, 41, 101, 102, 103, 104, 105, 106, 107, 108, 109, 110, 111, 112, 113, 114, 115, 116, 117, 118, 119, 120, 121, 122, 123, 124, 125, 126, 127, 128, 129, 130, 131, 132, 133, 134, 135, 136, 137, 138, 139, 140, 141, 142, 143, 144, 145, 146, 147, 148, 149, 150, 151, 152, 153, 154, 155, 156, 157, 158, 159, 160, 161, 162, 163, 164, 165, 166, 167, 168, 169] rfl (by decide +kernel)
set_option maxRecDepth 20000 in
theorem gX11_elsewhere_X11_floors : GoodIn wsX11_elsewhere (wsV RX11 419 RX11 yX11_floors wsX11_floors) := goodIn_app (goodIn_r _ [18, 19, 20, 13] rfl (by decide +kernel)) ggX11_elsewhere_X11_floors
set_option maxRecDepth 20000 in
theorem ggX11_elsewhere_X11_layAll : GoodIn wsX11_elsewhere wsX11_layAll := goodIn_r _ [45, 46, 47, 48, 13, 49, 50, 51, 52, 53, 54, 55, 56, 57, 22, 58, 27, 28, 29, 30, 31, 32, 2, 33, 34, 35, 36, 59, 60, 61, 62, 3, 63, 4, 37, 38, 39, 40, 41, 64, 65, 66, 67, 68, 69, 70, 71, 72, 73, 74, 75, 76, 77, 78, 79, 80, 81, 82, 83, 84, 85, 86, 87, 101, 102, 103, 104, 105, 106, 107, 108, 109, 110, 111, 112, 113, 114, 115, 116, 117, 118, 119, 120, 121, 122, 123, 124, 125, 126, 127, 128, 129, 130, 131, 132, 133, 134, 135, 136, 137, 138, 139, 140, 141, 142, 143, 144, 145, 146, 147, 148, 149, 150, 151, 152, 153, 154, 155, 156, 157, 158, 159, 160, 161, 162, 163, 164, 165, 166, 167, 168, 169] rfl (by decide +kernel)
set_option maxRecDepth 20000 in
theorem gX11_elsewhere_X11_layAll : GoodIn wsX11_elsewhere (wsV RX11 355 RX11 yX11_layAll wsX11_layAll) := goodIn_app (goodIn_r _ [42, 43, 44, 13] rfl (by decide +kernel)) ggX11_elsewhere_X11_layAll
set_option maxRecDepth 20000 in
theorem ggX11_elsewhere_X11_bear : GoodIn wsX11_elsewhere wsX11_bear := goodIn_r _ [91, 4, 68, 63, 75, 6, 69, 76, 74, 8, 81, 82, 13, 83, 101, 102, 103, 104, 105, 106, 107, 108, 109, 110, 111, 112, 113, 114, 115, 116, 117, 118, 119, 120, 121, 122, 123, 124, 125, 126, 127, 128, 129, 130, 131, 132, 133, 134, 135, 136, 137, 138, 139, 140, 141, 142, 143, 144, 145, 146, 147, 148, 149, 150, 151, 152, 153, 154, 155, 156, 157, 158, 159, 160, 161, 162, 163, 164, 165, 166, 167, 168, 169] rfl (by decide +kernel)
set_option maxRecDepth 20000 in
theorem gX11_elsewhere_X11_bear : GoodIn wsX11_elsewhere (wsV RX11 325 RX11 yX11_bear wsX11_bear) := goodIn_app (goodIn_r _ [88, 89, 90, 13] rfl (by decide +kernel)) ggX11_elsewhere_X11_bear
set_option maxRecDepth 20000 in
theorem ggX11_elsewhere_X11_canOf : GoodIn wsX11_elsewhere wsX11_canOf := goodIn_r _ [95, 63, 4, 96, 2, 57, 97, 50, 33, 34, 35, 13, 36, 101, 102, 103, 104, 105, 106, 107, 108, 109, 110, 111, 112, 113, 114, 115, 116, 117, 118, 119, 120, 121, 122, 123, 124, 125, 126, 127, 128, 129, 130, 131, 132, 133, 134, 135, 136, 137, 138, 139, 140, 141, 142, 143, 144, 145, 146, 147, 148, 149, 150, 151, 152, 153, 154, 155, 156, 157, 158, 159, 160, 161, 162, 163, 164, 165, 166, 167, 168, 169] rfl (by decide +kernel)
set_option maxRecDepth 20000 in
theorem gX11_elsewhere_X11_canOf : GoodIn wsX11_elsewhere (wsV RX11 329 RX11 yX11_canOf wsX11_canOf) := goodIn_app (goodIn_r _ [92, 93, 94, 13] rfl (by decide +kernel)) ggX11_elsewhere_X11_canOf
set_option maxRecDepth 20000 in
theorem ggX11_elsewhere_X11_isMore : GoodIn wsX11_elsewhere wsX11_isMore := goodIn_r _ [100] rfl (by decide +kernel)
set_option maxRecDepth 20000 in
theorem gX11_elsewhere_X11_isMore : GoodIn wsX11_elsewhere (va_wsS RX11 335 yX11_isMore wsX11_isMore) := goodIn_app (goodIn_r _ [98, 99, 13] rfl (by decide +kernel)) ggX11_elsewhere_X11_isMore
set_option maxRecDepth 20000 in
theorem ggX11_about_X11_floorMany : GoodIn wsX11_about wsX11_floorMany := goodIn_r _ [12, 13, 3, 17, 18, 19, 20, 21, 22, 23, 24, 25, 26, 27, 28, 29, 30, 31, 32, 33, 34, 35, 36, 37, 38, 39, 40, 41, 42, 43, 44, 45, 46, 47, 48, 49, 50, 51, 52, 53, 54, 55, 56, 57, 58, 59, 60, 61, 62, 63, 64, 65, 66, 67, 68, 69, 70, 71, 72, 73, 74, 75, 76, 77, 78, 79, 80, 81, 82, 83, 84, 85] rfl (by decide +kernel)
set_option maxRecDepth 20000 in
theorem gX11_about_X11_floorMany : GoodIn wsX11_about (wsV RX11 270 RX11 yX11_floorMany wsX11_floorMany) := goodIn_app (goodIn_r _ [8, 9, 10, 11] rfl (by decide +kernel)) ggX11_about_X11_floorMany
set_option maxRecDepth 20000 in
theorem ggX11_about_X11_isIn : GoodIn wsX11_about wsX11_isIn := goodIn_r _ [16] rfl (by decide +kernel)
set_option maxRecDepth 20000 in
theorem gX11_about_X11_isIn : GoodIn wsX11_about (va_wsS RX11 274 yX11_isIn wsX11_isIn) := goodIn_app (goodIn_r _ [14, 15, 11] rfl (by decide +kernel)) ggX11_about_X11_isIn

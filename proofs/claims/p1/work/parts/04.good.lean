set_option maxRecDepth 20000 in
theorem iw_X0_init_X0 : ∀ w ∈ wsX00, w ∈ wsX0_init := by decide +kernel
set_option maxRecDepth 20000 in
theorem iw_X10_about_X10 : ∀ w ∈ wsX100, w ∈ wsX10_about := by decide +kernel
set_option maxRecDepth 20000 in
theorem iw_X10_about_X6 : ∀ w ∈ wsX60, w ∈ wsX10_about := by decide +kernel
set_option maxRecDepth 20000 in
theorem iw_X10_about_X7 : ∀ w ∈ wsX70, w ∈ wsX10_about := by decide +kernel
set_option maxRecDepth 20000 in
theorem iw_X10_believed_X10 : ∀ w ∈ wsX100, w ∈ wsX10_believed := by decide +kernel
set_option maxRecDepth 20000 in
theorem iw_X10_end_X10 : ∀ w ∈ wsX100, w ∈ wsX10_end := by decide +kernel
set_option maxRecDepth 20000 in
theorem iw_X10_fault_X10 : ∀ w ∈ wsX100, w ∈ wsX10_fault := by decide +kernel
set_option maxRecDepth 20000 in
theorem iw_X10_fault_X4 : ∀ w ∈ wsX40, w ∈ wsX10_fault := by decide +kernel
set_option maxRecDepth 20000 in
theorem iw_X10_feed_X10 : ∀ w ∈ wsX100, w ∈ wsX10_feed := by decide +kernel
set_option maxRecDepth 20000 in
theorem iw_X10_hollow_X10 : ∀ w ∈ wsX100, w ∈ wsX10_hollow := by decide +kernel
set_option maxRecDepth 20000 in
theorem iw_X10_hollow_X6 : ∀ w ∈ wsX60, w ∈ wsX10_hollow := by decide +kernel
set_option maxRecDepth 20000 in
theorem iw_X10_house_X10 : ∀ w ∈ wsX100, w ∈ wsX10_house := by decide +kernel
set_option maxRecDepth 20000 in
theorem iw_X10_house_X7 : ∀ w ∈ wsX70, w ∈ wsX10_house := by decide +kernel
set_option maxRecDepth 20000 in
theorem iw_X10_init_X0 : ∀ w ∈ wsX00, w ∈ wsX10_init := by decide +kernel
set_option maxRecDepth 20000 in
theorem iw_X10_init_X1 : ∀ w ∈ wsX10, w ∈ wsX10_init := by decide +kernel
set_option maxRecDepth 20000 in
theorem iw_X10_init_X10 : ∀ w ∈ wsX100, w ∈ wsX10_init := by decide +kernel
set_option maxRecDepth 20000 in
theorem iw_X10_init_X3 : ∀ w ∈ wsX30, w ∈ wsX10_init := by decide +kernel
set_option maxRecDepth 20000 in
theorem iw_X10_init_X4 : ∀ w ∈ wsX40, w ∈ wsX10_init := by decide +kernel
set_option maxRecDepth 20000 in
theorem iw_X10_init_X6 : ∀ w ∈ wsX60, w ∈ wsX10_init := by decide +kernel
set_option maxRecDepth 20000 in
theorem iw_X10_init_X7 : ∀ w ∈ wsX70, w ∈ wsX10_init := by decide +kernel
set_option maxRecDepth 20000 in
theorem iw_X10_init_X8 : ∀ w ∈ wsX80, w ∈ wsX10_init := by decide +kernel
set_option maxRecDepth 20000 in
theorem iw_X10_isDrawing_X10 : ∀ w ∈ wsX100, w ∈ wsX10_isDrawing := by decide +kernel
set_option maxRecDepth 20000 in
theorem iw_X10_isDrawing_X7 : ∀ w ∈ wsX70, w ∈ wsX10_isDrawing := by decide +kernel
set_option maxRecDepth 20000 in
theorem iw_X10_isFloor_X10 : ∀ w ∈ wsX100, w ∈ wsX10_isFloor := by decide +kernel
set_option maxRecDepth 20000 in
theorem iw_X10_isFloor_X7 : ∀ w ∈ wsX70, w ∈ wsX10_isFloor := by decide +kernel
set_option maxRecDepth 20000 in
theorem iw_X10_later_X10 : ∀ w ∈ wsX100, w ∈ wsX10_later := by decide +kernel
set_option maxRecDepth 20000 in
theorem iw_X10_leastRule_X10 : ∀ w ∈ wsX100, w ∈ wsX10_leastRule := by decide +kernel
set_option maxRecDepth 20000 in
theorem iw_X10_leastRule_X7 : ∀ w ∈ wsX70, w ∈ wsX10_leastRule := by decide +kernel
set_option maxRecDepth 20000 in
theorem iw_X10_move_X10 : ∀ w ∈ wsX100, w ∈ wsX10_move := by decide +kernel
set_option maxRecDepth 20000 in
theorem iw_X10_putOnTape_X10 : ∀ w ∈ wsX100, w ∈ wsX10_putOnTape := by decide +kernel
set_option maxRecDepth 20000 in
theorem iw_X10_rule_X10 : ∀ w ∈ wsX100, w ∈ wsX10_rule := by decide +kernel
set_option maxRecDepth 20000 in
theorem iw_X10_rule_X7 : ∀ w ∈ wsX70, w ∈ wsX10_rule := by decide +kernel
set_option maxRecDepth 20000 in
theorem iw_X10_story_X10 : ∀ w ∈ wsX100, w ∈ wsX10_story := by decide +kernel
set_option maxRecDepth 20000 in
theorem iw_X10_untell_X10 : ∀ w ∈ wsX100, w ∈ wsX10_untell := by decide +kernel
set_option maxRecDepth 20000 in
theorem iw_X11_about_X11 : ∀ w ∈ wsX110, w ∈ wsX11_about := by decide +kernel
set_option maxRecDepth 20000 in
theorem iw_X11_believed_X11 : ∀ w ∈ wsX110, w ∈ wsX11_believed := by decide +kernel
set_option maxRecDepth 20000 in
theorem iw_X11_end_X11 : ∀ w ∈ wsX110, w ∈ wsX11_end := by decide +kernel
set_option maxRecDepth 20000 in
theorem iw_X11_fault_X11 : ∀ w ∈ wsX110, w ∈ wsX11_fault := by decide +kernel
set_option maxRecDepth 20000 in
theorem iw_X11_feed_X11 : ∀ w ∈ wsX110, w ∈ wsX11_feed := by decide +kernel
set_option maxRecDepth 20000 in
theorem iw_X11_floorMany_X11 : ∀ w ∈ wsX110, w ∈ wsX11_floorMany := by decide +kernel
set_option maxRecDepth 20000 in
theorem iw_X11_goOn_X11 : ∀ w ∈ wsX110, w ∈ wsX11_goOn := by decide +kernel
set_option maxRecDepth 20000 in
theorem iw_X11_hollow_X11 : ∀ w ∈ wsX110, w ∈ wsX11_hollow := by decide +kernel
set_option maxRecDepth 20000 in
theorem iw_X11_house_X11 : ∀ w ∈ wsX110, w ∈ wsX11_house := by decide +kernel
set_option maxRecDepth 20000 in
theorem iw_X11_init_X11 : ∀ w ∈ wsX110, w ∈ wsX11_init := by decide +kernel
set_option maxRecDepth 20000 in
theorem iw_X11_isDrawing_X11 : ∀ w ∈ wsX110, w ∈ wsX11_isDrawing := by decide +kernel
set_option maxRecDepth 20000 in
theorem iw_X11_isGood_X11 : ∀ w ∈ wsX110, w ∈ wsX11_isGood := by decide +kernel
set_option maxRecDepth 20000 in
theorem iw_X11_later_X11 : ∀ w ∈ wsX110, w ∈ wsX11_later := by decide +kernel
set_option maxRecDepth 20000 in
theorem iw_X11_move_X11 : ∀ w ∈ wsX110, w ∈ wsX11_move := by decide +kernel
set_option maxRecDepth 20000 in
theorem iw_X11_rule_X11 : ∀ w ∈ wsX110, w ∈ wsX11_rule := by decide +kernel
set_option maxRecDepth 20000 in
theorem iw_X11_sign_X11 : ∀ w ∈ wsX110, w ∈ wsX11_sign := by decide +kernel
set_option maxRecDepth 20000 in
theorem iw_X11_story_X11 : ∀ w ∈ wsX110, w ∈ wsX11_story := by decide +kernel
set_option maxRecDepth 20000 in
theorem iw_X11_untell_X11 : ∀ w ∈ wsX110, w ∈ wsX11_untell := by decide +kernel
set_option maxRecDepth 20000 in
theorem iw_X11_weak_X11 : ∀ w ∈ wsX110, w ∈ wsX11_weak := by decide +kernel
set_option maxRecDepth 20000 in
theorem iw_X1_init_X1 : ∀ w ∈ wsX10, w ∈ wsX1_init := by decide +kernel
set_option maxRecDepth 20000 in
theorem iw_X3_init_X3 : ∀ w ∈ wsX30, w ∈ wsX3_init := by decide +kernel
set_option maxRecDepth 20000 in
theorem iw_X3_init_X7 : ∀ w ∈ wsX70, w ∈ wsX3_init := by decide +kernel
set_option maxRecDepth 20000 in
theorem iw_X4_init_X4 : ∀ w ∈ wsX40, w ∈ wsX4_init := by decide +kernel
set_option maxRecDepth 20000 in
theorem iw_X4_init_X7 : ∀ w ∈ wsX70, w ∈ wsX4_init := by decide +kernel
set_option maxRecDepth 20000 in
theorem iw_X4_init_X9 : ∀ w ∈ wsX90, w ∈ wsX4_init := by decide +kernel
set_option maxRecDepth 20000 in
theorem iw_X4_readHouse_X4 : ∀ w ∈ wsX40, w ∈ wsX4_readHouse := by decide +kernel
set_option maxRecDepth 20000 in
theorem iw_X6_forgetAll_X6 : ∀ w ∈ wsX60, w ∈ wsX6_forgetAll := by decide +kernel
set_option maxRecDepth 20000 in
theorem iw_X6_init_X6 : ∀ w ∈ wsX60, w ∈ wsX6_init := by decide +kernel
set_option maxRecDepth 20000 in
theorem iw_X6_isPaper_X6 : ∀ w ∈ wsX60, w ∈ wsX6_isPaper := by decide +kernel
set_option maxRecDepth 20000 in
theorem iw_X6_oddsTogether_X6 : ∀ w ∈ wsX60, w ∈ wsX6_oddsTogether := by decide +kernel
set_option maxRecDepth 20000 in
theorem iw_X7_empty_X7 : ∀ w ∈ wsX70, w ∈ wsX7_empty := by decide +kernel
set_option maxRecDepth 20000 in
theorem iw_X7_init_X7 : ∀ w ∈ wsX70, w ∈ wsX7_init := by decide +kernel
set_option maxRecDepth 20000 in
theorem iw_X8_init_X8 : ∀ w ∈ wsX80, w ∈ wsX8_init := by decide +kernel
set_option maxRecDepth 20000 in
theorem iw_X9_advance_X9 : ∀ w ∈ wsX90, w ∈ wsX9_advance := by decide +kernel
set_option maxRecDepth 20000 in
theorem iw_X9_begin_X9 : ∀ w ∈ wsX90, w ∈ wsX9_begin := by decide +kernel
set_option maxRecDepth 20000 in
theorem iw_X9_init_X9 : ∀ w ∈ wsX90, w ∈ wsX9_init := by decide +kernel
set_option maxRecDepth 20000 in
theorem ggX10_about_X10_isFloor : GoodIn wsX10_about wsX10_isFloor := goodIn_r _ [14, 1, 2, 15, 16, 17, 18, 19, 20, 21, 22, 23, 24, 25, 26, 27, 28, 29, 30, 31, 32, 33, 34, 35, 36, 37, 38, 39, 40] (by decide +kernel) (by decide +kernel)
set_option maxRecDepth 20000 in
theorem gX10_about_X10_isFloor : GoodIn wsX10_about (wsV RX10 102 RX10 yX10_isFloor wsX10_isFloor) := goodIn_app (goodIn_of _ (by decide +kernel)) ggX10_about_X10_isFloor
set_option maxRecDepth 20000 in
theorem ggX10_bears_X10_isJoint : GoodIn wsX10_bears wsX10_isJoint := goodIn_r _ [7, 8, 9, 10, 11, 6, 12, 13, 14, 15, 16, 17, 18, 19, 20, 21, 22, 23, 24, 25, 26, 27, 28, 116, 117, 118, 119, 120, 121, 122, 123, 124, 125, 126, 127, 128, 129, 130, 131, 132, 133, 134, 135, 136, 137, 138, 139, 140, 141] (by decide +kernel) (by decide +kernel)
set_option maxRecDepth 20000 in
theorem gX10_bears_X10_isJoint : GoodIn wsX10_bears (wsV RX10 116 RX10 yX10_isJoint wsX10_isJoint) := goodIn_app (goodIn_of _ (by decide +kernel)) ggX10_bears_X10_isJoint
set_option maxRecDepth 20000 in
theorem ggX10_believed_X2_partOf : GoodIn wsX10_believed wsX2_partOf := goodIn_r _ [20, 21, 22, 23, 24, 25, 26, 19, 27] (by decide +kernel) (by decide +kernel)
set_option maxRecDepth 20000 in
theorem gX10_believed_X2_partOf : GoodIn wsX10_believed (va_wsS RX10 146 yX2_partOf wsX2_partOf) := goodIn_app (goodIn_of _ (by decide +kernel)) ggX10_believed_X2_partOf
set_option maxRecDepth 20000 in
theorem ggX10_believed_X6_oddsTogether : GoodIn wsX10_believed wsX6_oddsTogether := goodIn_r _ [6, 7, 8, 9, 10, 11, 12, 13, 5, 14, 15, 16, 42, 43, 44, 45, 46, 47, 48, 49, 50, 51, 52, 53] (by decide +kernel) (by decide +kernel)
set_option maxRecDepth 20000 in
theorem gX10_believed_X6_oddsTogether : GoodIn wsX10_believed (wsV RX10 258 RX6 yX6_oddsTogether wsX6_oddsTogether) := goodIn_app (goodIn_of _ (by decide +kernel)) ggX10_believed_X6_oddsTogether
set_option maxRecDepth 20000 in
theorem ggX10_beyond_X10_isDrawing : GoodIn wsX10_beyond wsX10_isDrawing := goodIn_r _ [6, 7, 8, 108, 109, 110, 111, 112, 113, 114, 115, 116, 117, 118, 119, 120, 121, 122, 123, 124, 125, 126, 127, 128, 129, 130, 131, 132, 133] (by decide +kernel) (by decide +kernel)
set_option maxRecDepth 20000 in
theorem gX10_beyond_X10_isDrawing : GoodIn wsX10_beyond (wsV RX10 109 RX10 yX10_isDrawing wsX10_isDrawing) := goodIn_app (goodIn_of _ (by decide +kernel)) ggX10_beyond_X10_isDrawing
set_option maxRecDepth 20000 in
theorem ggX10_change_X10_isDrawing : GoodIn wsX10_change wsX10_isDrawing := goodIn_r _ [8, 9, 10, 112, 113, 114, 115, 116, 117, 118, 119, 120, 121, 122, 123, 124, 125, 142, 143, 144, 145, 146, 147, 148, 149, 150, 151, 152, 153] (by decide +kernel) (by decide +kernel)
set_option maxRecDepth 20000 in
theorem gX10_change_X10_isDrawing : GoodIn wsX10_change (wsV RX10 109 RX10 yX10_isDrawing wsX10_isDrawing) := goodIn_app (goodIn_of _ (by decide +kernel)) ggX10_change_X10_isDrawing
set_option maxRecDepth 20000 in
theorem ggX10_elsewhere_X10_isDrawing : GoodIn wsX10_elsewhere wsX10_isDrawing := goodIn_r _ [9, 2, 3, 137, 138, 139, 140, 141, 142, 143, 144, 145, 146, 147, 148, 149, 150, 151, 152, 153, 154, 155, 156, 157, 158, 159, 160, 161, 162] (by decide +kernel) (by decide +kernel)
set_option maxRecDepth 20000 in
theorem gX10_elsewhere_X10_isDrawing : GoodIn wsX10_elsewhere (wsV RX10 109 RX10 yX10_isDrawing wsX10_isDrawing) := goodIn_app (goodIn_of _ (by decide +kernel)) ggX10_elsewhere_X10_isDrawing
set_option maxRecDepth 20000 in
theorem ggX10_fall_X10_isDrawing : GoodIn wsX10_fall wsX10_isDrawing := goodIn_r _ [9, 10, 11, 140, 141, 142, 143, 144, 145, 146, 147, 148, 149, 150, 151, 152, 153, 157, 158, 159, 160, 161, 162, 163, 164, 165, 166, 167, 168] (by decide +kernel) (by decide +kernel)
set_option maxRecDepth 20000 in
theorem gX10_fall_X10_isDrawing : GoodIn wsX10_fall (wsV RX10 109 RX10 yX10_isDrawing wsX10_isDrawing) := goodIn_app (goodIn_of _ (by decide +kernel)) ggX10_fall_X10_isDrawing
set_option maxRecDepth 20000 in
theorem ggX10_feed_X10_putOnTape : GoodIn wsX10_feed wsX10_putOnTape := goodIn_r _ [6, 1, 7, 8, 9, 10, 11, 12, 13, 14, 15, 16, 17, 18, 19, 20, 21] (by decide +kernel) (by decide +kernel)
set_option maxRecDepth 20000 in
theorem gX10_feed_X10_putOnTape : GoodIn wsX10_feed (wsV RX10 82 RX10 yX10_putOnTape wsX10_putOnTape) := goodIn_app (goodIn_of _ (by decide +kernel)) ggX10_feed_X10_putOnTape
set_option maxRecDepth 20000 in
theorem ggX10_floors_X10_isDrawing : GoodIn wsX10_floors wsX10_isDrawing := goodIn_r _ [7, 2, 8, 52, 53, 54, 55, 56, 57, 58, 59, 60, 61, 62, 63, 64, 65, 66, 67, 68, 69, 70, 71, 72, 73, 74, 75, 76, 77] (by decide +kernel) (by decide +kernel)
set_option maxRecDepth 20000 in
theorem gX10_floors_X10_isDrawing : GoodIn wsX10_floors (wsV RX10 109 RX10 yX10_isDrawing wsX10_isDrawing) := goodIn_app (goodIn_of _ (by decide +kernel)) ggX10_floors_X10_isDrawing
set_option maxRecDepth 20000 in
theorem ggX10_goes_X10_isDrawing : GoodIn wsX10_goes wsX10_isDrawing := goodIn_r _ [9, 10, 11, 137, 138, 139, 140, 141, 142, 143, 144, 145, 146, 147, 148, 149, 150, 154, 155, 156, 157, 158, 159, 160, 161, 162, 163, 164, 165] (by decide +kernel) (by decide +kernel)
set_option maxRecDepth 20000 in
theorem gX10_goes_X10_isDrawing : GoodIn wsX10_goes (wsV RX10 109 RX10 yX10_isDrawing wsX10_isDrawing) := goodIn_app (goodIn_of _ (by decide +kernel)) ggX10_goes_X10_isDrawing
set_option maxRecDepth 20000 in
theorem ggX10_house_X4_readHouse : GoodIn wsX10_house wsX4_readHouse := goodIn_r _ [14, 15, 16, 17, 18, 19, 20, 21, 22, 23, 24, 25, 26, 27, 28, 29, 30, 31, 32, 33, 34, 35, 36, 37, 38, 39, 40, 41, 42, 43, 44, 45, 46, 47, 48, 49, 50, 51, 52, 53, 54, 55, 56, 57, 58, 59, 60, 61, 62, 63, 13, 64, 65, 66, 67, 68, 69, 70, 71, 72, 73, 74, 75, 76, 77, 78, 79, 80, 81, 82, 83, 84, 85, 86, 87, 88, 89, 90, 91, 92, 93, 94, 95, 96, 97, 98, 99, 100, 101, 102, 103, 104, 105, 106, 107, 108, 109, 110, 111, 112, 113, 114, 115, 116, 117, 118, 119, 120, 121, 122, 123, 124, 125, 126, 127, 128, 129, 130, 131, 132, 133, 134, 135, 136, 137, 138, 139, 140, 141, 142, 143, 144, 145, 146, 147, 148, 149, 150, 151, 152, 153, 154, 155, 156, 157, 158, 159, 160, 161, 162, 163, 164, 165, 166, 167, 168, 169, 170, 171, 172, 173, 174, 175, 176, 177, 178, 179, 180, 181, 182, 183, 184, 185, 186, 187, 221, 222, 223, 224, 225, 226, 227, 228, 229, 230, 231, 209, 210, 211, 212, 213, 214, 215, 216, 217, 218, 219, 220] (by decide +kernel) (by decide +kernel)
set_option maxRecDepth 20000 in
theorem gX10_house_X4_readHouse : GoodIn wsX10_house (wsV RX10 86 RX4 yX4_readHouse wsX4_readHouse) := goodIn_app (goodIn_of _ (by decide +kernel)) ggX10_house_X4_readHouse
set_option maxRecDepth 20000 in
theorem ggX10_house_X6_forgetAll : GoodIn wsX10_house wsX6_forgetAll := goodIn_r _ [192, 193, 194, 232, 233, 234, 235, 236, 237, 238, 239, 240, 241, 242, 243] (by decide +kernel) (by decide +kernel)
set_option maxRecDepth 20000 in
theorem gX10_house_X6_forgetAll : GoodIn wsX10_house (wsV RX10 90 RX6 yX6_forgetAll wsX6_forgetAll) := goodIn_app (goodIn_of _ (by decide +kernel)) ggX10_house_X6_forgetAll
set_option maxRecDepth 20000 in
theorem ggX10_init_X0_init : GoodIn wsX10_init wsX0_init := goodIn_r _ [106, 107, 2, 3, 108, 45, 109, 110, 111, 112, 16, 113, 114, 115, 116, 117, 190, 191, 192, 193, 194, 195, 196, 197, 198] (by decide +kernel) (by decide +kernel)
set_option maxRecDepth 20000 in
theorem gX10_init_X0_init_n60 : GoodIn wsX10_init (wsX0_init) := ggX10_init_X0_init
set_option maxRecDepth 20000 in
theorem ggX10_init_X1_init : GoodIn wsX10_init wsX1_init := goodIn_r _ [100, 101, 2, 3, 102, 103, 16, 104, 187, 188, 189] (by decide +kernel) (by decide +kernel)
set_option maxRecDepth 20000 in
theorem gX10_init_X1_init_n53 : GoodIn wsX10_init (wsX1_init) := ggX10_init_X1_init
set_option maxRecDepth 20000 in
theorem ggX10_init_X3_init : GoodIn wsX10_init wsX3_init := goodIn_r _ [80, 81, 2, 3, 82, 8, 9, 83, 84, 85, 86, 16, 87, 88, 89, 90, 45, 91, 92, 93, 94, 95, 96, 97, 98, 41, 42, 43, 44, 46, 47, 48, 49, 50, 51, 52, 53, 54, 55, 56, 155, 156, 157, 158, 159, 160, 161, 162, 163, 164, 165, 166, 171, 172, 173, 174, 175, 176, 177, 178, 179, 180, 181, 182, 183, 184, 185, 186] (by decide +kernel) (by decide +kernel)
set_option maxRecDepth 20000 in
theorem gX10_init_X3_init_n43 : GoodIn wsX10_init (wsX3_init) := ggX10_init_X3_init
set_option maxRecDepth 20000 in
theorem ggX10_init_X4_init : GoodIn wsX10_init wsX4_init := goodIn_r _ [58, 59, 2, 3, 60, 61, 62, 63, 64, 8, 9, 65, 66, 67, 68, 69, 70, 4, 71, 72, 73, 74, 75, 76, 77, 78, 41, 42, 43, 44, 45, 46, 16, 47, 48, 49, 50, 51, 52, 53, 54, 55, 56, 215, 216, 217, 218, 219, 220, 221, 167, 168, 169, 170, 155, 156, 157, 158, 159, 160, 161, 162, 163, 164, 165, 166] (by decide +kernel) (by decide +kernel)
set_option maxRecDepth 20000 in
theorem gX10_init_X4_init_n29 : GoodIn wsX10_init (wsX4_init) := ggX10_init_X4_init
set_option maxRecDepth 20000 in
theorem ggX10_init_X6_init : GoodIn wsX10_init wsX6_init := goodIn_r _ [126, 127, 2, 3, 128, 16, 129, 130, 131, 132, 133, 134, 135, 136, 137, 138, 139, 140, 203, 204, 205, 206, 207, 208, 209, 210, 211, 212, 213, 214] (by decide +kernel) (by decide +kernel)
set_option maxRecDepth 20000 in
theorem gX10_init_X6_init_n74 : GoodIn wsX10_init (wsX6_init) := ggX10_init_X6_init
set_option maxRecDepth 20000 in
theorem ggX10_init_X7_init : GoodIn wsX10_init wsX7_init := goodIn_r _ [42, 43, 2, 3, 44, 45, 46, 16, 47, 48, 49, 50, 51, 52, 53, 54, 55, 56, 155, 156, 157, 158, 159, 160, 161, 162, 163, 164, 165, 166] (by decide +kernel) (by decide +kernel)
set_option maxRecDepth 20000 in
theorem gX10_init_X7_init_n19 : GoodIn wsX10_init (wsX7_init) := ggX10_init_X7_init
set_option maxRecDepth 20000 in
theorem ggX10_init_X8_init : GoodIn wsX10_init wsX8_init := goodIn_r _ [119, 120, 2, 3, 121, 16, 122, 45, 123, 124, 199, 200, 201, 202] (by decide +kernel) (by decide +kernel)
set_option maxRecDepth 20000 in
theorem gX10_init_X8_init_n67 : GoodIn wsX10_init (wsX8_init) := ggX10_init_X8_init
set_option maxRecDepth 20000 in
theorem ggX10_isJoint_X10_isDrawing : GoodIn wsX10_isJoint wsX10_isDrawing := goodIn_r _ [6, 1, 7, 23, 24, 25, 26, 27, 28, 29, 30, 31, 32, 33, 34, 35, 36, 37, 38, 39, 40, 41, 42, 43, 44, 45, 46, 47, 48] (by decide +kernel) (by decide +kernel)
set_option maxRecDepth 20000 in
theorem gX10_isJoint_X10_isDrawing : GoodIn wsX10_isJoint (wsV RX10 109 RX10 yX10_isDrawing wsX10_isDrawing) := goodIn_app (goodIn_of _ (by decide +kernel)) ggX10_isJoint_X10_isDrawing
set_option maxRecDepth 20000 in
theorem ggX10_joint_X10_isJoint : GoodIn wsX10_joint wsX10_isJoint := goodIn_r _ [8, 9, 10, 11, 12, 7, 13, 14, 15, 16, 17, 18, 19, 20, 21, 22, 23, 24, 25, 26, 27, 28, 29, 126, 127, 128, 129, 130, 131, 132, 133, 134, 135, 136, 137, 138, 139, 156, 157, 158, 159, 160, 161, 162, 163, 164, 165, 166, 167] (by decide +kernel) (by decide +kernel)
set_option maxRecDepth 20000 in
theorem gX10_joint_X10_isJoint : GoodIn wsX10_joint (wsV RX10 116 RX10 yX10_isJoint wsX10_isJoint) := goodIn_app (goodIn_of _ (by decide +kernel)) ggX10_joint_X10_isJoint
set_option maxRecDepth 20000 in
theorem ggX10_joints_X10_isDrawing : GoodIn wsX10_joints wsX10_isDrawing := goodIn_r _ [6, 1, 7, 23, 24, 25, 26, 27, 28, 29, 30, 31, 32, 33, 34, 35, 36, 37, 38, 39, 40, 41, 42, 43, 44, 45, 46, 47, 48] (by decide +kernel) (by decide +kernel)
set_option maxRecDepth 20000 in
theorem gX10_joints_X10_isDrawing : GoodIn wsX10_joints (wsV RX10 109 RX10 yX10_isDrawing wsX10_isDrawing) := goodIn_app (goodIn_of _ (by decide +kernel)) ggX10_joints_X10_isDrawing
set_option maxRecDepth 20000 in
theorem ggX10_live_X10_isFloor : GoodIn wsX10_live wsX10_isFloor := goodIn_r _ [6, 7, 8, 9, 10, 11, 12, 13, 14, 15, 16, 17, 18, 19, 20, 21, 22, 23, 24, 25, 26, 27, 28, 29, 30, 31, 32, 33, 34] (by decide +kernel) (by decide +kernel)
set_option maxRecDepth 20000 in
theorem gX10_live_X10_isFloor : GoodIn wsX10_live (wsV RX10 102 RX10 yX10_isFloor wsX10_isFloor) := goodIn_app (goodIn_of _ (by decide +kernel)) ggX10_live_X10_isFloor
set_option maxRecDepth 20000 in
theorem ggX10_mend_X10_isDrawing : GoodIn wsX10_mend wsX10_isDrawing := goodIn_r _ [6, 7, 8, 115, 116, 117, 118, 119, 120, 121, 122, 123, 124, 125, 126, 127, 128, 129, 130, 131, 132, 133, 134, 135, 136, 137, 138, 139, 140] (by decide +kernel) (by decide +kernel)
set_option maxRecDepth 20000 in
theorem gX10_mend_X10_isDrawing : GoodIn wsX10_mend (wsV RX10 109 RX10 yX10_isDrawing wsX10_isDrawing) := goodIn_app (goodIn_of _ (by decide +kernel)) ggX10_mend_X10_isDrawing
set_option maxRecDepth 20000 in
theorem ggX10_most_X10_isDrawing : GoodIn wsX10_most wsX10_isDrawing := goodIn_r _ [7, 8, 9, 101, 102, 103, 104, 105, 106, 107, 108, 109, 110, 111, 112, 113, 114, 115, 116, 117, 118, 119, 120, 121, 122, 123, 124, 125, 126] (by decide +kernel) (by decide +kernel)
set_option maxRecDepth 20000 in
theorem gX10_most_X10_isDrawing : GoodIn wsX10_most (wsV RX10 109 RX10 yX10_isDrawing wsX10_isDrawing) := goodIn_app (goodIn_of _ (by decide +kernel)) ggX10_most_X10_isDrawing
set_option maxRecDepth 20000 in
theorem ggX10_move_X10_isMove : GoodIn wsX10_move wsX10_isMove := goodIn_r _ [5] (by decide +kernel) (by decide +kernel)
set_option maxRecDepth 20000 in
theorem gX10_move_X10_isMove : GoodIn wsX10_move (va_wsS RX10 106 yX10_isMove wsX10_isMove) := goodIn_app (goodIn_of _ (by decide +kernel)) ggX10_move_X10_isMove
set_option maxRecDepth 20000 in
theorem ggX10_odds_X10_isDrawing : GoodIn wsX10_odds wsX10_isDrawing := goodIn_r _ [11, 3, 12, 150, 151, 152, 153, 154, 155, 156, 157, 158, 159, 160, 161, 162, 163, 173, 174, 175, 176, 177, 178, 179, 180, 181, 182, 183, 184] (by decide +kernel) (by decide +kernel)
set_option maxRecDepth 20000 in
theorem gX10_odds_X10_isDrawing : GoodIn wsX10_odds (wsV RX10 109 RX10 yX10_isDrawing wsX10_isDrawing) := goodIn_app (goodIn_of _ (by decide +kernel)) ggX10_odds_X10_isDrawing
set_option maxRecDepth 20000 in
theorem ggX10_paper_X10_isDay : GoodIn wsX10_paper wsX10_isDay := goodIn_r _ [9] (by decide +kernel) (by decide +kernel)
set_option maxRecDepth 20000 in
theorem gX10_paper_X10_isDay : GoodIn wsX10_paper (va_wsS RX10 265 yX10_isDay wsX10_isDay) := goodIn_app (goodIn_of _ (by decide +kernel)) ggX10_paper_X10_isDay
set_option maxRecDepth 20000 in
theorem ggX10_paper_X10_isDrawing : GoodIn wsX10_paper wsX10_isDrawing := goodIn_r _ [13, 14, 15, 29, 30, 31, 32, 33, 34, 35, 36, 37, 38, 39, 40, 41, 42, 43, 44, 45, 46, 47, 48, 49, 50, 51, 52, 53, 54] (by decide +kernel) (by decide +kernel)
set_option maxRecDepth 20000 in
theorem gX10_paper_X10_isDrawing : GoodIn wsX10_paper (wsV RX10 109 RX10 yX10_isDrawing wsX10_isDrawing) := goodIn_app (goodIn_of _ (by decide +kernel)) ggX10_paper_X10_isDrawing
set_option maxRecDepth 20000 in
theorem ggX10_paper_X10_isOffice : GoodIn wsX10_paper wsX10_isOffice := goodIn_r _ [6] (by decide +kernel) (by decide +kernel)
set_option maxRecDepth 20000 in
theorem gX10_paper_X10_isOffice : GoodIn wsX10_paper (va_wsS RX10 262 yX10_isOffice wsX10_isOffice) := goodIn_app (goodIn_of _ (by decide +kernel)) ggX10_paper_X10_isOffice
set_option maxRecDepth 20000 in
theorem ggX10_rule_X10_isPart : GoodIn wsX10_rule wsX10_isPart := goodIn_r _ [10] (by decide +kernel) (by decide +kernel)
set_option maxRecDepth 20000 in
theorem gX10_rule_X10_isPart : GoodIn wsX10_rule (va_wsS RX10 163 yX10_isPart wsX10_isPart) := goodIn_app (goodIn_of _ (by decide +kernel)) ggX10_rule_X10_isPart
set_option maxRecDepth 20000 in
theorem ggX10_rule_X10_leastRule : GoodIn wsX10_rule wsX10_leastRule := goodIn_r _ [14, 1, 2, 15, 16, 17, 5, 18, 19, 20, 21, 9, 22, 23, 24, 25, 26, 27, 28, 29, 30, 31, 32, 33, 34, 35, 36, 37, 38, 39, 40, 41, 42, 43, 44, 45, 46, 47, 48, 49, 50, 51, 52, 53, 54, 55, 56, 57, 58, 59, 60, 61, 62, 63, 64, 65, 66, 67, 68, 69, 70, 71, 72, 73, 74, 75, 76, 77, 78, 79, 80, 81, 82, 83, 84, 85, 86, 87, 88, 89, 90, 91, 92, 93, 94, 95, 96, 97, 98, 99, 100, 101, 102, 103, 104, 105, 106, 107, 108, 109, 110, 111, 112, 113, 114, 130, 131, 132, 133, 134, 135, 136, 137, 138, 139, 140, 141, 142, 143, 144, 145, 146, 147, 148, 149, 150, 151, 152, 153, 154, 155, 156, 157, 158, 159, 160, 161, 162, 163, 164, 165, 166, 167, 168, 169, 170, 171] (by decide +kernel) (by decide +kernel)
set_option maxRecDepth 20000 in
theorem gX10_rule_X10_leastRule : GoodIn wsX10_rule (wsV RX10 231 RX10 yX10_leastRule wsX10_leastRule) := goodIn_app (goodIn_of _ (by decide +kernel)) ggX10_rule_X10_leastRule
set_option maxRecDepth 20000 in
theorem ggX10_saw_X10_isDrawing : GoodIn wsX10_saw wsX10_isDrawing := goodIn_r _ [10, 3, 11, 137, 138, 139, 140, 141, 142, 143, 144, 145, 146, 147, 148, 149, 150, 163, 164, 165, 166, 167, 168, 169, 170, 171, 172, 173, 174] (by decide +kernel) (by decide +kernel)
set_option maxRecDepth 20000 in
theorem gX10_saw_X10_isDrawing : GoodIn wsX10_saw (wsV RX10 109 RX10 yX10_isDrawing wsX10_isDrawing) := goodIn_app (goodIn_of _ (by decide +kernel)) ggX10_saw_X10_isDrawing
set_option maxRecDepth 20000 in
theorem ggX10_spent_X10_isDrawing : GoodIn wsX10_spent wsX10_isDrawing := goodIn_r _ [9, 10, 11, 35, 36, 37, 38, 39, 40, 41, 42, 43, 44, 45, 46, 47, 48, 49, 50, 51, 52, 53, 54, 55, 56, 57, 58, 59, 60] (by decide +kernel) (by decide +kernel)
set_option maxRecDepth 20000 in
theorem gX10_spent_X10_isDrawing : GoodIn wsX10_spent (wsV RX10 109 RX10 yX10_isDrawing wsX10_isDrawing) := goodIn_app (goodIn_of _ (by decide +kernel)) ggX10_spent_X10_isDrawing
set_option maxRecDepth 20000 in
theorem ggX10_spent_X10_isOffice : GoodIn wsX10_spent wsX10_isOffice := goodIn_r _ [5] (by decide +kernel) (by decide +kernel)
set_option maxRecDepth 20000 in
theorem gX10_spent_X10_isOffice : GoodIn wsX10_spent (va_wsS RX10 262 yX10_isOffice wsX10_isOffice) := goodIn_app (goodIn_of _ (by decide +kernel)) ggX10_spent_X10_isOffice
set_option maxRecDepth 20000 in
theorem ggX10_story_X6_letBear : GoodIn wsX10_story wsX6_letBear := goodIn_r _ [6, 7, 8, 9, 10, 11, 12, 13, 5, 14, 15, 30, 31, 32, 33, 34, 35, 36, 37, 38, 39, 40, 41] (by decide +kernel) (by decide +kernel)
set_option maxRecDepth 20000 in
theorem gX10_story_X6_letBear : GoodIn wsX10_story (wsV RX10 255 RX6 yX6_letBear wsX6_letBear) := goodIn_app (goodIn_of _ (by decide +kernel)) ggX10_story_X6_letBear
set_option maxRecDepth 20000 in
theorem ggX10_untell_X6_takeBack : GoodIn wsX10_untell wsX6_takeBack := goodIn_r _ [7, 8, 9, 10, 11, 6, 12, 13, 28, 29, 30, 31, 32, 33, 34, 35, 36, 37, 38, 39] (by decide +kernel) (by decide +kernel)
set_option maxRecDepth 20000 in
theorem gX10_untell_X6_takeBack : GoodIn wsX10_untell (wsV RX10 272 RX6 yX6_takeBack wsX6_takeBack) := goodIn_app (goodIn_of _ (by decide +kernel)) ggX10_untell_X6_takeBack
set_option maxRecDepth 20000 in
theorem ggX10_weak_X10_isDrawing : GoodIn wsX10_weak wsX10_isDrawing := goodIn_r _ [7, 2, 8, 98, 99, 100, 101, 102, 103, 104, 105, 106, 107, 108, 109, 110, 111, 112, 113, 114, 115, 116, 117, 118, 119, 120, 121, 122, 123] (by decide +kernel) (by decide +kernel)
set_option maxRecDepth 20000 in
theorem gX10_weak_X10_isDrawing : GoodIn wsX10_weak (wsV RX10 109 RX10 yX10_isDrawing wsX10_isDrawing) := goodIn_app (goodIn_of _ (by decide +kernel)) ggX10_weak_X10_isDrawing
set_option maxRecDepth 20000 in
theorem ggX10_weight_X10_isDrawing : GoodIn wsX10_weight wsX10_isDrawing := goodIn_r _ [8, 9, 10, 99, 100, 101, 102, 103, 104, 105, 106, 107, 108, 109, 110, 111, 112, 129, 130, 131, 132, 133, 134, 135, 136, 137, 138, 139, 140] (by decide +kernel) (by decide +kernel)
set_option maxRecDepth 20000 in
theorem gX10_weight_X10_isDrawing : GoodIn wsX10_weight (wsV RX10 109 RX10 yX10_isDrawing wsX10_isDrawing) := goodIn_app (goodIn_of _ (by decide +kernel)) ggX10_weight_X10_isDrawing
set_option maxRecDepth 20000 in
theorem ggX10_worst_X10_isDrawing : GoodIn wsX10_worst wsX10_isDrawing := goodIn_r _ [6, 7, 8, 100, 101, 102, 103, 104, 105, 106, 107, 108, 109, 110, 111, 112, 113, 114, 115, 116, 117, 118, 119, 120, 121, 122, 123, 124, 125] (by decide +kernel) (by decide +kernel)
set_option maxRecDepth 20000 in
theorem gX10_worst_X10_isDrawing : GoodIn wsX10_worst (wsV RX10 109 RX10 yX10_isDrawing wsX10_isDrawing) := goodIn_app (goodIn_of _ (by decide +kernel)) ggX10_worst_X10_isDrawing
set_option maxRecDepth 20000 in
theorem ggX11_about_X11_floorMany : GoodIn wsX11_about wsX11_floorMany := goodIn_r _ [12, 13, 3, 17, 18, 19, 20, 21, 22, 23, 24, 25, 26, 27, 28, 29, 30, 31, 32, 33, 34, 35, 36, 37, 38, 39, 40, 41, 42, 43, 44, 45, 46, 47, 48, 49, 50, 51, 52, 53, 54, 55, 56, 57, 58, 59, 60, 61, 62, 63, 64, 65, 66, 67, 68, 69, 70, 71, 72, 73, 74, 75, 76, 77, 78, 79, 80, 81, 82, 83, 84, 85] (by decide +kernel) (by decide +kernel)
set_option maxRecDepth 20000 in
theorem gX11_about_X11_floorMany : GoodIn wsX11_about (wsV RX11 270 RX11 yX11_floorMany wsX11_floorMany) := goodIn_app (goodIn_of _ (by decide +kernel)) ggX11_about_X11_floorMany
set_option maxRecDepth 20000 in
theorem ggX11_about_X11_isIn : GoodIn wsX11_about wsX11_isIn := goodIn_r _ [16] (by decide +kernel) (by decide +kernel)
set_option maxRecDepth 20000 in
theorem gX11_about_X11_isIn : GoodIn wsX11_about (va_wsS RX11 274 yX11_isIn wsX11_isIn) := goodIn_app (goodIn_of _ (by decide +kernel)) ggX11_about_X11_isIn
set_option maxRecDepth 20000 in
theorem ggX11_bears_X11_isIn : GoodIn wsX11_bears wsX11_isIn := goodIn_r _ [18] (by decide +kernel) (by decide +kernel)
set_option maxRecDepth 20000 in
theorem gX11_bears_X11_isIn : GoodIn wsX11_bears (va_wsS RX11 274 yX11_isIn wsX11_isIn) := goodIn_app (goodIn_of _ (by decide +kernel)) ggX11_bears_X11_isIn
set_option maxRecDepth 20000 in
theorem ggX11_bears_X11_joints : GoodIn wsX11_bears wsX11_joints := goodIn_r _ [8, 9, 10, 11, 12, 7, 13, 14, 15, 16, 17, 18, 19, 20, 21, 22, 23, 24, 25, 26, 27, 28, 29, 30, 31, 32, 33, 34, 35, 36, 37, 38, 39, 89, 90, 91, 92, 93, 94, 95, 96, 97, 98, 99, 100, 101, 102, 103, 104, 105, 106, 107, 108, 109, 110, 111, 112, 113, 114, 115, 116, 117, 118, 119, 120, 121, 122, 123, 124, 125, 126, 127, 128, 129, 130, 131, 132, 133, 134, 135, 136, 137, 138, 139, 140, 141, 142, 143, 144, 145, 146, 147, 148, 149, 150, 151, 152, 153, 154, 155, 156, 157] (by decide +kernel) (by decide +kernel)
set_option maxRecDepth 20000 in
theorem gX11_bears_X11_joints : GoodIn wsX11_bears (wsV RX11 352 RX11 yX11_joints wsX11_joints) := goodIn_app (goodIn_of _ (by decide +kernel)) ggX11_bears_X11_joints
set_option maxRecDepth 20000 in
theorem ggX11_believed_X11_common : GoodIn wsX11_believed wsX11_common := goodIn_r _ [21] (by decide +kernel) (by decide +kernel)
set_option maxRecDepth 20000 in
theorem gX11_believed_X11_common : GoodIn wsX11_believed (va_wsS RX11 284 yX11_common wsX11_common) := goodIn_app (goodIn_of _ (by decide +kernel)) ggX11_believed_X11_common
set_option maxRecDepth 20000 in
theorem ggX11_believed_X11_isPart : GoodIn wsX11_believed wsX11_isPart := goodIn_r _ [9, 10, 11, 8, 12] (by decide +kernel) (by decide +kernel)
set_option maxRecDepth 20000 in
theorem gX11_believed_X11_isPart : GoodIn wsX11_believed (va_wsS RX11 361 yX11_isPart wsX11_isPart) := goodIn_app (goodIn_of _ (by decide +kernel)) ggX11_believed_X11_isPart
set_option maxRecDepth 20000 in
theorem ggX11_beyond_X11_isDrawing : GoodIn wsX11_beyond wsX11_isDrawing := goodIn_r _ [5, 6, 7, 8, 9, 4, 10, 99, 100, 101, 102, 103, 104, 105, 106, 107, 108, 109, 110, 111, 112, 113, 114, 115, 116, 117, 118, 119, 120, 121, 122, 123, 124, 125, 126, 127, 128, 129, 130, 131, 132, 133, 134, 135, 136, 137, 138, 139, 140, 141, 142, 143, 144, 145, 146, 147, 148, 149, 150, 151, 152, 153, 154, 155, 156, 157, 158, 159, 160, 161, 162, 163, 164, 165, 166, 167] (by decide +kernel) (by decide +kernel)
set_option maxRecDepth 20000 in
theorem gX11_beyond_X11_isDrawing : GoodIn wsX11_beyond (wsV RX11 349 RX11 yX11_isDrawing wsX11_isDrawing) := goodIn_app (goodIn_of _ (by decide +kernel)) ggX11_beyond_X11_isDrawing
set_option maxRecDepth 20000 in
theorem ggX11_change_X11_isDrawing : GoodIn wsX11_change wsX11_isDrawing := goodIn_r _ [16, 17, 18, 19, 20, 15, 21, 90, 91, 92, 93, 94, 95, 96, 97, 98, 99, 100, 101, 102, 103, 104, 105, 106, 107, 108, 109, 110, 111, 112, 113, 114, 115, 116, 117, 118, 119, 120, 121, 122, 123, 124, 125, 126, 127, 128, 129, 130, 131, 132, 133, 134, 135, 136, 137, 138, 139, 140, 141, 142, 143, 144, 145, 146, 147, 148, 149, 150, 151, 152, 153, 154, 155, 156, 157, 158] (by decide +kernel) (by decide +kernel)
set_option maxRecDepth 20000 in
theorem gX11_change_X11_isDrawing : GoodIn wsX11_change (wsV RX11 349 RX11 yX11_isDrawing wsX11_isDrawing) := goodIn_app (goodIn_of _ (by decide +kernel)) ggX11_change_X11_isDrawing
set_option maxRecDepth 20000 in
theorem ggX11_elsewhere_X11_isDrawing : GoodIn wsX11_elsewhere wsX11_isDrawing := goodIn_r _ [14, 1, 2, 15, 16, 13, 17, 101, 102, 103, 104, 105, 106, 107, 108, 109, 110, 111, 112, 113, 114, 115, 116, 117, 118, 119, 120, 121, 122, 123, 124, 125, 126, 127, 128, 129, 130, 131, 132, 133, 134, 135, 136, 137, 138, 139, 140, 141, 142, 143, 144, 145, 146, 147, 148, 149, 150, 151, 152, 153, 154, 155, 156, 157, 158, 159, 160, 161, 162, 163, 164, 165, 166, 167, 168, 169] (by decide +kernel) (by decide +kernel)
set_option maxRecDepth 20000 in
theorem gX11_elsewhere_X11_isDrawing : GoodIn wsX11_elsewhere (wsV RX11 349 RX11 yX11_isDrawing wsX11_isDrawing) := goodIn_app (goodIn_of _ (by decide +kernel)) ggX11_elsewhere_X11_isDrawing
set_option maxRecDepth 20000 in
theorem ggX11_fall_X11_isDrawing : GoodIn wsX11_fall wsX11_isDrawing := goodIn_r _ [7, 8, 9, 10, 11, 6, 12, 117, 118, 119, 120, 121, 122, 123, 124, 125, 126, 127, 128, 129, 130, 131, 132, 133, 134, 135, 136, 137, 138, 139, 140, 141, 142, 143, 144, 145, 146, 147, 148, 149, 150, 151, 152, 153, 154, 155, 156, 157, 158, 159, 160, 161, 162, 163, 164, 165, 166, 167, 168, 169, 170, 171, 172, 173, 174, 175, 176, 177, 178, 179, 180, 181, 182, 183, 184, 185] (by decide +kernel) (by decide +kernel)
set_option maxRecDepth 20000 in
theorem gX11_fall_X11_isDrawing : GoodIn wsX11_fall (wsV RX11 349 RX11 yX11_isDrawing wsX11_isDrawing) := goodIn_app (goodIn_of _ (by decide +kernel)) ggX11_fall_X11_isDrawing
set_option maxRecDepth 20000 in
theorem ggX11_floors_X11_isDrawing : GoodIn wsX11_floors wsX11_isDrawing := goodIn_r _ [6, 7, 8, 9, 10, 5, 11, 31, 32, 33, 34, 35, 36, 37, 38, 39, 40, 41, 42, 43, 44, 45, 46, 47, 48, 49, 50, 51, 52, 53, 54, 55, 56, 57, 58, 59, 60, 61, 62, 63, 64, 65, 66, 67, 68, 69, 70, 71, 72, 73, 74, 75, 76, 77, 78, 79, 80, 81, 82, 83, 84, 85, 86, 87, 88, 89, 90, 91, 92, 93, 94, 95, 96, 97, 98, 99] (by decide +kernel) (by decide +kernel)
set_option maxRecDepth 20000 in
theorem gX11_floors_X11_isDrawing : GoodIn wsX11_floors (wsV RX11 349 RX11 yX11_isDrawing wsX11_isDrawing) := goodIn_app (goodIn_of _ (by decide +kernel)) ggX11_floors_X11_isDrawing
set_option maxRecDepth 20000 in
theorem ggX11_goOn_X11_sign : GoodIn wsX11_goOn wsX11_sign := goodIn_r _ [11, 3, 12, 31, 32, 33, 34, 35, 36, 37, 38, 39, 40, 41, 42, 43, 44, 45, 46, 47, 48, 49, 50, 51, 52, 53, 54, 55, 56, 57, 58, 59, 60, 61, 62, 63, 64, 65, 66, 67, 68, 69, 70, 71, 72, 73, 74, 75, 76, 77, 78, 79, 80, 81, 82, 83, 84, 85, 86, 87, 88, 89, 90, 91, 92, 93, 94, 95, 96, 97, 98, 99] (by decide +kernel) (by decide +kernel)
set_option maxRecDepth 20000 in
theorem gX11_goOn_X11_sign : GoodIn wsX11_goOn (wsV RX11 179 RX11 yX11_sign wsX11_sign) := goodIn_app (goodIn_of _ (by decide +kernel)) ggX11_goOn_X11_sign
set_option maxRecDepth 20000 in
theorem ggX11_goes_X11_isDrawing : GoodIn wsX11_goes wsX11_isDrawing := goodIn_r _ [7, 8, 9, 10, 11, 6, 12, 117, 118, 119, 120, 121, 122, 123, 124, 125, 126, 127, 128, 129, 130, 131, 132, 133, 134, 135, 136, 137, 138, 139, 140, 141, 142, 143, 144, 145, 146, 147, 148, 149, 150, 151, 152, 153, 154, 155, 156, 157, 158, 159, 160, 161, 162, 163, 164, 165, 166, 167, 168, 169, 170, 171, 172, 173, 174, 175, 176, 177, 178, 179, 180, 181, 182, 183, 184, 185] (by decide +kernel) (by decide +kernel)
set_option maxRecDepth 20000 in
theorem gX11_goes_X11_isDrawing : GoodIn wsX11_goes (wsV RX11 349 RX11 yX11_isDrawing wsX11_isDrawing) := goodIn_app (goodIn_of _ (by decide +kernel)) ggX11_goes_X11_isDrawing
set_option maxRecDepth 20000 in
theorem ggX11_house_X11_goOn : GoodIn wsX11_house wsX11_goOn := goodIn_r _ [21, 7, 22, 4, 12, 23, 24, 25, 26, 27, 20, 28, 5, 29, 30, 31, 32, 33, 34, 35, 36, 37, 38, 39, 40, 41, 42, 43, 44, 45, 46, 109, 110, 111, 112, 113, 114, 115, 116, 117, 118, 119, 120, 121, 122, 123, 124, 125, 126, 127, 128, 129, 130, 131, 132, 133, 134, 135, 136, 137, 138, 139, 140, 141, 142, 143, 144, 145, 146, 147, 148, 149, 150, 151, 152, 153, 154, 155, 156, 157, 158, 159, 160, 161, 162, 163, 164, 165, 166, 167, 168, 169, 170, 171, 172, 173, 174, 175, 176, 177] (by decide +kernel) (by decide +kernel)
set_option maxRecDepth 20000 in
theorem gX11_house_X11_goOn : GoodIn wsX11_house (wsV RX11 212 RX11 yX11_goOn wsX11_goOn) := goodIn_app (goodIn_of _ (by decide +kernel)) ggX11_house_X11_goOn
set_option maxRecDepth 20000 in
theorem ggX11_house_X11_isGood : GoodIn wsX11_house wsX11_isGood := goodIn_r _ [50, 1, 109, 110, 111, 112, 113, 114, 115, 116, 117, 118, 119, 120, 121, 122, 123, 124, 125, 126, 127, 128, 129, 130, 131, 132, 133, 134, 135, 136, 137, 138, 139, 140, 141, 142, 143, 144, 145, 146, 147, 148, 149, 150, 151, 152, 153, 154, 155, 156, 157, 158, 159, 160, 161, 162, 163, 164, 165, 166, 167, 168, 169, 170, 171, 172, 173, 174, 175, 176, 177] (by decide +kernel) (by decide +kernel)
set_option maxRecDepth 20000 in
theorem gX11_house_X11_isGood : GoodIn wsX11_house (wsV RX11 208 RX11 yX11_isGood wsX11_isGood) := goodIn_app (goodIn_of _ (by decide +kernel)) ggX11_house_X11_isGood
set_option maxRecDepth 20000 in
theorem ggX11_isDrawing_X11_isIn : GoodIn wsX11_isDrawing wsX11_isIn := goodIn_r _ [6] (by decide +kernel) (by decide +kernel)
set_option maxRecDepth 20000 in
theorem gX11_isDrawing_X11_isIn : GoodIn wsX11_isDrawing (va_wsS RX11 274 yX11_isIn wsX11_isIn) := goodIn_app (goodIn_of _ (by decide +kernel)) ggX11_isDrawing_X11_isIn
set_option maxRecDepth 20000 in
theorem ggX11_isFloor_X11_floorMany : GoodIn wsX11_isFloor wsX11_floorMany := goodIn_r _ [5, 6, 7, 11, 12, 13, 14, 15, 16, 17, 18, 19, 20, 21, 22, 23, 24, 25, 26, 27, 28, 29, 30, 31, 32, 33, 34, 35, 36, 37, 38, 39, 40, 41, 42, 43, 44, 45, 46, 47, 48, 49, 50, 51, 52, 53, 54, 55, 56, 57, 58, 59, 60, 61, 62, 63, 64, 65, 66, 67, 68, 69, 70, 71, 72, 73, 74, 75, 76, 77, 78, 79] (by decide +kernel) (by decide +kernel)
set_option maxRecDepth 20000 in
theorem gX11_isFloor_X11_floorMany : GoodIn wsX11_isFloor (wsV RX11 270 RX11 yX11_floorMany wsX11_floorMany) := goodIn_app (goodIn_of _ (by decide +kernel)) ggX11_isFloor_X11_floorMany
set_option maxRecDepth 20000 in
theorem ggX11_isFloor_X11_isIn : GoodIn wsX11_isFloor wsX11_isIn := goodIn_r _ [10] (by decide +kernel) (by decide +kernel)
set_option maxRecDepth 20000 in
theorem gX11_isFloor_X11_isIn : GoodIn wsX11_isFloor (va_wsS RX11 274 yX11_isIn wsX11_isIn) := goodIn_app (goodIn_of _ (by decide +kernel)) ggX11_isFloor_X11_isIn
set_option maxRecDepth 20000 in
theorem ggX11_isPart_X11_isIn : GoodIn wsX11_isPart wsX11_isIn := goodIn_r _ [4] (by decide +kernel) (by decide +kernel)
set_option maxRecDepth 20000 in
theorem gX11_isPart_X11_isIn : GoodIn wsX11_isPart (va_wsS RX11 274 yX11_isIn wsX11_isIn) := goodIn_app (goodIn_of _ (by decide +kernel)) ggX11_isPart_X11_isIn
set_option maxRecDepth 20000 in
theorem ggX11_joint_X11_isIn : GoodIn wsX11_joint wsX11_isIn := goodIn_r _ [17] (by decide +kernel) (by decide +kernel)
set_option maxRecDepth 20000 in
theorem gX11_joint_X11_isIn : GoodIn wsX11_joint (va_wsS RX11 274 yX11_isIn wsX11_isIn) := goodIn_app (goodIn_of _ (by decide +kernel)) ggX11_joint_X11_isIn
set_option maxRecDepth 20000 in
theorem ggX11_joint_X11_joints : GoodIn wsX11_joint wsX11_joints := goodIn_r _ [7, 8, 9, 10, 11, 6, 12, 13, 14, 15, 16, 17, 18, 19, 20, 21, 22, 1, 2, 23, 24, 25, 26, 27, 28, 29, 30, 31, 32, 33, 34, 35, 36, 95, 96, 97, 98, 99, 100, 101, 102, 103, 104, 105, 106, 107, 108, 109, 110, 111, 112, 113, 114, 115, 116, 117, 118, 119, 120, 121, 122, 123, 124, 125, 126, 127, 128, 129, 130, 131, 132, 133, 134, 135, 136, 137, 138, 139, 140, 141, 142, 143, 144, 145, 146, 147, 148, 149, 150, 151, 152, 153, 154, 155, 156, 157, 158, 159, 160, 161, 162, 163] (by decide +kernel) (by decide +kernel)
set_option maxRecDepth 20000 in
theorem gX11_joint_X11_joints : GoodIn wsX11_joint (wsV RX11 352 RX11 yX11_joints wsX11_joints) := goodIn_app (goodIn_of _ (by decide +kernel)) ggX11_joint_X11_joints
set_option maxRecDepth 20000 in
theorem ggX11_joints_X11_isDrawing : GoodIn wsX11_joints wsX11_isDrawing := goodIn_r _ [6, 7, 8, 9, 10, 5, 11, 33, 34, 35, 36, 37, 38, 39, 40, 41, 42, 43, 44, 45, 46, 47, 48, 49, 50, 51, 52, 53, 54, 55, 56, 57, 58, 59, 60, 61, 62, 63, 64, 65, 66, 67, 68, 69, 70, 71, 72, 73, 74, 75, 76, 77, 78, 79, 80, 81, 82, 83, 84, 85, 86, 87, 88, 89, 90, 91, 92, 93, 94, 95, 96, 97, 98, 99, 100, 101] (by decide +kernel) (by decide +kernel)
set_option maxRecDepth 20000 in
theorem gX11_joints_X11_isDrawing : GoodIn wsX11_joints (wsV RX11 349 RX11 yX11_isDrawing wsX11_isDrawing) := goodIn_app (goodIn_of _ (by decide +kernel)) ggX11_joints_X11_isDrawing
set_option maxRecDepth 20000 in
theorem ggX11_later_X11_isIn : GoodIn wsX11_later wsX11_isIn := goodIn_r _ [6] (by decide +kernel) (by decide +kernel)
set_option maxRecDepth 20000 in
theorem gX11_later_X11_isIn : GoodIn wsX11_later (va_wsS RX11 274 yX11_isIn wsX11_isIn) := goodIn_app (goodIn_of _ (by decide +kernel)) ggX11_later_X11_isIn
set_option maxRecDepth 20000 in
theorem ggX11_live_X11_isFloor : GoodIn wsX11_live wsX11_isFloor := goodIn_r _ [6, 7, 8, 9, 5, 10, 11, 12, 13, 14, 15, 16, 17, 18, 19, 20, 21, 22, 23, 24, 25, 26, 27, 28, 29, 30, 31, 32, 33, 34, 35, 36, 37, 38, 39, 40, 41, 42, 43, 44, 45, 46, 47, 48, 49, 50, 51, 52, 53, 54, 55, 56, 57, 58, 59, 60, 61, 62, 63, 64, 65, 66, 67, 68, 69, 70, 71, 72, 73, 74, 75, 76, 77, 78, 79, 80, 81, 82, 83, 84] (by decide +kernel) (by decide +kernel)
set_option maxRecDepth 20000 in
theorem gX11_live_X11_isFloor : GoodIn wsX11_live (wsV RX11 278 RX11 yX11_isFloor wsX11_isFloor) := goodIn_app (goodIn_of _ (by decide +kernel)) ggX11_live_X11_isFloor
set_option maxRecDepth 20000 in
theorem ggX11_mend_X11_isDrawing : GoodIn wsX11_mend wsX11_isDrawing := goodIn_r _ [8, 9, 10, 11, 12, 7, 13, 98, 99, 100, 101, 102, 103, 104, 105, 106, 107, 108, 109, 110, 111, 112, 113, 114, 115, 116, 117, 118, 119, 120, 121, 122, 123, 124, 125, 126, 127, 128, 129, 130, 131, 132, 133, 134, 135, 136, 137, 138, 139, 140, 141, 142, 143, 144, 145, 146, 147, 148, 149, 150, 151, 152, 153, 154, 155, 156, 157, 158, 159, 160, 161, 162, 163, 164, 165, 166] (by decide +kernel) (by decide +kernel)
set_option maxRecDepth 20000 in
theorem gX11_mend_X11_isDrawing : GoodIn wsX11_mend (wsV RX11 349 RX11 yX11_isDrawing wsX11_isDrawing) := goodIn_app (goodIn_of _ (by decide +kernel)) ggX11_mend_X11_isDrawing
set_option maxRecDepth 20000 in
theorem ggX11_most_X11_isDrawing : GoodIn wsX11_most wsX11_isDrawing := goodIn_r _ [6, 7, 8, 9, 10, 5, 11, 99, 100, 101, 102, 103, 104, 105, 106, 107, 108, 109, 110, 111, 112, 113, 114, 115, 116, 117, 118, 119, 120, 121, 122, 123, 124, 125, 126, 127, 128, 129, 130, 131, 132, 133, 134, 135, 136, 137, 138, 139, 140, 141, 142, 143, 144, 145, 146, 147, 148, 149, 150, 151, 152, 153, 154, 155, 156, 157, 158, 159, 160, 161, 162, 163, 164, 165, 166, 167] (by decide +kernel) (by decide +kernel)
set_option maxRecDepth 20000 in
theorem gX11_most_X11_isDrawing : GoodIn wsX11_most (wsV RX11 349 RX11 yX11_isDrawing wsX11_isDrawing) := goodIn_app (goodIn_of _ (by decide +kernel)) ggX11_most_X11_isDrawing
set_option maxRecDepth 20000 in
theorem ggX11_move_X11_isIn : GoodIn wsX11_move wsX11_isIn := goodIn_r _ [5] (by decide +kernel) (by decide +kernel)
set_option maxRecDepth 20000 in
theorem gX11_move_X11_isIn : GoodIn wsX11_move (va_wsS RX11 274 yX11_isIn wsX11_isIn) := goodIn_app (goodIn_of _ (by decide +kernel)) ggX11_move_X11_isIn
set_option maxRecDepth 20000 in
theorem ggX11_odds_X11_isDrawing : GoodIn wsX11_odds wsX11_isDrawing := goodIn_r _ [10, 11, 3, 12, 13, 9, 14, 111, 112, 113, 114, 115, 116, 117, 118, 119, 120, 121, 122, 123, 124, 125, 126, 127, 128, 129, 130, 131, 132, 133, 134, 135, 136, 137, 138, 139, 140, 141, 142, 143, 144, 145, 146, 147, 148, 149, 150, 151, 152, 153, 154, 155, 156, 157, 158, 159, 160, 161, 162, 163, 164, 165, 166, 167, 168, 169, 170, 171, 172, 173, 174, 175, 176, 177, 178, 179] (by decide +kernel) (by decide +kernel)
set_option maxRecDepth 20000 in
theorem gX11_odds_X11_isDrawing : GoodIn wsX11_odds (wsV RX11 349 RX11 yX11_isDrawing wsX11_isDrawing) := goodIn_app (goodIn_of _ (by decide +kernel)) ggX11_odds_X11_isDrawing
set_option maxRecDepth 20000 in
theorem ggX11_paper_X11_isDrawing : GoodIn wsX11_paper wsX11_isDrawing := goodIn_r _ [18, 19, 20, 11, 12, 13, 14, 21, 22, 23, 24, 25, 26, 27, 28, 29, 30, 31, 32, 33, 34, 35, 36, 37, 38, 39, 40, 41, 42, 43, 44, 45, 46, 47, 48, 49, 50, 51, 52, 53, 54, 55, 56, 57, 58, 59, 60, 61, 62, 63, 64, 65, 66, 67, 68, 69, 70, 71, 72, 73, 74, 75, 76, 77, 78, 79, 80, 81, 82, 83, 84, 85, 86, 87, 88, 89] (by decide +kernel) (by decide +kernel)
set_option maxRecDepth 20000 in
theorem gX11_paper_X11_isDrawing : GoodIn wsX11_paper (wsV RX11 349 RX11 yX11_isDrawing wsX11_isDrawing) := goodIn_app (goodIn_of _ (by decide +kernel)) ggX11_paper_X11_isDrawing
set_option maxRecDepth 20000 in
theorem ggX11_paper_X11_isIn : GoodIn wsX11_paper wsX11_isIn := goodIn_r _ [14] (by decide +kernel) (by decide +kernel)
set_option maxRecDepth 20000 in
theorem gX11_paper_X11_isIn : GoodIn wsX11_paper (va_wsS RX11 274 yX11_isIn wsX11_isIn) := goodIn_app (goodIn_of _ (by decide +kernel)) ggX11_paper_X11_isIn
set_option maxRecDepth 20000 in
theorem ggX11_rule_X11_isIn : GoodIn wsX11_rule wsX11_isIn := goodIn_r _ [6] (by decide +kernel) (by decide +kernel)
set_option maxRecDepth 20000 in
theorem gX11_rule_X11_isIn : GoodIn wsX11_rule (va_wsS RX11 274 yX11_isIn wsX11_isIn) := goodIn_app (goodIn_of _ (by decide +kernel)) ggX11_rule_X11_isIn
set_option maxRecDepth 20000 in
theorem ggX11_saw_X11_isDrawing : GoodIn wsX11_saw wsX11_isDrawing := goodIn_r _ [6, 7, 8, 9, 10, 5, 11, 118, 119, 120, 121, 122, 123, 124, 125, 126, 127, 128, 129, 130, 131, 132, 133, 134, 135, 136, 137, 138, 139, 140, 141, 142, 143, 144, 145, 146, 147, 148, 149, 150, 151, 152, 153, 154, 155, 156, 157, 158, 159, 160, 161, 162, 163, 164, 165, 166, 167, 168, 169, 170, 171, 172, 173, 174, 175, 176, 177, 178, 179, 180, 181, 182, 183, 184, 185, 186] (by decide +kernel) (by decide +kernel)
set_option maxRecDepth 20000 in
theorem gX11_saw_X11_isDrawing : GoodIn wsX11_saw (wsV RX11 349 RX11 yX11_isDrawing wsX11_isDrawing) := goodIn_app (goodIn_of _ (by decide +kernel)) ggX11_saw_X11_isDrawing
set_option maxRecDepth 20000 in
theorem ggX11_spent_X11_isDrawing : GoodIn wsX11_spent wsX11_isDrawing := goodIn_r _ [8, 9, 10, 1, 2, 3, 4, 26, 27, 28, 29, 30, 31, 32, 33, 34, 35, 36, 37, 38, 39, 40, 41, 42, 43, 44, 45, 46, 47, 48, 49, 50, 51, 52, 53, 54, 55, 56, 57, 58, 59, 60, 61, 62, 63, 64, 65, 66, 67, 68, 69, 70, 71, 72, 73, 74, 75, 76, 77, 78, 79, 80, 81, 82, 83, 84, 85, 86, 87, 88, 89, 90, 91, 92, 93, 94] (by decide +kernel) (by decide +kernel)
set_option maxRecDepth 20000 in
theorem gX11_spent_X11_isDrawing : GoodIn wsX11_spent (wsV RX11 349 RX11 yX11_isDrawing wsX11_isDrawing) := goodIn_app (goodIn_of _ (by decide +kernel)) ggX11_spent_X11_isDrawing
set_option maxRecDepth 20000 in
theorem ggX11_spent_X11_isIn : GoodIn wsX11_spent wsX11_isIn := goodIn_r _ [4] (by decide +kernel) (by decide +kernel)
set_option maxRecDepth 20000 in
theorem gX11_spent_X11_isIn : GoodIn wsX11_spent (va_wsS RX11 274 yX11_isIn wsX11_isIn) := goodIn_app (goodIn_of _ (by decide +kernel)) ggX11_spent_X11_isIn
set_option maxRecDepth 20000 in
theorem ggX11_story_X11_isIn : GoodIn wsX11_story wsX11_isIn := goodIn_r _ [9] (by decide +kernel) (by decide +kernel)
set_option maxRecDepth 20000 in
theorem gX11_story_X11_isIn : GoodIn wsX11_story (va_wsS RX11 274 yX11_isIn wsX11_isIn) := goodIn_app (goodIn_of _ (by decide +kernel)) ggX11_story_X11_isIn
set_option maxRecDepth 20000 in
theorem ggX11_untell_X11_isIn : GoodIn wsX11_untell wsX11_isIn := goodIn_r _ [7] (by decide +kernel) (by decide +kernel)
set_option maxRecDepth 20000 in
theorem gX11_untell_X11_isIn : GoodIn wsX11_untell (va_wsS RX11 274 yX11_isIn wsX11_isIn) := goodIn_app (goodIn_of _ (by decide +kernel)) ggX11_untell_X11_isIn
set_option maxRecDepth 20000 in
theorem ggX11_weight_X11_isDrawing : GoodIn wsX11_weight wsX11_isDrawing := goodIn_r _ [8, 9, 10, 11, 12, 7, 13, 83, 84, 85, 86, 87, 88, 89, 90, 91, 92, 93, 94, 95, 96, 97, 98, 99, 100, 101, 102, 103, 104, 105, 106, 107, 108, 109, 110, 111, 112, 113, 114, 115, 116, 117, 118, 119, 120, 121, 122, 123, 124, 125, 126, 127, 128, 129, 130, 131, 132, 133, 134, 135, 136, 137, 138, 139, 140, 141, 142, 143, 144, 145, 146, 147, 148, 149, 150, 151] (by decide +kernel) (by decide +kernel)
set_option maxRecDepth 20000 in
theorem gX11_weight_X11_isDrawing : GoodIn wsX11_weight (wsV RX11 349 RX11 yX11_isDrawing wsX11_isDrawing) := goodIn_app (goodIn_of _ (by decide +kernel)) ggX11_weight_X11_isDrawing
set_option maxRecDepth 20000 in
theorem ggX11_worst_X11_isDrawing : GoodIn wsX11_worst wsX11_isDrawing := goodIn_r _ [5, 6, 7, 8, 9, 4, 10, 98, 99, 100, 101, 102, 103, 104, 105, 106, 107, 108, 109, 110, 111, 112, 113, 114, 115, 116, 117, 118, 119, 120, 121, 122, 123, 124, 125, 126, 127, 128, 129, 130, 131, 132, 133, 134, 135, 136, 137, 138, 139, 140, 141, 142, 143, 144, 145, 146, 147, 148, 149, 150, 151, 152, 153, 154, 155, 156, 157, 158, 159, 160, 161, 162, 163, 164, 165, 166] (by decide +kernel) (by decide +kernel)
set_option maxRecDepth 20000 in
theorem gX11_worst_X11_isDrawing : GoodIn wsX11_worst (wsV RX11 349 RX11 yX11_isDrawing wsX11_isDrawing) := goodIn_app (goodIn_of _ (by decide +kernel)) ggX11_worst_X11_isDrawing
set_option maxRecDepth 20000 in
theorem ggX2_partOf_X10_isPart : GoodIn wsX2_partOf wsX10_isPart := goodIn_r _ [4] (by decide +kernel) (by decide +kernel)
set_option maxRecDepth 20000 in
theorem gX2_partOf_X10_isPart_n11 : GoodIn wsX2_partOf (wsX10_isPart) := ggX2_partOf_X10_isPart
set_option maxRecDepth 20000 in
theorem ggX2_partOf_X2_greatestCommon : GoodIn wsX2_partOf wsX2_greatestCommon := goodIn_r _ [8] (by decide +kernel) (by decide +kernel)
set_option maxRecDepth 20000 in
theorem gX2_partOf_X2_greatestCommon : GoodIn wsX2_partOf (va_wsS RX2 17 yX2_greatestCommon wsX2_greatestCommon) := goodIn_app (goodIn_of _ (by decide +kernel)) ggX2_partOf_X2_greatestCommon
set_option maxRecDepth 20000 in
theorem ggX3_init_X7_init : GoodIn wsX3_init wsX7_init := goodIn_r _ [26, 27, 2, 3, 28, 16, 29, 11, 30, 31, 32, 33, 34, 35, 36, 37, 38, 39, 40, 41, 42, 43, 44, 45, 46, 47, 48, 49, 50, 51] (by decide +kernel) (by decide +kernel)
set_option maxRecDepth 20000 in
theorem gX3_init_X7_init_n11 : GoodIn wsX3_init (wsX7_init) := ggX3_init_X7_init
set_option maxRecDepth 20000 in
theorem ggX4_init_X7_init : GoodIn wsX4_init wsX7_init := goodIn_r _ [27, 28, 2, 3, 29, 30, 31, 32, 33, 34, 35, 36, 37, 38, 39, 40, 41, 42, 54, 55, 56, 57, 58, 59, 60, 61, 62, 63, 64, 65] (by decide +kernel) (by decide +kernel)
set_option maxRecDepth 20000 in
theorem gX4_init_X7_init_n20 : GoodIn wsX4_init (wsX7_init) := ggX4_init_X7_init
set_option maxRecDepth 20000 in
theorem ggX4_init_X9_init : GoodIn wsX4_init wsX9_init := goodIn_r _ [15, 16, 2, 3, 17, 18, 19, 20, 21, 22, 23, 24, 25, 43, 44, 45, 46, 47, 48, 49] (by decide +kernel) (by decide +kernel)
set_option maxRecDepth 20000 in
theorem gX4_init_X9_init_n11 : GoodIn wsX4_init (wsX9_init) := ggX4_init_X9_init
set_option maxRecDepth 20000 in
theorem ggX4_readHouse_X7_empty : GoodIn wsX4_readHouse wsX7_empty := goodIn_r _ [11, 12, 13, 186, 187, 188, 189, 190, 191, 192, 193, 194, 195, 196, 197] (by decide +kernel) (by decide +kernel)
set_option maxRecDepth 20000 in
theorem gX4_readHouse_X7_empty : GoodIn wsX4_readHouse (wsV RX4 32 RX7 yX7_empty wsX7_empty) := goodIn_app (goodIn_of _ (by decide +kernel)) ggX4_readHouse_X7_empty
set_option maxRecDepth 20000 in
theorem ggX4_readHouse_X9_begin : GoodIn wsX4_readHouse wsX9_begin := goodIn_r _ [18, 19, 20, 21, 22, 23, 24, 25, 26, 27, 28, 17, 29, 30, 31, 32, 33, 34, 35, 36, 37, 38, 39, 40, 41, 42, 43, 44, 45, 46, 179, 180, 181, 182, 183, 184, 185] (by decide +kernel) (by decide +kernel)
set_option maxRecDepth 20000 in
theorem gX4_readHouse_X9_begin : GoodIn wsX4_readHouse (wsV RX4 35 RX9 yX9_begin wsX9_begin) := goodIn_app (goodIn_of _ (by decide +kernel)) ggX4_readHouse_X9_begin
set_option maxRecDepth 20000 in
theorem ggX6_letBear_X6_isPaper : GoodIn wsX6_letBear wsX6_isPaper := goodIn_r _ [9, 10, 11, 12, 13, 14, 15, 16, 17, 18, 19, 20, 21, 22] (by decide +kernel) (by decide +kernel)
set_option maxRecDepth 20000 in
theorem gX6_letBear_X6_isPaper : GoodIn wsX6_letBear (wsV RX6 50 RX6 yX6_isPaper wsX6_isPaper) := goodIn_app (goodIn_of _ (by decide +kernel)) ggX6_letBear_X6_isPaper
set_option maxRecDepth 20000 in
theorem ggX6_takeBack_X6_isPaper : GoodIn wsX6_takeBack wsX6_isPaper := goodIn_r _ [6, 7, 8, 9, 10, 11, 12, 13, 14, 15, 16, 17, 18, 19] (by decide +kernel) (by decide +kernel)
set_option maxRecDepth 20000 in
theorem gX6_takeBack_X6_isPaper : GoodIn wsX6_takeBack (wsV RX6 50 RX6 yX6_isPaper wsX6_isPaper) := goodIn_app (goodIn_of _ (by decide +kernel)) ggX6_takeBack_X6_isPaper
set_option maxRecDepth 20000 in
theorem ggX9_begin_X9_advance : GoodIn wsX9_begin wsX9_advance := goodIn_r _ [12, 7, 6, 1, 13, 14, 15, 16, 17, 18, 19, 20, 11, 21, 22, 23, 24, 25, 26, 27, 28, 29, 30, 31, 32, 33, 34, 35, 36] (by decide +kernel) (by decide +kernel)
set_option maxRecDepth 20000 in
theorem gX9_begin_X9_advance : GoodIn wsX9_begin (wsV RX9 45 RX9 yX9_advance wsX9_advance) := goodIn_app (goodIn_of _ (by decide +kernel)) ggX9_begin_X9_advance

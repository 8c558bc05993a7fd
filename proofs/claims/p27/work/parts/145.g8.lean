/-! printed rows -/
set_option maxRecDepth 20000 in
theorem ggX8_init_X7_init : GoodIn wsX8_init wsX7_init := goodIn_r _ [36, 37, 2, 3, 38, 39, 40, 41, 42, 43, 44, 45, 6, 46, 47, 48, 49, 50, 138, 139, 140, 141, 142] (by decide +kernel) (by decide +kernel)
set_option maxRecDepth 20000 in
theorem gX8_init_X7_init : GoodIn wsX8_init (wsX7_init) := ggX8_init_X7_init
set_option maxRecDepth 20000 in
theorem ggX8_init_X5_init : GoodIn wsX8_init wsX5_init := goodIn_r _ [53, 54, 2, 3, 38, 55, 56, 57, 58, 59, 60, 61, 62, 63, 64, 65, 66, 67, 68, 69, 70, 71, 72, 73, 74, 75, 76, 77, 78, 79, 80, 81, 82, 83, 84, 85, 86, 87, 88, 89, 10, 90, 152, 153, 154, 155, 156, 157, 158, 159, 160, 161, 162, 163, 186, 187, 188, 189, 190] (by decide +kernel) (by decide +kernel)
set_option maxRecDepth 20000 in
theorem gX8_init_X5_init : GoodIn wsX8_init (wsX5_init) := ggX8_init_X5_init
set_option maxRecDepth 20000 in
theorem ggX8_init_X0_init : GoodIn wsX8_init wsX0_init := goodIn_r _ [93, 94, 2, 3, 38, 95, 96, 97, 98, 99, 100, 164, 165, 166, 167, 168] (by decide +kernel) (by decide +kernel)
set_option maxRecDepth 20000 in
theorem gX8_init_X0_init : GoodIn wsX8_init (wsX0_init) := ggX8_init_X0_init
set_option maxRecDepth 20000 in
theorem ggX8_init_X1_init : GoodIn wsX8_init wsX1_init := goodIn_r _ [103, 104, 2, 3, 97, 105, 38, 106, 107, 108, 109, 169, 170, 171, 172, 173] (by decide +kernel) (by decide +kernel)
set_option maxRecDepth 20000 in
theorem gX8_init_X1_init : GoodIn wsX8_init (wsX1_init) := ggX8_init_X1_init
set_option maxRecDepth 20000 in
theorem ggX8_init_X3_init : GoodIn wsX8_init wsX3_init := goodIn_r _ [112, 113, 2, 3, 38, 114, 115, 116, 117, 118, 174, 175, 176, 177, 178] (by decide +kernel) (by decide +kernel)
set_option maxRecDepth 20000 in
theorem gX8_init_X3_init : GoodIn wsX8_init (wsX3_init) := ggX8_init_X3_init
set_option maxRecDepth 20000 in
theorem ggX8_init_X6_init : GoodIn wsX8_init wsX6_init := goodIn_r _ [120, 121, 2, 3, 122, 123, 124, 125, 61, 62, 126, 127, 128, 75, 76, 77, 78, 79, 80, 81, 82, 83, 38, 84, 85, 86, 179, 180, 181, 182, 186, 187, 188, 189, 190] (by decide +kernel) (by decide +kernel)
set_option maxRecDepth 20000 in
theorem gX8_init_X6_init_n48 : GoodIn wsX8_init (wsX6_init) := ggX8_init_X6_init
set_option maxRecDepth 20000 in
theorem ggX8_init_X2_init : GoodIn wsX8_init wsX2_init := goodIn_r _ [131, 132, 2, 3, 133, 134, 135, 136, 9, 10, 137, 52, 53, 54, 38, 55, 56, 57, 58, 59, 60, 61, 62, 63, 64, 65, 66, 67, 68, 69, 70, 71, 72, 73, 74, 75, 76, 77, 78, 79, 80, 81, 82, 83, 84, 85, 86, 87, 88, 89, 90, 183, 184, 185, 152, 153, 154, 155, 156, 157, 158, 159, 160, 161, 162, 163, 186, 187, 188, 189, 190] (by decide +kernel) (by decide +kernel)
set_option maxRecDepth 20000 in
theorem gX8_init_X2_init : GoodIn wsX8_init (wsX2_init) := ggX8_init_X2_init
set_option maxRecDepth 20000 in
theorem ggX8_strew_X8_isPlace : GoodIn wsX8_strew wsX8_isPlace := goodIn_r _ [6] (by decide +kernel) (by decide +kernel)
set_option maxRecDepth 20000 in
theorem gX8_strew_X8_isPlace : GoodIn wsX8_strew (va_wsS RX8 67 yX8_isPlace wsX8_isPlace) := goodIn_app (goodIn_of _ (by decide +kernel)) ggX8_strew_X8_isPlace
set_option maxRecDepth 20000 in
theorem ggX8_strew_X2_record : GoodIn wsX8_strew wsX2_record := goodIn_r _ [11, 12, 13, 14, 15, 16, 17, 18, 19, 20, 21, 22, 23, 24, 25, 26, 27, 28, 29, 30, 31, 32, 33, 34, 35, 36, 37, 38, 39, 40, 41, 42, 43, 44, 45, 46, 47, 48, 49, 50, 51, 52, 53, 78, 79, 80, 66, 67, 68, 69, 70, 71, 72, 73, 74, 75, 76, 77, 81, 82, 83, 84, 85] (by decide +kernel) (by decide +kernel)
set_option maxRecDepth 20000 in
theorem gX8_strew_X2_record : GoodIn wsX8_strew (wsV RX8 71 RX2 yX2_record wsX2_record) := goodIn_app (goodIn_of _ (by decide +kernel)) ggX8_strew_X2_record
set_option maxRecDepth 20000 in
theorem ggX8_strew_X8_placeOf : GoodIn wsX8_strew wsX8_placeOf := goodIn_r _ [56] (by decide +kernel) (by decide +kernel)
set_option maxRecDepth 20000 in
theorem gX8_strew_X8_placeOf : GoodIn wsX8_strew (va_wsS RX8 75 yX8_placeOf wsX8_placeOf) := goodIn_app (goodIn_of _ (by decide +kernel)) ggX8_strew_X8_placeOf
set_option maxRecDepth 20000 in
theorem ggX8_sweep_X2_record : GoodIn wsX8_sweep wsX2_record := goodIn_r _ [7, 8, 9, 10, 11, 12, 13, 14, 15, 16, 17, 18, 19, 20, 21, 22, 23, 24, 25, 26, 27, 28, 29, 30, 31, 32, 33, 34, 35, 36, 37, 38, 39, 40, 41, 42, 43, 44, 45, 46, 47, 48, 49, 79, 80, 81, 67, 68, 69, 70, 71, 72, 73, 74, 75, 76, 77, 78, 82, 83, 84, 85, 86] (by decide +kernel) (by decide +kernel)
set_option maxRecDepth 20000 in
theorem gX8_sweep_X2_record : GoodIn wsX8_sweep (wsV RX8 71 RX2 yX2_record wsX2_record) := goodIn_app (goodIn_of _ (by decide +kernel)) ggX8_sweep_X2_record
set_option maxRecDepth 20000 in
theorem ggX8_sweep_X5_allGrains : GoodIn wsX8_sweep wsX5_allGrains := goodIn_r _ [53, 16, 67, 68, 69, 70, 71, 72, 73, 74, 75, 76, 77, 78] (by decide +kernel) (by decide +kernel)
set_option maxRecDepth 20000 in
theorem gX8_sweep_X5_allGrains : GoodIn wsX8_sweep (wsV RX8 87 RX5 yX5_allGrains wsX5_allGrains) := goodIn_app (goodIn_of _ (by decide +kernel)) ggX8_sweep_X5_allGrains
set_option maxRecDepth 20000 in
theorem ggX8_sweep_X5_coverWith : GoodIn wsX8_sweep wsX5_coverWith := goodIn_r _ [57, 16, 67, 68, 69, 70, 71, 72, 73, 74, 75, 76, 77, 78] (by decide +kernel) (by decide +kernel)
set_option maxRecDepth 20000 in
theorem gX8_sweep_X5_coverWith : GoodIn wsX8_sweep (wsV RX8 94 RX5 yX5_coverWith wsX5_coverWith) := goodIn_app (goodIn_of _ (by decide +kernel)) ggX8_sweep_X5_coverWith
set_option maxRecDepth 20000 in
theorem ggX8_clamp_X8_isPlace : GoodIn wsX8_clamp wsX8_isPlace := goodIn_r _ [6] (by decide +kernel) (by decide +kernel)
set_option maxRecDepth 20000 in
theorem gX8_clamp_X8_isPlace : GoodIn wsX8_clamp (va_wsS RX8 67 yX8_isPlace wsX8_isPlace) := goodIn_app (goodIn_of _ (by decide +kernel)) ggX8_clamp_X8_isPlace
set_option maxRecDepth 20000 in
theorem ggX8_clamp_X5_clampOn : GoodIn wsX8_clamp wsX5_clampOn := goodIn_r _ [11, 12, 13, 14, 67, 68, 69, 70, 71, 72, 73, 74, 75, 76, 77, 78] (by decide +kernel) (by decide +kernel)
set_option maxRecDepth 20000 in
theorem gX8_clamp_X5_clampOn : GoodIn wsX8_clamp (wsV RX8 101 RX5 yX5_clampOn wsX5_clampOn) := goodIn_app (goodIn_of _ (by decide +kernel)) ggX8_clamp_X5_clampOn
set_option maxRecDepth 20000 in
theorem ggX8_clamp_X2_record : GoodIn wsX8_clamp wsX2_record := goodIn_r _ [19, 20, 21, 22, 23, 24, 25, 10, 26, 27, 28, 29, 30, 31, 13, 14, 12, 32, 33, 34, 35, 36, 37, 38, 39, 40, 41, 42, 43, 44, 45, 46, 47, 48, 49, 50, 51, 52, 53, 54, 55, 56, 57, 79, 80, 81, 67, 68, 69, 70, 71, 72, 73, 74, 75, 76, 77, 78, 82, 83, 84, 85, 86] (by decide +kernel) (by decide +kernel)
set_option maxRecDepth 20000 in
theorem gX8_clamp_X2_record : GoodIn wsX8_clamp (wsV RX8 71 RX2 yX2_record wsX2_record) := goodIn_app (goodIn_of _ (by decide +kernel)) ggX8_clamp_X2_record
set_option maxRecDepth 20000 in
theorem ggX8_unclamp_X8_isClamp : GoodIn wsX8_unclamp wsX8_isClamp := goodIn_r _ [7, 2, 59, 60, 61, 62, 63, 64, 65, 66, 67, 68, 69, 70, 71, 72, 73, 74, 75, 76, 77, 78, 79] (by decide +kernel) (by decide +kernel)
set_option maxRecDepth 20000 in
theorem gX8_unclamp_X8_isClamp : GoodIn wsX8_unclamp (wsV RX8 110 RX8 yX8_isClamp wsX8_isClamp) := goodIn_app (goodIn_of _ (by decide +kernel)) ggX8_unclamp_X8_isClamp
set_option maxRecDepth 20000 in
theorem ggX8_unclamp_X2_record : GoodIn wsX8_unclamp wsX2_record := goodIn_r _ [12, 13, 14, 15, 16, 17, 18, 19, 20, 21, 22, 23, 24, 25, 26, 27, 28, 29, 30, 31, 32, 33, 34, 35, 36, 37, 38, 39, 40, 41, 42, 43, 44, 45, 46, 47, 48, 49, 50, 51, 52, 53, 54, 80, 81, 82, 68, 69, 70, 71, 72, 73, 74, 75, 76, 77, 78, 79, 83, 84, 85, 86, 87] (by decide +kernel) (by decide +kernel)
set_option maxRecDepth 20000 in
theorem gX8_unclamp_X2_record : GoodIn wsX8_unclamp (wsV RX8 71 RX2 yX2_record wsX2_record) := goodIn_app (goodIn_of _ (by decide +kernel)) ggX8_unclamp_X2_record
set_option maxRecDepth 20000 in
theorem ggX8_unclamp_X5_dropClamp : GoodIn wsX8_unclamp wsX5_dropClamp := goodIn_r _ [58, 28, 26, 27, 68, 69, 70, 71, 72, 73, 74, 75, 76, 77, 78, 79] (by decide +kernel) (by decide +kernel)
set_option maxRecDepth 20000 in
theorem gX8_unclamp_X5_dropClamp : GoodIn wsX8_unclamp (wsV RX8 114 RX5 yX5_dropClamp wsX5_dropClamp) := goodIn_app (goodIn_of _ (by decide +kernel)) ggX8_unclamp_X5_dropClamp
set_option maxRecDepth 20000 in
theorem ggX8_set_X2_record : GoodIn wsX8_set wsX2_record := goodIn_r _ [9, 10, 11, 12, 13, 14, 15, 16, 17, 18, 19, 20, 21, 22, 23, 24, 25, 26, 27, 28, 29, 30, 31, 32, 33, 34, 35, 36, 37, 38, 39, 40, 41, 42, 43, 44, 45, 46, 47, 48, 49, 50, 51, 73, 74, 75, 61, 62, 63, 64, 65, 66, 67, 68, 69, 70, 71, 72, 76, 77, 78, 79, 80] (by decide +kernel) (by decide +kernel)
set_option maxRecDepth 20000 in
theorem gX8_set_X2_record : GoodIn wsX8_set (wsV RX8 71 RX2 yX2_record wsX2_record) := goodIn_app (goodIn_of _ (by decide +kernel)) ggX8_set_X2_record
set_option maxRecDepth 20000 in
theorem ggX8_bow_X8_isBow : GoodIn wsX8_bow wsX8_isBow := goodIn_r _ [6, 7, 8, 5, 9] (by decide +kernel) (by decide +kernel)
set_option maxRecDepth 20000 in
theorem gX8_bow_X8_isBow : GoodIn wsX8_bow (va_wsS RX8 126 yX8_isBow wsX8_isBow) := goodIn_app (goodIn_of _ (by decide +kernel)) ggX8_bow_X8_isBow
set_option maxRecDepth 20000 in
theorem ggX8_bow_X2_record : GoodIn wsX8_bow wsX2_record := goodIn_r _ [14, 15, 16, 17, 18, 19, 20, 21, 22, 23, 24, 25, 26, 27, 28, 29, 30, 31, 32, 33, 34, 35, 36, 37, 38, 39, 40, 41, 42, 43, 44, 45, 46, 47, 48, 49, 50, 51, 52, 53, 54, 55, 56, 84, 85, 86, 67, 68, 69, 70, 71, 72, 73, 74, 75, 76, 77, 78, 79, 80, 81, 82, 83] (by decide +kernel) (by decide +kernel)
set_option maxRecDepth 20000 in
theorem gX8_bow_X2_record : GoodIn wsX8_bow (wsV RX8 71 RX2 yX2_record wsX2_record) := goodIn_app (goodIn_of _ (by decide +kernel)) ggX8_bow_X2_record
set_option maxRecDepth 20000 in
theorem ggX8_bow_X4_append : GoodIn wsX8_bow wsX4_append := goodIn_r _ [55, 44, 56, 49, 50, 51, 79, 80, 81, 82, 83] (by decide +kernel) (by decide +kernel)
set_option maxRecDepth 20000 in
theorem gX8_bow_X4_append : GoodIn wsX8_bow (wsV RX8 138 RX4 yX4_append wsX4_append) := goodIn_app (goodIn_of _ (by decide +kernel)) ggX8_bow_X4_append
set_option maxRecDepth 20000 in
theorem ggX8_strike_X4_sizeAt : GoodIn wsX8_strike wsX4_sizeAt := goodIn_r _ [7, 8, 9, 79, 80, 81, 82, 83] (by decide +kernel) (by decide +kernel)
set_option maxRecDepth 20000 in
theorem gX8_strike_X4_sizeAt : GoodIn wsX8_strike (wsV RX8 154 RX4 yX4_sizeAt wsX4_sizeAt) := goodIn_app (goodIn_of _ (by decide +kernel)) ggX8_strike_X4_sizeAt
set_option maxRecDepth 20000 in
theorem ggX8_strike_X2_record : GoodIn wsX8_strike wsX2_record := goodIn_r _ [14, 15, 16, 17, 18, 19, 20, 21, 22, 23, 24, 25, 26, 27, 28, 29, 30, 31, 32, 33, 34, 35, 36, 37, 38, 39, 40, 41, 6, 42, 8, 43, 44, 45, 46, 9, 47, 48, 49, 50, 51, 52, 53, 84, 85, 86, 67, 68, 69, 70, 71, 72, 73, 74, 75, 76, 77, 78, 79, 80, 81, 82, 83] (by decide +kernel) (by decide +kernel)
set_option maxRecDepth 20000 in
theorem gX8_strike_X2_record : GoodIn wsX8_strike (wsV RX8 71 RX2 yX2_record wsX2_record) := goodIn_app (goodIn_of _ (by decide +kernel)) ggX8_strike_X2_record
set_option maxRecDepth 20000 in
theorem ggX8_strike_X4_dropSide : GoodIn wsX8_strike wsX4_dropSide := goodIn_r _ [57, 8, 9, 47, 48, 49, 50, 51, 6, 52, 53, 79, 80, 81, 82, 83] (by decide +kernel) (by decide +kernel)
set_option maxRecDepth 20000 in
theorem gX8_strike_X4_dropSide : GoodIn wsX8_strike (wsV RX8 158 RX4 yX4_dropSide wsX4_dropSide) := goodIn_app (goodIn_of _ (by decide +kernel)) ggX8_strike_X4_dropSide
set_option maxRecDepth 20000 in
theorem ggX8_play_X2_record : GoodIn wsX8_play wsX2_record := goodIn_r _ [11, 12, 13, 14, 15, 16, 17, 18, 19, 20, 21, 22, 23, 24, 25, 26, 27, 28, 29, 30, 31, 32, 33, 34, 35, 36, 37, 38, 39, 40, 41, 42, 43, 44, 45, 46, 47, 48, 49, 50, 51, 52, 53, 166, 167, 168, 149, 150, 151, 152, 153, 154, 155, 156, 157, 158, 159, 160, 161, 162, 163, 164, 165] (by decide +kernel) (by decide +kernel)
set_option maxRecDepth 20000 in
theorem gX8_play_X2_record : GoodIn wsX8_play (wsV RX8 71 RX2 yX2_record wsX2_record) := goodIn_app (goodIn_of _ (by decide +kernel)) ggX8_play_X2_record
set_option maxRecDepth 20000 in
theorem ggX8_play_X8_playBowing : GoodIn wsX8_play wsX8_playBowing := goodIn_r _ [58, 59, 1, 60, 61, 62, 63, 64, 65, 66, 67, 68, 69, 70, 71, 72, 73, 74, 75, 76, 77, 78, 79, 80, 81, 82, 83, 84, 85, 86, 4, 87, 88, 57, 89, 90, 91, 92, 93, 94, 95, 96, 97, 98, 99, 100, 101, 102, 103, 104, 105, 106, 107, 108, 109, 110, 111, 112, 113, 114, 115, 116, 117, 118, 119, 120, 121, 122, 123, 124, 125, 126, 127, 128, 129, 130, 131, 132, 140, 141, 142, 143, 144, 145, 146, 147, 148, 149, 150, 151, 152, 153, 154, 155, 156, 157, 158, 159, 160, 161, 162, 163, 164, 165, 169, 170, 171, 172, 173, 174, 175, 176, 177, 178, 179, 180, 181, 182, 183] (by decide +kernel) (by decide +kernel)
set_option maxRecDepth 20000 in
theorem gX8_play_X8_playBowing : GoodIn wsX8_play (wsV RX8 166 RX8 yX8_playBowing wsX8_playBowing) := goodIn_app (goodIn_of _ (by decide +kernel)) ggX8_play_X8_playBowing
set_option maxRecDepth 20000 in
theorem ggX8_play_X4_dropFirst : GoodIn wsX8_play wsX4_dropFirst := goodIn_r _ [136, 41, 137, 138, 4, 139, 46, 47, 48, 49, 50, 51, 39, 52, 53, 161, 162, 163, 164, 165] (by decide +kernel) (by decide +kernel)
set_option maxRecDepth 20000 in
theorem gX8_play_X4_dropFirst : GoodIn wsX8_play (wsV RX8 169 RX4 yX4_dropFirst wsX4_dropFirst) := goodIn_app (goodIn_of _ (by decide +kernel)) ggX8_play_X4_dropFirst
set_option maxRecDepth 20000 in
theorem ggX8_undo_X2_takeLatest : GoodIn wsX8_undo wsX2_takeLatest := goodIn_r _ [7, 8, 9, 10, 11, 12, 13, 14, 15, 16, 17, 18, 19, 20, 21, 22, 23, 24, 25, 26, 27, 28, 29, 30, 31, 32, 33, 34, 35, 36, 37, 38, 39, 40, 41, 42, 43, 44, 45, 46, 47, 48, 49, 59, 60, 61, 62, 63, 64, 65, 66, 67, 68, 69, 70, 71, 72, 73, 74, 75, 76, 77, 78] (by decide +kernel) (by decide +kernel)
set_option maxRecDepth 20000 in
theorem gX8_undo_X2_takeLatest : GoodIn wsX8_undo (wsV RX8 181 RX2 yX2_takeLatest wsX2_takeLatest) := goodIn_app (goodIn_of _ (by decide +kernel)) ggX8_undo_X2_takeLatest
set_option maxRecDepth 20000 in
theorem ggX8_place_X8_isPlace : GoodIn wsX8_place wsX8_isPlace := goodIn_r _ [7] (by decide +kernel) (by decide +kernel)
set_option maxRecDepth 20000 in
theorem gX8_place_X8_isPlace : GoodIn wsX8_place (va_wsS RX8 67 yX8_isPlace wsX8_isPlace) := goodIn_app (goodIn_of _ (by decide +kernel)) ggX8_place_X8_isPlace
set_option maxRecDepth 20000 in
theorem ggX8_place_X8_placeOf : GoodIn wsX8_place wsX8_placeOf := goodIn_r _ [10] (by decide +kernel) (by decide +kernel)
set_option maxRecDepth 20000 in
theorem gX8_place_X8_placeOf : GoodIn wsX8_place (va_wsS RX8 75 yX8_placeOf wsX8_placeOf) := goodIn_app (goodIn_of _ (by decide +kernel)) ggX8_place_X8_placeOf
set_option maxRecDepth 20000 in
theorem ggX8_place_X8_isWay : GoodIn wsX8_place wsX8_isWay := goodIn_r _ [13] (by decide +kernel) (by decide +kernel)
set_option maxRecDepth 20000 in
theorem gX8_place_X8_isWay : GoodIn wsX8_place (va_wsS RX8 190 yX8_isWay wsX8_isWay) := goodIn_app (goodIn_of _ (by decide +kernel)) ggX8_place_X8_isWay
set_option maxRecDepth 20000 in
theorem ggX8_place_X7_swingAt : GoodIn wsX8_place wsX7_swingAt := goodIn_r _ [18, 19, 20, 21, 22, 23, 24, 25, 26, 12, 6, 13, 5, 7, 70, 71, 72, 73, 74] (by decide +kernel) (by decide +kernel)
set_option maxRecDepth 20000 in
theorem gX8_place_X7_swingAt : GoodIn wsX8_place (wsV RX8 193 RX7 yX7_swingAt wsX7_swingAt) := goodIn_app (goodIn_of _ (by decide +kernel)) ggX8_place_X7_swingAt
set_option maxRecDepth 20000 in
theorem ggX8_place_X1_isStill : GoodIn wsX8_place wsX1_isStill := goodIn_r _ [31, 32, 33, 34, 15, 16, 17, 18, 19, 20, 21, 22, 23, 24, 25, 26, 12, 6, 13, 5, 7, 75, 76, 77, 78, 79, 58, 59, 60, 61, 62, 63, 64, 65, 66, 67, 68, 69, 70, 71, 72, 73, 74] (by decide +kernel) (by decide +kernel)
set_option maxRecDepth 20000 in
theorem gX8_place_X1_isStill : GoodIn wsX8_place (wsV RX8 197 RX1 yX1_isStill wsX1_isStill) := goodIn_app (goodIn_of _ (by decide +kernel)) ggX8_place_X1_isStill
set_option maxRecDepth 20000 in
theorem ggX8_place_X8_asNumber : GoodIn wsX8_place wsX8_asNumber := goodIn_r _ [37] (by decide +kernel) (by decide +kernel)
set_option maxRecDepth 20000 in
theorem gX8_place_X8_asNumber : GoodIn wsX8_place (va_wsS RX8 201 yX8_asNumber wsX8_asNumber) := goodIn_app (goodIn_of _ (by decide +kernel)) ggX8_place_X8_asNumber
set_option maxRecDepth 20000 in
theorem ggX8_place_X5_clampOn : GoodIn wsX8_place wsX5_clampOn := goodIn_r _ [42, 43, 44, 45, 58, 59, 60, 61, 62, 63, 64, 65, 66, 67, 68, 69] (by decide +kernel) (by decide +kernel)
set_option maxRecDepth 20000 in
theorem gX8_place_X5_clampOn : GoodIn wsX8_place (wsV RX8 101 RX5 yX5_clampOn wsX5_clampOn) := goodIn_app (goodIn_of _ (by decide +kernel)) ggX8_place_X5_clampOn
set_option maxRecDepth 20000 in
theorem ggX8_place_X8_orNone : GoodIn wsX8_place wsX8_orNone := goodIn_r _ [48] (by decide +kernel) (by decide +kernel)
set_option maxRecDepth 20000 in
theorem gX8_place_X8_orNone : GoodIn wsX8_place (va_wsS RX8 205 yX8_orNone wsX8_orNone) := goodIn_app (goodIn_of _ (by decide +kernel)) ggX8_place_X8_orNone
set_option maxRecDepth 20000 in
theorem ggX8_way_X8_isWay : GoodIn wsX8_way wsX8_isWay := goodIn_r _ [7] (by decide +kernel) (by decide +kernel)
set_option maxRecDepth 20000 in
theorem gX8_way_X8_isWay : GoodIn wsX8_way (va_wsS RX8 190 yX8_isWay wsX8_isWay) := goodIn_app (goodIn_of _ (by decide +kernel)) ggX8_way_X8_isWay
set_option maxRecDepth 20000 in
theorem ggX8_way_X7_noteOf : GoodIn wsX8_way wsX7_noteOf := goodIn_r _ [12, 13, 14, 15, 5, 6, 7, 83, 84, 85, 86, 87] (by decide +kernel) (by decide +kernel)
set_option maxRecDepth 20000 in
theorem gX8_way_X7_noteOf : GoodIn wsX8_way (wsV RX8 217 RX7 yX7_noteOf wsX7_noteOf) := goodIn_app (goodIn_of _ (by decide +kernel)) ggX8_way_X7_noteOf
set_option maxRecDepth 20000 in
theorem ggX8_way_X1_stillPlaces : GoodIn wsX8_way wsX1_stillPlaces := goodIn_r _ [20, 21, 6, 22, 23, 24, 25, 26, 27, 19, 28, 29, 30, 31, 32, 33, 11, 34, 13, 14, 35, 15, 36, 37, 38, 39, 5, 7, 40, 41, 88, 89, 90, 91, 92, 93, 94, 95, 96, 97, 98, 99, 100, 101, 102, 103, 104, 83, 84, 85, 86, 87] (by decide +kernel) (by decide +kernel)
set_option maxRecDepth 20000 in
theorem gX8_way_X1_stillPlaces : GoodIn wsX8_way (wsV RX8 220 RX1 yX1_stillPlaces wsX1_stillPlaces) := goodIn_app (goodIn_of _ (by decide +kernel)) ggX8_way_X1_stillPlaces
set_option maxRecDepth 20000 in
theorem ggX8_way_X1_lines : GoodIn wsX8_way wsX1_lines := goodIn_r _ [45, 46, 21, 6, 22, 23, 24, 25, 26, 27, 19, 28, 29, 30, 31, 32, 33, 11, 34, 13, 14, 35, 15, 36, 37, 38, 39, 5, 7, 40, 41, 47, 48, 49, 50, 51, 52, 53, 54, 55, 56, 57, 58, 88, 89, 90, 91, 92, 93, 94, 95, 96, 97, 98, 99, 100, 101, 102, 103, 104, 83, 84, 85, 86, 87] (by decide +kernel) (by decide +kernel)
set_option maxRecDepth 20000 in
theorem gX8_way_X1_lines : GoodIn wsX8_way (wsV RX8 223 RX1 yX1_lines wsX1_lines) := goodIn_app (goodIn_of _ (by decide +kernel)) ggX8_way_X1_lines
set_option maxRecDepth 20000 in
theorem ggX8_way_X1_grainsOnLines : GoodIn wsX8_way wsX1_grainsOnLines := goodIn_r _ [62, 30, 21, 6, 22, 23, 24, 25, 26, 27, 19, 28, 29, 31, 32, 33, 11, 34, 13, 14, 35, 15, 36, 37, 38, 39, 5, 7, 40, 41, 88, 89, 90, 91, 92, 93, 94, 95, 96, 97, 98, 99, 100, 101, 102, 103, 104, 83, 84, 85, 86, 87] (by decide +kernel) (by decide +kernel)
set_option maxRecDepth 20000 in
theorem gX8_way_X1_grainsOnLines : GoodIn wsX8_way (wsV RX8 226 RX1 yX1_grainsOnLines wsX1_grainsOnLines) := goodIn_app (goodIn_of _ (by decide +kernel)) ggX8_way_X1_grainsOnLines
set_option maxRecDepth 20000 in
theorem ggX8_way_X0_clampsAllow : GoodIn wsX8_way wsX0_clampsAllow := goodIn_r _ [67, 68, 69, 70, 32, 33, 11, 34, 13, 14, 35, 15, 36, 37, 38, 39, 5, 6, 7, 40, 41, 105, 106, 107, 108, 109, 93, 94, 95, 96, 97, 98, 99, 100, 101, 102, 103, 104, 83, 84, 85, 86, 87] (by decide +kernel) (by decide +kernel)
set_option maxRecDepth 20000 in
theorem gX8_way_X0_clampsAllow : GoodIn wsX8_way (wsV RX8 229 RX0 yX0_clampsAllow wsX0_clampsAllow) := goodIn_app (goodIn_of _ (by decide +kernel)) ggX8_way_X0_clampsAllow
set_option maxRecDepth 20000 in
theorem ggX8_way_X8_asNumber : GoodIn wsX8_way wsX8_asNumber := goodIn_r _ [73] (by decide +kernel) (by decide +kernel)
set_option maxRecDepth 20000 in
theorem gX8_way_X8_asNumber : GoodIn wsX8_way (va_wsS RX8 201 yX8_asNumber wsX8_asNumber) := goodIn_app (goodIn_of _ (by decide +kernel)) ggX8_way_X8_asNumber
set_option maxRecDepth 20000 in
theorem ggX8_swing_X8_isWay : GoodIn wsX8_swing wsX8_isWay := goodIn_r _ [5] (by decide +kernel) (by decide +kernel)
set_option maxRecDepth 20000 in
theorem gX8_swing_X8_isWay : GoodIn wsX8_swing (va_wsS RX8 190 yX8_isWay wsX8_isWay) := goodIn_app (goodIn_of _ (by decide +kernel)) ggX8_swing_X8_isWay
set_option maxRecDepth 20000 in
theorem ggX8_swing_X8_isPlace : GoodIn wsX8_swing wsX8_isPlace := goodIn_r _ [8] (by decide +kernel) (by decide +kernel)
set_option maxRecDepth 20000 in
theorem gX8_swing_X8_isPlace : GoodIn wsX8_swing (va_wsS RX8 67 yX8_isPlace wsX8_isPlace) := goodIn_app (goodIn_of _ (by decide +kernel)) ggX8_swing_X8_isPlace
set_option maxRecDepth 20000 in
theorem ggX8_swing_X7_swingAt : GoodIn wsX8_swing wsX7_swingAt := goodIn_r _ [13, 14, 15, 16, 17, 18, 19, 20, 21, 3, 4, 5, 7, 8, 31, 32, 33, 34, 35] (by decide +kernel) (by decide +kernel)
set_option maxRecDepth 20000 in
theorem gX8_swing_X7_swingAt : GoodIn wsX8_swing (wsV RX8 193 RX7 yX7_swingAt wsX7_swingAt) := goodIn_app (goodIn_of _ (by decide +kernel)) ggX8_swing_X7_swingAt
set_option maxRecDepth 20000 in
theorem ggX8_sounds_X8_isBow : GoodIn wsX8_sounds wsX8_isBow := goodIn_r _ [5, 6, 7, 4, 8] (by decide +kernel) (by decide +kernel)
set_option maxRecDepth 20000 in
theorem gX8_sounds_X8_isBow : GoodIn wsX8_sounds (va_wsS RX8 126 yX8_isBow wsX8_isBow) := goodIn_app (goodIn_of _ (by decide +kernel)) ggX8_sounds_X8_isBow
set_option maxRecDepth 20000 in
theorem ggX8_sounds_X0_wayFor : GoodIn wsX8_sounds wsX0_wayFor := goodIn_r _ [13, 14, 15, 16, 12, 17, 18, 19, 20, 21, 22, 23, 24, 25, 26, 27, 28, 29, 30, 31, 32, 33, 34, 35, 36, 37, 4, 38, 39, 40, 41, 42, 43, 44, 57, 58, 59, 60, 61, 62, 63, 64, 65, 66, 67, 68, 69, 70, 71, 72, 73, 74, 75, 76, 77, 78] (by decide +kernel) (by decide +kernel)
set_option maxRecDepth 20000 in
theorem gX8_sounds_X0_wayFor : GoodIn wsX8_sounds (wsV RX8 232 RX0 yX0_wayFor wsX0_wayFor) := goodIn_app (goodIn_of _ (by decide +kernel)) ggX8_sounds_X0_wayFor
set_option maxRecDepth 20000 in
theorem ggX8_sounds_X8_orNone : GoodIn wsX8_sounds wsX8_orNone := goodIn_r _ [47] (by decide +kernel) (by decide +kernel)
set_option maxRecDepth 20000 in
theorem gX8_sounds_X8_orNone : GoodIn wsX8_sounds (va_wsS RX8 205 yX8_orNone wsX8_orNone) := goodIn_app (goodIn_of _ (by decide +kernel)) ggX8_sounds_X8_orNone
set_option maxRecDepth 20000 in
theorem ggX8_why_X8_isWay : GoodIn wsX8_why wsX8_isWay := goodIn_r _ [5] (by decide +kernel) (by decide +kernel)
set_option maxRecDepth 20000 in
theorem gX8_why_X8_isWay : GoodIn wsX8_why (va_wsS RX8 190 yX8_isWay wsX8_isWay) := goodIn_app (goodIn_of _ (by decide +kernel)) ggX8_why_X8_isWay
set_option maxRecDepth 20000 in
theorem ggX8_why_X8_isBow : GoodIn wsX8_why wsX8_isBow := goodIn_r _ [8, 9, 10, 4, 11] (by decide +kernel) (by decide +kernel)
set_option maxRecDepth 20000 in
theorem gX8_why_X8_isBow : GoodIn wsX8_why (va_wsS RX8 126 yX8_isBow wsX8_isBow) := goodIn_app (goodIn_of _ (by decide +kernel)) ggX8_why_X8_isBow
set_option maxRecDepth 20000 in
theorem ggX8_why_X0_reasonOf : GoodIn wsX8_why wsX0_reasonOf := goodIn_r _ [16, 17, 18, 19, 15, 20, 21, 22, 23, 24, 25, 26, 27, 28, 29, 30, 31, 32, 33, 34, 35, 3, 4, 5, 36, 37, 38, 39, 40, 41, 42, 43, 44, 45, 46, 47, 48, 49, 59, 60, 61, 62, 63, 64, 65, 66, 67, 68, 69, 70, 71, 72, 73, 74, 75, 76, 77, 78, 79, 80] (by decide +kernel) (by decide +kernel)
set_option maxRecDepth 20000 in
theorem gX8_why_X0_reasonOf : GoodIn wsX8_why (wsV RX8 235 RX0 yX0_reasonOf wsX0_reasonOf) := goodIn_app (goodIn_of _ (by decide +kernel)) ggX8_why_X0_reasonOf
set_option maxRecDepth 20000 in
theorem ggX8_possible_X0_findPossible : GoodIn wsX8_possible wsX0_findPossible := goodIn_r _ [6, 7, 8, 9, 10, 11, 12, 5, 13, 14, 15, 16, 17, 18, 19, 20, 21, 22, 23, 24, 25, 26, 27, 28, 29, 30, 31, 32, 33, 34, 35, 36, 37, 38, 39, 40, 41, 42, 43, 44, 45, 55, 56, 57, 58, 59, 60, 61, 62, 63, 64, 65, 66, 67, 68, 69, 70, 71, 72, 73, 74, 75, 76] (by decide +kernel) (by decide +kernel)
set_option maxRecDepth 20000 in
theorem gX8_possible_X0_findPossible : GoodIn wsX8_possible (wsV RX8 238 RX0 yX0_findPossible wsX0_findPossible) := goodIn_app (goodIn_of _ (by decide +kernel)) ggX8_possible_X0_findPossible
set_option maxRecDepth 20000 in
theorem ggX8_waiting_X0_wayFor : GoodIn wsX8_waiting wsX0_wayFor := goodIn_r _ [7, 8, 9, 10, 6, 11, 12, 13, 14, 15, 16, 17, 18, 19, 20, 21, 22, 23, 24, 25, 26, 27, 28, 29, 30, 31, 32, 33, 34, 35, 36, 37, 38, 39, 69, 70, 71, 72, 73, 52, 53, 54, 55, 56, 57, 58, 59, 60, 61, 62, 63, 74, 75, 76, 77, 78] (by decide +kernel) (by decide +kernel)
set_option maxRecDepth 20000 in
theorem gX8_waiting_X0_wayFor : GoodIn wsX8_waiting (wsV RX8 232 RX0 yX0_wayFor wsX0_wayFor) := goodIn_app (goodIn_of _ (by decide +kernel)) ggX8_waiting_X0_wayFor
set_option maxRecDepth 20000 in
theorem ggX8_waiting_X8_orNone : GoodIn wsX8_waiting wsX8_orNone := goodIn_r _ [42] (by decide +kernel) (by decide +kernel)
set_option maxRecDepth 20000 in
theorem gX8_waiting_X8_orNone : GoodIn wsX8_waiting (va_wsS RX8 205 yX8_orNone wsX8_orNone) := goodIn_app (goodIn_of _ (by decide +kernel)) ggX8_waiting_X8_orNone
set_option maxRecDepth 20000 in
theorem ggX8_sand_X8_isLine : GoodIn wsX8_sand wsX8_isLine := goodIn_r _ [5] (by decide +kernel) (by decide +kernel)
set_option maxRecDepth 20000 in
theorem gX8_sand_X8_isLine : GoodIn wsX8_sand (va_wsS RX8 256 yX8_isLine wsX8_isLine) := goodIn_app (goodIn_of _ (by decide +kernel)) ggX8_sand_X8_isLine
set_option maxRecDepth 20000 in
theorem ggX8_sand_X8_placeOf : GoodIn wsX8_sand wsX8_placeOf := goodIn_r _ [8] (by decide +kernel) (by decide +kernel)
set_option maxRecDepth 20000 in
theorem gX8_sand_X8_placeOf : GoodIn wsX8_sand (va_wsS RX8 75 yX8_placeOf wsX8_placeOf) := goodIn_app (goodIn_of _ (by decide +kernel)) ggX8_sand_X8_placeOf
set_option maxRecDepth 20000 in
theorem ggX8_count_X5_allGrains : GoodIn wsX8_count wsX5_allGrains := goodIn_r _ [9, 10, 74, 75, 76, 77, 78, 79, 80, 81, 82, 83, 84, 85] (by decide +kernel) (by decide +kernel)
set_option maxRecDepth 20000 in
theorem gX8_count_X5_allGrains : GoodIn wsX8_count (wsV RX8 87 RX5 yX5_allGrains wsX5_allGrains) := goodIn_app (goodIn_of _ (by decide +kernel)) ggX8_count_X5_allGrains
set_option maxRecDepth 20000 in
theorem ggX8_count_X8_orNone : GoodIn wsX8_count wsX8_orNone := goodIn_r _ [14] (by decide +kernel) (by decide +kernel)
set_option maxRecDepth 20000 in
theorem gX8_count_X8_orNone : GoodIn wsX8_count (va_wsS RX8 205 yX8_orNone wsX8_orNone) := goodIn_app (goodIn_of _ (by decide +kernel)) ggX8_count_X8_orNone
set_option maxRecDepth 20000 in
theorem ggX8_count_X0_findPossible : GoodIn wsX8_count wsX0_findPossible := goodIn_r _ [19, 20, 21, 22, 23, 24, 25, 18, 26, 27, 28, 29, 30, 31, 32, 33, 34, 35, 36, 37, 38, 39, 40, 41, 42, 13, 43, 44, 45, 46, 47, 48, 49, 50, 51, 52, 53, 54, 55, 56, 57, 91, 92, 93, 94, 95, 74, 75, 76, 77, 78, 79, 80, 81, 82, 83, 84, 85, 103, 104, 105, 106, 107] (by decide +kernel) (by decide +kernel)
set_option maxRecDepth 20000 in
theorem gX8_count_X0_findPossible : GoodIn wsX8_count (wsV RX8 238 RX0 yX0_findPossible wsX0_findPossible) := goodIn_app (goodIn_of _ (by decide +kernel)) ggX8_count_X0_findPossible
set_option maxRecDepth 20000 in
theorem ggX8_count_X5_mostGrains : GoodIn wsX8_count wsX5_mostGrains := goodIn_r _ [61, 10, 62, 63, 40, 64, 74, 75, 76, 77, 78, 79, 80, 81, 82, 83, 84, 85] (by decide +kernel) (by decide +kernel)
set_option maxRecDepth 20000 in
theorem gX8_count_X5_mostGrains : GoodIn wsX8_count (wsV RX8 267 RX5 yX5_mostGrains wsX5_mostGrains) := goodIn_app (goodIn_of _ (by decide +kernel)) ggX8_count_X5_mostGrains
set_option maxRecDepth 20000 in
theorem ggX8_clampAt_X8_isClamp : GoodIn wsX8_clampAt wsX8_isClamp := goodIn_r _ [6, 1, 7, 8, 9, 10, 11, 12, 13, 14, 15, 16, 17, 18, 19, 20, 21, 22, 23, 24, 25, 26, 27] (by decide +kernel) (by decide +kernel)
set_option maxRecDepth 20000 in
theorem gX8_clampAt_X8_isClamp : GoodIn wsX8_clampAt (wsV RX8 110 RX8 yX8_isClamp wsX8_isClamp) := goodIn_app (goodIn_of _ (by decide +kernel)) ggX8_clampAt_X8_isClamp
set_option maxRecDepth 20000 in
theorem ggX8_playBowing_X0_wayFor : GoodIn wsX8_playBowing wsX0_wayFor := goodIn_r _ [8, 9, 10, 11, 7, 12, 13, 14, 15, 16, 17, 18, 19, 20, 21, 22, 23, 24, 25, 26, 27, 28, 29, 30, 31, 32, 33, 34, 35, 36, 37, 38, 39, 40, 104, 105, 106, 107, 108, 87, 88, 89, 90, 91, 92, 93, 94, 95, 96, 97, 98, 109, 110, 111, 112, 113] (by decide +kernel) (by decide +kernel)
set_option maxRecDepth 20000 in
theorem gX8_playBowing_X0_wayFor : GoodIn wsX8_playBowing (wsV RX8 232 RX0 yX0_wayFor wsX0_wayFor) := goodIn_app (goodIn_of _ (by decide +kernel)) ggX8_playBowing_X0_wayFor
set_option maxRecDepth 20000 in
theorem ggX8_playBowing_X8_isWay : GoodIn wsX8_playBowing wsX8_isWay := goodIn_r _ [34] (by decide +kernel) (by decide +kernel)
set_option maxRecDepth 20000 in
theorem gX8_playBowing_X8_isWay : GoodIn wsX8_playBowing (va_wsS RX8 190 yX8_isWay wsX8_isWay) := goodIn_app (goodIn_of _ (by decide +kernel)) ggX8_playBowing_X8_isWay
set_option maxRecDepth 20000 in
theorem ggX8_playBowing_X3_stroke : GoodIn wsX8_playBowing wsX3_stroke := goodIn_r _ [46, 47, 48, 49, 50, 33, 51, 52, 53, 54, 20, 21, 22, 23, 24, 25, 26, 27, 28, 29, 30, 31, 32, 34, 35, 36, 55, 56, 57, 45, 58, 59, 60, 61, 62, 63, 64, 65, 66, 67, 68, 69, 70, 71, 72, 73, 74, 75, 76, 77, 114, 115, 116, 117, 118, 109, 110, 111, 112, 113, 87, 88, 89, 90, 91, 92, 93, 94, 95, 96, 97, 98] (by decide +kernel) (by decide +kernel)
set_option maxRecDepth 20000 in
theorem gX8_playBowing_X3_stroke : GoodIn wsX8_playBowing (wsV RX8 270 RX3 yX3_stroke wsX3_stroke) := goodIn_app (goodIn_of _ (by decide +kernel)) ggX8_playBowing_X3_stroke
set_option maxRecDepth 20000 in
theorem ggX8_isBow_X8_isLine : GoodIn wsX8_isBow wsX8_isLine := goodIn_r _ [4] (by decide +kernel) (by decide +kernel)
set_option maxRecDepth 20000 in
theorem gX8_isBow_X8_isLine : GoodIn wsX8_isBow (va_wsS RX8 256 yX8_isLine wsX8_isLine) := goodIn_app (goodIn_of _ (by decide +kernel)) ggX8_isBow_X8_isLine

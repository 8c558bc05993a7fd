/-! printed rows -/
set_option maxRecDepth 20000 in
theorem ggL_isBowSo_X8_sounds : GoodIn wsL_isBowSo wsX8_sounds := goodIn_r _ [5, 6, 7, 8, 4, 9, 10, 11, 12, 13, 14, 15, 16, 17, 18, 19, 20, 21, 22, 23, 24, 25, 26, 27, 28, 29, 30, 31, 32, 33, 34, 35, 36, 37, 38, 39, 40, 41, 42, 43, 44, 45, 46, 47, 48, 49, 50, 51, 162, 163, 164, 165, 166, 167, 168, 169, 170, 171, 172, 173, 174, 175, 176, 177, 178, 179, 180, 181, 182, 183, 184, 185, 186, 187, 188, 189, 190, 191, 192] rfl (by decide +kernel)
set_option maxRecDepth 20000 in
theorem gL_isBowSo_X8_sounds : GoodIn wsL_isBowSo (wsV RL 56 RX8 yX8_sounds wsX8_sounds) := goodIn_app (goodIn_of _ (by decide +kernel)) ggL_isBowSo_X8_sounds
set_option maxRecDepth 20000 in
theorem ggL_isBowSo_L_placeOf : GoodIn wsL_isBowSo wsL_placeOf := goodIn_r _ [55] rfl (by decide +kernel)
set_option maxRecDepth 20000 in
theorem gL_isBowSo_L_placeOf : GoodIn wsL_isBowSo (va_wsS RL 59 yL_placeOf wsL_placeOf) := goodIn_app (goodIn_of _ (by decide +kernel)) ggL_isBowSo_L_placeOf
set_option maxRecDepth 20000 in
theorem ggL_isBowSo_X8_count : GoodIn wsL_isBowSo wsX8_count := goodIn_r _ [59, 60, 6, 61, 62, 63, 64, 65, 66, 67, 68, 49, 50, 4, 51, 69, 70, 71, 16, 72, 73, 74, 75, 45, 46, 47, 48, 22, 27, 28, 29, 30, 31, 32, 33, 34, 35, 36, 37, 38, 39, 40, 41, 42, 43, 44, 76, 77, 78, 79, 18, 19, 20, 21, 23, 24, 25, 26, 80, 81, 82, 83, 84, 85, 86, 162, 163, 164, 165, 166, 167, 168, 169, 170, 176, 177, 178, 179, 180, 181, 182, 183, 184, 185, 186, 187, 193, 194, 195, 196, 197, 171, 172, 173, 174, 175, 198, 199, 200, 201, 202, 203, 204, 188, 189, 190, 191, 192] rfl (by decide +kernel)
set_option maxRecDepth 20000 in
theorem gL_isBowSo_X8_count : GoodIn wsL_isBowSo (wsV RL 27 RX8 yX8_count wsX8_count) := goodIn_app (goodIn_of _ (by decide +kernel)) ggL_isBowSo_X8_count
set_option maxRecDepth 20000 in
theorem ggL_isBowSo_X8_clampAt : GoodIn wsL_isBowSo wsX8_clampAt := goodIn_r _ [90, 60, 91, 92, 93, 4, 94, 162, 163, 164, 165, 166, 167, 168, 169, 170, 176, 177, 178, 179, 180, 181, 182, 183, 184, 185, 186, 187] rfl (by decide +kernel)
set_option maxRecDepth 20000 in
theorem gL_isBowSo_X8_clampAt : GoodIn wsL_isBowSo (wsV RL 52 RX8 yX8_clampAt wsX8_clampAt) := goodIn_app (goodIn_of _ (by decide +kernel)) ggL_isBowSo_X8_clampAt
set_option maxRecDepth 20000 in
theorem ggL_isBowSo_X8_swing : GoodIn wsL_isBowSo wsX8_swing := goodIn_r _ [98, 99, 100, 41, 4, 42, 101, 43, 44, 102, 29, 30, 31, 32, 33, 34, 35, 36, 37, 38, 39, 40, 162, 163, 164, 165, 166, 167, 168, 169, 170, 188, 189, 190, 191, 192] rfl (by decide +kernel)
set_option maxRecDepth 20000 in
theorem gL_isBowSo_X8_swing : GoodIn wsL_isBowSo (wsV RL 62 RX8 yX8_swing wsX8_swing) := goodIn_app (goodIn_of _ (by decide +kernel)) ggL_isBowSo_X8_swing
set_option maxRecDepth 20000 in
theorem ggL_isBowSo_X8_why : GoodIn wsL_isBowSo wsX8_why := goodIn_r _ [106, 6, 100, 41, 4, 42, 7, 8, 9, 10, 11, 12, 107, 108, 109, 16, 110, 45, 46, 47, 48, 22, 27, 28, 29, 30, 31, 32, 33, 34, 35, 36, 37, 38, 39, 40, 43, 44, 18, 19, 20, 21, 23, 24, 25, 26, 111, 14, 15, 17, 162, 163, 164, 165, 166, 167, 168, 169, 170, 171, 172, 173, 174, 175, 176, 177, 178, 179, 180, 181, 182, 183, 184, 185, 186, 187, 188, 189, 190, 191, 192] rfl (by decide +kernel)
set_option maxRecDepth 20000 in
theorem gL_isBowSo_X8_why : GoodIn wsL_isBowSo (wsV RL 65 RX8 yX8_why wsX8_why) := goodIn_app (goodIn_of _ (by decide +kernel)) ggL_isBowSo_X8_why
set_option maxRecDepth 20000 in
theorem ggL_isBowSo_X8_way : GoodIn wsL_isBowSo wsX8_way := goodIn_r _ [115, 99, 116, 6, 100, 41, 4, 42, 117, 118, 119, 31, 120, 33, 34, 36, 121, 122, 123, 124, 125, 126, 127, 128, 129, 130, 131, 132, 133, 134, 135, 136, 29, 30, 32, 35, 37, 38, 39, 40, 43, 44, 137, 138, 139, 140, 141, 142, 143, 144, 145, 146, 147, 148, 149, 150, 151, 152, 153, 154, 155, 156, 157, 158, 46, 47, 16, 48, 22, 27, 28, 159, 160, 161, 162, 163, 164, 165, 166, 167, 168, 169, 170, 188, 189, 190, 191, 192, 205, 206, 207, 208, 209, 176, 177, 178, 179, 180, 181, 182, 183, 184, 185, 186, 187, 171, 172, 173, 174, 175] rfl (by decide +kernel)
set_option maxRecDepth 20000 in
theorem gL_isBowSo_X8_way : GoodIn wsL_isBowSo (wsV RL 68 RX8 yX8_way wsX8_way) := goodIn_app (goodIn_of _ (by decide +kernel)) ggL_isBowSo_X8_way

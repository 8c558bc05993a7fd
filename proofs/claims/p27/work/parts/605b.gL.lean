/-! printed rows -/
set_option maxRecDepth 20000 in
theorem ggL_isSandSo_X8_place : GoodIn wsL_isSandSo wsX8_place := goodIn_r _ [5, 6, 7, 8, 9, 10, 4, 11, 12, 13, 14, 15, 16, 17, 18, 19, 20, 21, 22, 23, 24, 25, 26, 27, 28, 29, 30, 31, 32, 33, 34, 35, 36, 37, 38, 39, 40, 41, 42, 43, 44, 45, 46, 47, 48, 49, 50, 51, 52, 114, 115, 116, 117, 118, 119, 120, 121, 122, 123, 124, 125, 126, 127, 128, 129, 130, 131, 132, 133, 134, 135, 136, 137, 138, 139, 140, 141, 142, 143, 144] rfl (by decide +kernel)
set_option maxRecDepth 20000 in
theorem gL_isSandSo_X8_place : GoodIn wsL_isSandSo (wsV RL 45 RX8 yX8_place wsX8_place) := goodIn_app (goodIn_of _ (by decide +kernel)) ggL_isSandSo_X8_place
set_option maxRecDepth 20000 in
theorem ggL_isSandSo_X8_sand : GoodIn wsL_isSandSo wsX8_sand := goodIn_r _ [56, 6, 57, 58, 4, 59, 12, 13, 14, 114, 115, 116, 117, 118, 119, 120, 121, 122, 123, 124, 125, 126, 127, 128, 129, 130, 131, 132, 133, 134] rfl (by decide +kernel)
set_option maxRecDepth 20000 in
theorem gL_isSandSo_X8_sand : GoodIn wsL_isSandSo (wsV RL 48 RX8 yX8_sand wsX8_sand) := goodIn_app (goodIn_of _ (by decide +kernel)) ggL_isSandSo_X8_sand
set_option maxRecDepth 20000 in
theorem ggL_isSandSo_X8_count : GoodIn wsL_isSandSo wsX8_count := goodIn_r _ [63, 6, 64, 65, 66, 67, 68, 69, 45, 70, 71, 50, 51, 4, 52, 72, 73, 74, 75, 76, 77, 78, 79, 80, 81, 82, 83, 84, 85, 86, 19, 20, 21, 22, 23, 24, 25, 26, 27, 28, 29, 30, 16, 17, 10, 11, 87, 88, 89, 90, 91, 92, 93, 94, 95, 96, 97, 98, 99, 100, 101, 102, 103, 104, 105, 114, 115, 116, 117, 118, 119, 120, 121, 122, 123, 124, 125, 126, 127, 128, 129, 130, 131, 132, 133, 134, 145, 146, 147, 148, 149, 150, 151, 152, 153, 154, 155, 156, 157, 158, 159, 160, 161, 135, 136, 137, 138, 139] rfl (by decide +kernel)
set_option maxRecDepth 20000 in
theorem gL_isSandSo_X8_count : GoodIn wsL_isSandSo (wsV RL 27 RX8 yX8_count wsX8_count) := goodIn_app (goodIn_of _ (by decide +kernel)) ggL_isSandSo_X8_count
set_option maxRecDepth 20000 in
theorem ggL_isSandSo_X8_clampAt : GoodIn wsL_isSandSo wsX8_clampAt := goodIn_r _ [109, 6, 110, 111, 112, 4, 113, 114, 115, 116, 117, 118, 119, 120, 121, 122, 123, 124, 125, 126, 127, 128, 129, 130, 131, 132, 133, 134] rfl (by decide +kernel)
set_option maxRecDepth 20000 in
theorem gL_isSandSo_X8_clampAt : GoodIn wsL_isSandSo (wsV RL 52 RX8 yX8_clampAt wsX8_clampAt) := goodIn_app (goodIn_of _ (by decide +kernel)) ggL_isSandSo_X8_clampAt

/-! printed rows -/
set_option maxRecDepth 20000 in
theorem ggL_areWaysSo_X8_way : GoodIn wsL_areWaysSo wsX8_way := goodIn_r _ [5, 6, 7, 8, 9, 10, 4, 11, 12, 13, 14, 15, 16, 17, 18, 19, 20, 21, 22, 23, 24, 25, 26, 27, 28, 29, 30, 31, 32, 33, 34, 35, 36, 37, 38, 39, 40, 41, 42, 43, 44, 45, 46, 47, 48, 49, 50, 51, 52, 53, 54, 55, 56, 57, 58, 59, 60, 61, 62, 63, 64, 65, 66, 67, 68, 69, 70, 71, 72, 73, 74, 75, 76, 77, 125, 126, 127, 128, 129, 130, 131, 132, 133, 134, 135, 136, 137, 138, 139, 140, 141, 142, 143, 144, 145, 146, 147, 148, 149, 150, 151, 152, 153, 154, 155, 156, 157, 158, 159, 160] rfl (by decide +kernel)
set_option maxRecDepth 20000 in
theorem gL_areWaysSo_X8_way : GoodIn wsL_areWaysSo (wsV RL 68 RX8 yX8_way wsX8_way) := goodIn_app (goodIn_of _ (by decide +kernel)) ggL_areWaysSo_X8_way
set_option maxRecDepth 20000 in
theorem ggL_areWaysSo_X8_possible : GoodIn wsL_areWaysSo wsX8_possible := goodIn_r _ [81, 8, 82, 83, 84, 70, 85, 86, 87, 88, 89, 68, 69, 71, 72, 73, 74, 36, 37, 15, 38, 17, 18, 39, 19, 40, 41, 42, 43, 10, 4, 11, 44, 45, 90, 91, 92, 93, 94, 95, 96, 97, 98, 99, 100, 101, 125, 126, 127, 128, 129, 130, 131, 132, 133, 156, 157, 158, 159, 160, 144, 145, 146, 147, 148, 149, 150, 151, 152, 153, 154, 155, 134, 135, 136, 137, 138] rfl (by decide +kernel)
set_option maxRecDepth 20000 in
theorem gL_areWaysSo_X8_possible : GoodIn wsL_areWaysSo (wsV RL 78 RX8 yX8_possible wsX8_possible) := goodIn_app (goodIn_of _ (by decide +kernel)) ggL_areWaysSo_X8_possible
set_option maxRecDepth 20000 in
theorem ggL_areWaysSo_X8_count : GoodIn wsL_areWaysSo wsX8_count := goodIn_r _ [105, 106, 8, 107, 108, 109, 110, 111, 112, 113, 114, 115, 116, 4, 117, 82, 83, 84, 70, 85, 86, 87, 88, 89, 68, 69, 71, 72, 73, 74, 36, 37, 15, 38, 17, 18, 39, 19, 40, 41, 42, 43, 10, 11, 44, 45, 90, 91, 92, 93, 94, 95, 96, 97, 98, 99, 100, 101, 118, 119, 120, 121, 122, 123, 124, 125, 126, 127, 128, 129, 130, 131, 132, 133, 144, 145, 146, 147, 148, 149, 150, 151, 152, 153, 154, 155, 161, 162, 163, 164, 165, 156, 157, 158, 159, 160, 166, 167, 168, 169, 170, 171, 172, 134, 135, 136, 137, 138] rfl (by decide +kernel)
set_option maxRecDepth 20000 in
theorem gL_areWaysSo_X8_count : GoodIn wsL_areWaysSo (wsV RL 27 RX8 yX8_count wsX8_count) := goodIn_app (goodIn_of _ (by decide +kernel)) ggL_areWaysSo_X8_count

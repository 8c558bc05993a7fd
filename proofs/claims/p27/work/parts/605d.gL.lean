/-! printed rows -/
set_option maxRecDepth 20000 in
theorem ggL_isPlaySo_X8_waiting : GoodIn wsL_isPlaySo wsX8_waiting := goodIn_r _ [5, 6, 7, 8, 9, 10, 11, 12, 13, 14, 15, 16, 17, 18, 19, 20, 21, 22, 23, 24, 25, 26, 27, 28, 29, 30, 31, 32, 33, 34, 35, 36, 4, 37, 38, 39, 40, 41, 42, 43, 44, 45, 46, 229, 230, 231, 232, 233, 234, 235, 236, 237, 238, 239, 240, 241, 242, 243, 244, 245, 246, 247, 248, 249, 250, 251, 252, 253, 254, 255, 256, 257, 258, 259, 260, 261, 262, 263, 264] rfl (by decide +kernel)
set_option maxRecDepth 20000 in
theorem gL_isPlaySo_X8_waiting : GoodIn wsL_isPlaySo (wsV RL 71 RX8 yX8_waiting wsX8_waiting) := goodIn_app (goodIn_of _ (by decide +kernel)) ggL_isPlaySo_X8_waiting
set_option maxRecDepth 20000 in
theorem ggL_isPlaySo_X8_count : GoodIn wsL_isPlaySo wsX8_count := goodIn_r _ [50, 6, 7, 51, 52, 53, 54, 55, 56, 57, 58, 44, 45, 4, 46, 59, 60, 61, 11, 62, 63, 64, 65, 40, 41, 42, 43, 17, 22, 23, 24, 25, 26, 27, 28, 29, 30, 31, 32, 33, 34, 35, 36, 37, 38, 39, 66, 67, 68, 69, 13, 14, 15, 16, 18, 19, 20, 21, 70, 71, 72, 73, 74, 75, 76, 229, 230, 231, 232, 233, 234, 235, 236, 237, 238, 239, 240, 241, 242, 243, 244, 245, 246, 247, 248, 249, 250, 251, 252, 253, 254, 255, 256, 257, 258, 259, 265, 266, 267, 268, 269, 270, 271, 260, 261, 262, 263, 264] rfl (by decide +kernel)
set_option maxRecDepth 20000 in
theorem gL_isPlaySo_X8_count : GoodIn wsL_isPlaySo (wsV RL 27 RX8 yX8_count wsX8_count) := goodIn_app (goodIn_of _ (by decide +kernel)) ggL_isPlaySo_X8_count
set_option maxRecDepth 20000 in
theorem ggL_isPlaySo_X8_play : GoodIn wsL_isPlaySo wsX8_play := goodIn_r _ [80, 6, 81, 82, 34, 83, 51, 84, 85, 86, 87, 88, 89, 90, 91, 92, 93, 94, 56, 95, 58, 96, 97, 98, 99, 100, 101, 102, 103, 104, 105, 106, 107, 108, 109, 110, 111, 112, 113, 114, 115, 116, 117, 118, 119, 120, 121, 122, 123, 124, 125, 126, 127, 128, 129, 130, 131, 4, 132, 7, 133, 8, 9, 10, 11, 12, 13, 14, 15, 16, 17, 18, 19, 20, 21, 22, 23, 24, 25, 26, 27, 28, 29, 30, 31, 32, 33, 35, 36, 37, 38, 39, 40, 41, 42, 43, 134, 135, 136, 137, 138, 139, 140, 141, 142, 143, 144, 145, 146, 147, 148, 149, 150, 151, 152, 153, 154, 155, 156, 157, 158, 159, 160, 161, 162, 163, 164, 165, 166, 167, 168, 169, 170, 171, 172, 173, 174, 175, 75, 76, 229, 230, 231, 232, 233, 234, 235, 236, 237, 238, 239, 240, 241, 242, 243, 244, 245, 246, 247, 248, 249, 250, 251, 252, 253, 254, 265, 266, 267, 255, 256, 257, 258, 259, 260, 261, 262, 263, 264, 272, 273, 274, 275, 276] rfl (by decide +kernel)
set_option maxRecDepth 20000 in
theorem gL_isPlaySo_X8_play : GoodIn wsL_isPlaySo (wsV RL 42 RX8 yX8_play wsX8_play) := goodIn_app (goodIn_of _ (by decide +kernel)) ggL_isPlaySo_X8_play
set_option maxRecDepth 20000 in
theorem ggL_isPlaySo_X8_way : GoodIn wsL_isPlaySo wsX8_way := goodIn_r _ [179, 180, 181, 7, 134, 36, 4, 37, 182, 183, 184, 26, 185, 28, 29, 31, 186, 187, 188, 189, 190, 143, 144, 145, 146, 191, 192, 193, 194, 195, 196, 197, 24, 25, 27, 30, 32, 33, 34, 35, 38, 39, 198, 199, 200, 201, 202, 203, 204, 205, 206, 207, 208, 209, 210, 211, 212, 152, 153, 213, 214, 215, 216, 217, 41, 42, 11, 43, 17, 22, 23, 218, 219, 220, 229, 230, 231, 232, 233, 234, 235, 236, 237, 260, 261, 262, 263, 264, 277, 278, 279, 280, 281, 238, 239, 240, 241, 242, 243, 244, 245, 246, 247, 248, 249, 255, 256, 257, 258, 259] rfl (by decide +kernel)
set_option maxRecDepth 20000 in
theorem gL_isPlaySo_X8_way : GoodIn wsL_isPlaySo (wsV RL 68 RX8 yX8_way wsX8_way) := goodIn_app (goodIn_of _ (by decide +kernel)) ggL_isPlaySo_X8_way
set_option maxRecDepth 20000 in
theorem ggL_isPlaySo_X8_undo : GoodIn wsL_isPlaySo wsX8_undo := goodIn_r _ [224, 51, 6, 225, 226, 227, 87, 228, 89, 91, 90, 92, 93, 94, 56, 95, 58, 96, 97, 98, 99, 100, 101, 102, 103, 104, 105, 106, 107, 108, 109, 110, 111, 112, 113, 114, 115, 116, 117, 118, 119, 120, 121, 122, 123, 124, 125, 126, 127, 128, 229, 230, 231, 232, 233, 234, 235, 236, 237, 265, 266, 267, 238, 239, 240, 241, 242, 243, 244, 245, 246, 247, 248, 249, 250, 251, 252, 253, 254] rfl (by decide +kernel)
set_option maxRecDepth 20000 in
theorem gL_isPlaySo_X8_undo : GoodIn wsL_isPlaySo (wsV RL 74 RX8 yX8_undo wsX8_undo) := goodIn_app (goodIn_of _ (by decide +kernel)) ggL_isPlaySo_X8_undo

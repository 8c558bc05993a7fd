/-! printed rows -/
set_option maxRecDepth 20000 in
theorem ggL_does_L_low : GoodIn wsL_does wsL_low := goodIn_r _ [4, 5] rfl (by decide +kernel)
set_option maxRecDepth 20000 in
theorem gL_does_L_low : GoodIn wsL_does (va_wsS RL 8 yL_low wsL_low) := goodIn_app (goodIn_of _ (by decide +kernel)) ggL_does_L_low
set_option maxRecDepth 20000 in
theorem ggL_does_X8_strew : GoodIn wsL_does wsX8_strew := goodIn_r _ [10, 11, 12, 13, 14, 9, 15, 16, 17, 18, 19, 20, 21, 22, 23, 24, 25, 26, 27, 28, 29, 30, 31, 32, 33, 34, 35, 36, 37, 38, 39, 40, 41, 42, 43, 44, 45, 46, 47, 48, 49, 50, 51, 52, 53, 54, 55, 56, 57, 58, 59, 60, 61, 62, 63, 64, 65, 240, 241, 242, 243, 244, 245, 246, 247, 248, 249, 250, 251, 252, 253, 254, 255, 256, 257, 258, 259, 260, 261, 262, 263, 264, 265, 266, 267, 268] rfl (by decide +kernel)
set_option maxRecDepth 20000 in
theorem gL_does_X8_strew : GoodIn wsL_does (wsV RL 14 RX8 yX8_strew wsX8_strew) := goodIn_app (goodIn_of _ (by decide +kernel)) ggL_does_X8_strew
set_option maxRecDepth 20000 in
theorem ggL_does_X8_sweep : GoodIn wsL_does wsX8_sweep := goodIn_r _ [69, 11, 12, 16, 17, 18, 19, 20, 21, 22, 23, 24, 25, 26, 27, 28, 29, 30, 31, 32, 33, 34, 35, 36, 37, 38, 39, 40, 41, 42, 43, 44, 45, 46, 47, 48, 49, 50, 51, 52, 53, 54, 55, 56, 57, 58, 59, 60, 61, 62, 70, 71, 72, 73, 74, 75, 76, 77, 240, 241, 242, 243, 244, 245, 246, 247, 248, 249, 250, 251, 252, 253, 254, 255, 256, 257, 258, 259, 260, 261, 262, 263, 264, 265, 266, 267, 268] rfl (by decide +kernel)
set_option maxRecDepth 20000 in
theorem gL_does_X8_sweep : GoodIn wsL_does (wsV RL 20 RX8 yX8_sweep wsX8_sweep) := goodIn_app (goodIn_of _ (by decide +kernel)) ggL_does_X8_sweep
set_option maxRecDepth 20000 in
theorem ggL_does_X8_clamp : GoodIn wsL_does wsX8_clamp := goodIn_r _ [81, 12, 11, 13, 14, 9, 15, 82, 83, 84, 27, 85, 36, 34, 35, 16, 17, 18, 19, 20, 21, 22, 23, 24, 25, 26, 28, 29, 30, 31, 32, 33, 37, 38, 39, 40, 41, 42, 43, 44, 45, 46, 47, 48, 49, 50, 51, 52, 53, 54, 55, 56, 57, 58, 59, 60, 61, 62, 240, 241, 242, 243, 244, 245, 246, 247, 248, 249, 250, 251, 252, 253, 254, 255, 256, 257, 258, 259, 260, 261, 262, 263, 264, 265, 266, 267, 268] rfl (by decide +kernel)
set_option maxRecDepth 20000 in
theorem gL_does_X8_clamp : GoodIn wsL_does (wsV RL 24 RX8 yX8_clamp wsX8_clamp) := goodIn_app (goodIn_of _ (by decide +kernel)) ggL_does_X8_clamp
set_option maxRecDepth 20000 in
theorem ggL_does_X8_count : GoodIn wsL_does wsX8_count := goodIn_r _ [89, 12, 90, 11, 91, 70, 71, 72, 27, 73, 29, 92, 93, 9, 94, 95, 96, 97, 98, 99, 100, 101, 102, 103, 104, 105, 106, 107, 108, 109, 110, 111, 112, 113, 114, 115, 116, 117, 118, 119, 120, 121, 122, 123, 14, 15, 124, 125, 126, 127, 128, 129, 130, 131, 132, 133, 134, 135, 136, 137, 138, 139, 140, 141, 142, 240, 241, 242, 243, 244, 245, 246, 247, 248, 249, 250, 251, 252, 253, 254, 255, 256, 257, 258, 259, 260, 264, 265, 266, 267, 268, 269, 270, 271, 272, 273, 261, 262, 263, 274, 275, 276, 277, 278, 279, 280, 281, 282] rfl (by decide +kernel)
set_option maxRecDepth 20000 in
theorem gL_does_X8_count : GoodIn wsL_does (wsV RL 27 RX8 yX8_count wsX8_count) := goodIn_app (goodIn_of _ (by decide +kernel)) ggL_does_X8_count
set_option maxRecDepth 20000 in
theorem ggL_does_X8_unclamp : GoodIn wsL_does wsX8_unclamp := goodIn_r _ [146, 11, 12, 147, 148, 149, 9, 150, 16, 17, 18, 19, 20, 21, 22, 23, 24, 25, 26, 27, 28, 29, 30, 31, 32, 33, 34, 35, 36, 37, 38, 39, 40, 41, 42, 43, 44, 45, 46, 47, 48, 49, 50, 51, 52, 53, 54, 55, 56, 57, 58, 59, 60, 61, 62, 151, 152, 153, 154, 240, 241, 242, 243, 244, 245, 246, 247, 248, 249, 250, 251, 252, 253, 254, 255, 256, 257, 258, 259, 260, 261, 262, 263, 264, 265, 266, 267, 268] rfl (by decide +kernel)
set_option maxRecDepth 20000 in
theorem gL_does_X8_unclamp : GoodIn wsL_does (wsV RL 30 RX8 yX8_unclamp wsX8_unclamp) := goodIn_app (goodIn_of _ (by decide +kernel)) ggL_does_X8_unclamp
set_option maxRecDepth 20000 in
theorem ggL_does_X8_set : GoodIn wsL_does wsX8_set := goodIn_r _ [158, 159, 160, 12, 11, 16, 17, 18, 19, 20, 21, 22, 23, 24, 25, 26, 27, 28, 29, 30, 31, 32, 33, 34, 35, 36, 37, 38, 39, 40, 41, 42, 43, 44, 45, 46, 47, 48, 49, 50, 51, 52, 53, 54, 55, 56, 57, 58, 59, 60, 61, 62, 240, 241, 242, 243, 244, 245, 246, 247, 248, 249, 250, 251, 252, 253, 254, 255, 256, 257, 258, 259, 260, 261, 262, 263, 264, 265, 266, 267, 268] rfl (by decide +kernel)
set_option maxRecDepth 20000 in
theorem gL_does_X8_set : GoodIn wsL_does (wsV RL 33 RX8 yX8_set wsX8_set) := goodIn_app (goodIn_of _ (by decide +kernel)) ggL_does_X8_set
set_option maxRecDepth 20000 in
theorem ggL_does_X8_bow : GoodIn wsL_does wsX8_bow := goodIn_r _ [164, 12, 11, 165, 166, 9, 167, 168, 169, 170, 16, 17, 18, 19, 20, 21, 22, 23, 24, 25, 26, 27, 28, 29, 30, 31, 32, 33, 34, 35, 36, 37, 38, 39, 40, 41, 42, 43, 44, 45, 46, 47, 48, 49, 50, 51, 52, 53, 54, 55, 56, 57, 58, 59, 60, 61, 62, 171, 240, 241, 242, 243, 244, 245, 246, 247, 248, 249, 250, 251, 252, 253, 254, 255, 256, 257, 258, 259, 260, 264, 265, 266, 267, 268, 261, 262, 263] rfl (by decide +kernel)
set_option maxRecDepth 20000 in
theorem gL_does_X8_bow : GoodIn wsL_does (wsV RL 36 RX8 yX8_bow wsX8_bow) := goodIn_app (goodIn_of _ (by decide +kernel)) ggL_does_X8_bow
set_option maxRecDepth 20000 in
theorem ggL_does_X8_strike : GoodIn wsL_does wsX8_strike := goodIn_r _ [175, 12, 11, 176, 177, 178, 48, 179, 50, 55, 16, 17, 18, 19, 20, 21, 22, 23, 24, 25, 26, 27, 28, 29, 30, 31, 32, 33, 34, 35, 36, 37, 38, 39, 40, 41, 42, 43, 44, 45, 46, 47, 49, 51, 52, 53, 54, 56, 57, 58, 59, 60, 61, 62, 180, 181, 182, 183, 240, 241, 242, 243, 244, 245, 246, 247, 248, 249, 250, 251, 252, 253, 254, 255, 256, 257, 258, 259, 260, 264, 265, 266, 267, 268, 261, 262, 263] rfl (by decide +kernel)
set_option maxRecDepth 20000 in
theorem gL_does_X8_strike : GoodIn wsL_does (wsV RL 39 RX8 yX8_strike wsX8_strike) := goodIn_app (goodIn_of _ (by decide +kernel)) ggL_does_X8_strike
set_option maxRecDepth 20000 in
theorem ggL_does_X8_play : GoodIn wsL_does wsX8_play := goodIn_r _ [187, 12, 188, 189, 120, 190, 11, 16, 17, 18, 19, 20, 21, 22, 23, 24, 25, 26, 27, 28, 29, 30, 31, 32, 33, 34, 35, 36, 37, 38, 39, 40, 41, 42, 43, 44, 45, 46, 47, 48, 49, 50, 51, 52, 53, 54, 55, 56, 57, 58, 59, 60, 61, 62, 191, 192, 193, 9, 194, 90, 195, 196, 197, 198, 98, 199, 128, 129, 130, 131, 107, 132, 133, 134, 135, 108, 109, 110, 111, 112, 113, 114, 115, 116, 117, 118, 119, 121, 122, 123, 14, 15, 103, 104, 105, 106, 200, 201, 202, 203, 204, 205, 206, 207, 208, 209, 210, 211, 212, 213, 214, 215, 216, 217, 64, 65, 218, 219, 220, 221, 222, 223, 224, 225, 226, 227, 228, 229, 230, 231, 232, 233, 234, 235, 236, 237, 238, 239, 141, 142, 240, 241, 242, 243, 244, 245, 246, 247, 248, 249, 250, 251, 252, 253, 254, 255, 256, 257, 258, 259, 260, 264, 265, 266, 267, 268, 261, 262, 263, 269, 270, 271, 272, 273, 278, 279, 280, 281, 282, 283, 284, 285, 286, 287] rfl (by decide +kernel)
set_option maxRecDepth 20000 in
theorem gL_does_X8_play : GoodIn wsL_does (wsV RL 42 RX8 yX8_play wsX8_play) := goodIn_app (goodIn_of _ (by decide +kernel)) ggL_does_X8_play

set_option maxRecDepth 20000 in
theorem ggL_law_X8_init : GoodIn wsL_law wsX8_init := goodIn_r _ [8, 9, 10, 11, 12, 13, 14, 15, 16, 17, 18, 19, 20, 21, 22, 23, 24, 25, 26, 27, 28, 29, 30, 31, 32, 33, 34, 35, 36, 37, 38, 39, 40, 41, 42, 43, 44, 45, 46, 47, 48, 49, 50, 51, 52, 53, 54, 55, 56, 57, 58, 59, 60, 61, 62, 63, 64, 65, 66, 67, 68, 69, 70, 71, 72, 73, 74, 75, 76, 77, 78, 79, 80, 81, 82, 83, 84, 85, 86, 87, 88, 89, 90, 91, 92, 93, 94, 95, 96, 97, 98, 99, 100, 101, 102, 103, 104, 105, 106, 107, 108, 109, 110, 111, 112, 113, 114, 115, 116, 117, 118, 119, 120, 121, 122, 123, 124, 125, 126, 127, 128, 129, 130, 131, 132, 133, 134, 135, 136, 137, 138, 139, 140, 141, 142, 143, 144, 145, 717, 718, 719, 720, 721, 692, 693, 694, 695, 696, 697, 698, 699, 700, 722, 723, 724, 725, 726, 727, 728, 729, 730, 731, 732, 733, 734, 735, 736, 737, 738, 739, 740, 741, 742, 743, 744, 745, 746, 747, 748, 749, 750, 751, 752, 753, 754, 755, 756, 757, 758, 759, 760] (by decide +kernel) (by decide +kernel)
set_option maxRecDepth 20000 in
theorem gL_law_X8_init : GoodIn wsL_law (wsX8_init) := ggL_law_X8_init
set_option maxRecDepth 20000 in
theorem ggL_law_X9_init : GoodIn wsL_law wsX9_init := goodIn_r _ [148, 149, 10, 11, 46, 150, 151, 152, 153, 154, 155, 156, 157, 158, 105, 159, 160, 161, 162, 163, 5, 164, 165, 166, 167, 168, 169, 170, 701, 702, 703, 704, 705, 706, 707, 708, 709, 710, 711, 712, 713, 714, 715, 716] (by decide +kernel) (by decide +kernel)
set_option maxRecDepth 20000 in
theorem gL_law_X9_init : GoodIn wsL_law (wsX9_init) := ggL_law_X9_init
set_option maxRecDepth 20000 in
theorem ggL_law_X8_strew : GoodIn wsL_law wsX8_strew := goodIn_r _ [174, 39, 19, 175, 176, 2, 177, 178, 179, 180, 38, 181, 144, 143, 142, 182, 183, 184, 18, 185, 63, 78, 79, 80, 81, 64, 65, 66, 67, 71, 72, 73, 74, 75, 76, 77, 186, 187, 188, 70, 189, 86, 190, 191, 192, 193, 92, 93, 94, 194, 195, 196, 197, 91, 198, 199, 200, 692, 693, 694, 695, 696, 697, 698, 699, 700, 722, 723, 724, 725, 726, 727, 728, 729, 730, 731, 732, 733, 753, 754, 755, 756, 757, 758, 759, 760] (by decide +kernel) (by decide +kernel)
set_option maxRecDepth 20000 in
theorem gL_law_X8_strew : GoodIn wsL_law (wsV RL 13 RX8 yX8_strew wsX8_strew) := goodIn_app (goodIn_of _ (by decide +kernel)) ggL_law_X8_strew
set_option maxRecDepth 20000 in
theorem ggL_law_X9_strew : GoodIn wsL_law wsX9_strew := goodIn_r _ [204, 154, 205, 206, 5, 207, 208, 209, 210, 211, 212, 213, 214, 215, 155, 701, 702, 703, 704, 705, 706, 707, 708, 709, 710, 711, 712, 713, 714, 715, 716] (by decide +kernel) (by decide +kernel)
set_option maxRecDepth 20000 in
theorem gL_law_X9_strew : GoodIn wsL_law (wsV RL 17 RX9 yX9_strew wsX9_strew) := goodIn_app (goodIn_of _ (by decide +kernel)) ggL_law_X9_strew
set_option maxRecDepth 20000 in
theorem ggL_law_X8_sweep : GoodIn wsL_law wsX8_sweep := goodIn_r _ [219, 39, 19, 178, 179, 180, 38, 181, 144, 143, 142, 182, 183, 184, 18, 185, 63, 78, 79, 80, 81, 64, 65, 66, 67, 71, 72, 73, 74, 75, 76, 77, 186, 187, 188, 70, 189, 86, 190, 191, 192, 193, 92, 93, 94, 194, 195, 196, 197, 91, 220, 221, 222, 223, 224, 96, 97, 98, 692, 693, 694, 695, 696, 697, 698, 699, 700, 722, 723, 724, 725, 726, 727, 728, 729, 730, 731, 732, 733, 753, 754, 755, 756, 757, 758, 759, 760] (by decide +kernel) (by decide +kernel)
set_option maxRecDepth 20000 in
theorem gL_law_X8_sweep : GoodIn wsL_law (wsV RL 18 RX8 yX8_sweep wsX8_sweep) := goodIn_app (goodIn_of _ (by decide +kernel)) ggL_law_X8_sweep
set_option maxRecDepth 20000 in
theorem ggL_law_X9_sweep : GoodIn wsL_law wsX9_sweep := goodIn_r _ [228, 154, 208, 209, 5, 210, 211, 212, 213, 214, 215, 155, 229, 230, 231, 232, 701, 702, 703, 704, 705, 706, 707, 708, 709, 710, 711, 712, 713, 714, 715, 716] (by decide +kernel) (by decide +kernel)
set_option maxRecDepth 20000 in
theorem gL_law_X9_sweep : GoodIn wsL_law (wsV RL 22 RX9 yX9_sweep wsX9_sweep) := goodIn_app (goodIn_of _ (by decide +kernel)) ggL_law_X9_sweep
set_option maxRecDepth 20000 in
theorem ggL_law_X8_clamp : GoodIn wsL_law wsX8_clamp := goodIn_r _ [236, 19, 39, 175, 176, 2, 177, 237, 238, 239, 18, 240, 66, 64, 65, 178, 179, 180, 38, 181, 144, 143, 142, 182, 183, 184, 185, 63, 78, 79, 80, 81, 67, 71, 72, 73, 74, 75, 76, 77, 186, 187, 188, 70, 189, 86, 190, 191, 192, 193, 92, 93, 94, 194, 195, 196, 197, 91, 692, 693, 694, 695, 696, 697, 698, 699, 700, 722, 723, 724, 725, 726, 727, 728, 729, 730, 731, 732, 733, 753, 754, 755, 756, 757, 758, 759, 760] (by decide +kernel) (by decide +kernel)
set_option maxRecDepth 20000 in
theorem gL_law_X8_clamp : GoodIn wsL_law (wsV RL 23 RX8 yX8_clamp wsX8_clamp) := goodIn_app (goodIn_of _ (by decide +kernel)) ggL_law_X8_clamp
set_option maxRecDepth 20000 in
theorem ggL_law_X9_clamp : GoodIn wsL_law wsX9_clamp := goodIn_r _ [244, 154, 205, 206, 5, 207, 208, 209, 210, 245, 246, 247, 248, 211, 212, 213, 214, 215, 155, 701, 702, 703, 704, 705, 706, 707, 708, 709, 710, 711, 712, 713, 714, 715, 716] (by decide +kernel) (by decide +kernel)
set_option maxRecDepth 20000 in
theorem gL_law_X9_clamp : GoodIn wsL_law (wsV RL 27 RX9 yX9_clamp wsX9_clamp) := goodIn_app (goodIn_of _ (by decide +kernel)) ggL_law_X9_clamp
set_option maxRecDepth 20000 in
theorem ggL_law_X8_unclamp : GoodIn wsL_law wsX8_unclamp := goodIn_r _ [252, 39, 19, 253, 254, 255, 2, 256, 178, 179, 180, 38, 181, 144, 143, 142, 182, 183, 184, 18, 185, 63, 78, 79, 80, 81, 64, 65, 66, 67, 71, 72, 73, 74, 75, 76, 77, 186, 187, 188, 70, 189, 86, 190, 191, 192, 193, 92, 93, 94, 194, 195, 196, 197, 91, 257, 258, 259, 260, 692, 693, 694, 695, 696, 697, 698, 699, 700, 722, 723, 724, 725, 726, 727, 728, 729, 730, 731, 732, 733, 753, 754, 755, 756, 757, 758, 759, 760] (by decide +kernel) (by decide +kernel)
set_option maxRecDepth 20000 in
theorem gL_law_X8_unclamp : GoodIn wsL_law (wsV RL 28 RX8 yX8_unclamp wsX8_unclamp) := goodIn_app (goodIn_of _ (by decide +kernel)) ggL_law_X8_unclamp
set_option maxRecDepth 20000 in
theorem ggL_law_X9_unclamp : GoodIn wsL_law wsX9_unclamp := goodIn_r _ [264, 154, 208, 209, 5, 210, 211, 212, 213, 214, 215, 155, 701, 702, 703, 704, 705, 706, 707, 708, 709, 710, 711, 712, 713, 714, 715, 716] (by decide +kernel) (by decide +kernel)
set_option maxRecDepth 20000 in
theorem gL_law_X9_unclamp : GoodIn wsL_law (wsV RL 31 RX9 yX9_unclamp wsX9_unclamp) := goodIn_app (goodIn_of _ (by decide +kernel)) ggL_law_X9_unclamp
set_option maxRecDepth 20000 in
theorem ggL_law_X8_set : GoodIn wsL_law wsX8_set := goodIn_r _ [268, 269, 270, 19, 39, 178, 179, 180, 38, 181, 144, 143, 142, 182, 183, 184, 18, 185, 63, 78, 79, 80, 81, 64, 65, 66, 67, 71, 72, 73, 74, 75, 76, 77, 186, 187, 188, 70, 189, 86, 190, 191, 192, 193, 92, 93, 94, 194, 195, 196, 197, 91, 692, 693, 694, 695, 696, 697, 698, 699, 700, 722, 723, 724, 725, 726, 727, 728, 729, 730, 731, 732, 733, 753, 754, 755, 756, 757, 758, 759, 760] (by decide +kernel) (by decide +kernel)
set_option maxRecDepth 20000 in
theorem gL_law_X8_set : GoodIn wsL_law (wsV RL 32 RX8 yX8_set wsX8_set) := goodIn_app (goodIn_of _ (by decide +kernel)) ggL_law_X8_set
set_option maxRecDepth 20000 in
theorem ggL_law_X9_set : GoodIn wsL_law wsX9_set := goodIn_r _ [274, 154, 208, 209, 5, 210, 211, 212, 213, 214, 215, 155, 701, 702, 703, 704, 705, 706, 707, 708, 709, 710, 711, 712, 713, 714, 715, 716] (by decide +kernel) (by decide +kernel)
set_option maxRecDepth 20000 in
theorem gL_law_X9_set : GoodIn wsL_law (wsV RL 35 RX9 yX9_set wsX9_set) := goodIn_app (goodIn_of _ (by decide +kernel)) ggL_law_X9_set
set_option maxRecDepth 20000 in
theorem ggL_law_X8_bow : GoodIn wsL_law wsX8_bow := goodIn_r _ [278, 19, 39, 279, 280, 2, 281, 282, 283, 284, 178, 179, 180, 38, 181, 144, 143, 142, 182, 183, 184, 18, 185, 63, 78, 79, 80, 81, 64, 65, 66, 67, 71, 72, 73, 74, 75, 76, 77, 186, 187, 188, 70, 189, 86, 190, 191, 192, 193, 92, 93, 94, 194, 195, 196, 197, 91, 285, 692, 693, 694, 695, 696, 697, 698, 699, 700, 722, 723, 724, 725, 726, 727, 728, 729, 730, 731, 732, 733, 756, 757, 758, 759, 760, 753, 754, 755] (by decide +kernel) (by decide +kernel)
set_option maxRecDepth 20000 in
theorem gL_law_X8_bow : GoodIn wsL_law (wsV RL 36 RX8 yX8_bow wsX8_bow) := goodIn_app (goodIn_of _ (by decide +kernel)) ggL_law_X8_bow
set_option maxRecDepth 20000 in
theorem ggL_law_X9_bow : GoodIn wsL_law wsX9_bow := goodIn_r _ [289, 154, 290, 291, 5, 292, 208, 209, 210, 211, 212, 213, 214, 215, 155, 293, 294, 295, 296, 701, 702, 703, 704, 705, 706, 707, 708, 709, 710, 711, 712, 713, 714, 715, 716] (by decide +kernel) (by decide +kernel)
set_option maxRecDepth 20000 in
theorem gL_law_X9_bow : GoodIn wsL_law (wsV RL 39 RX9 yX9_bow wsX9_bow) := goodIn_app (goodIn_of _ (by decide +kernel)) ggL_law_X9_bow
set_option maxRecDepth 20000 in
theorem ggL_law_X8_bowAll : GoodIn wsL_law wsX8_bowAll := goodIn_r _ [300, 35, 19, 39, 301, 302, 303, 34, 304, 135, 134, 305, 306, 307, 308, 309, 310, 311, 312, 132, 131, 313, 314, 315, 316, 317, 318, 319, 320, 321, 322, 323, 195, 196, 70, 197, 86, 91, 92, 93, 94, 324, 325, 326, 327, 178, 179, 180, 38, 181, 144, 143, 142, 182, 183, 184, 18, 185, 63, 78, 79, 80, 81, 64, 65, 66, 67, 71, 72, 73, 74, 75, 76, 77, 186, 187, 188, 189, 190, 191, 192, 193, 194, 328, 692, 693, 694, 695, 696, 697, 698, 699, 700, 722, 723, 724, 725, 726, 727, 728, 729, 730, 731, 732, 733, 756, 757, 758, 759, 760, 749, 750, 751, 752, 753, 754, 755] (by decide +kernel) (by decide +kernel)
set_option maxRecDepth 20000 in
theorem gL_law_X8_bowAll : GoodIn wsL_law (wsV RL 40 RX8 yX8_bowAll wsX8_bowAll) := goodIn_app (goodIn_of _ (by decide +kernel)) ggL_law_X8_bowAll
set_option maxRecDepth 20000 in
theorem ggL_law_X9_bowAll : GoodIn wsL_law wsX9_bowAll := goodIn_r _ [332, 333, 334, 154, 335, 336, 337, 5, 338, 339, 157, 340, 341, 342, 343, 344, 345, 346, 347, 208, 209, 210, 293, 294, 295, 296, 211, 212, 213, 214, 215, 155, 701, 702, 703, 704, 705, 706, 707, 708, 709, 710, 711, 712, 713, 714, 715, 716] (by decide +kernel) (by decide +kernel)
set_option maxRecDepth 20000 in
theorem gL_law_X9_bowAll : GoodIn wsL_law (wsV RL 44 RX9 yX9_bowAll wsX9_bowAll) := goodIn_app (goodIn_of _ (by decide +kernel)) ggL_law_X9_bowAll
set_option maxRecDepth 20000 in
theorem ggL_law_X8_strike : GoodIn wsL_law wsX8_strike := goodIn_r _ [351, 19, 39, 352, 353, 354, 70, 355, 86, 92, 178, 179, 180, 38, 181, 144, 143, 142, 182, 183, 184, 18, 185, 63, 78, 79, 80, 81, 64, 65, 66, 67, 71, 72, 73, 74, 75, 76, 77, 186, 187, 188, 189, 190, 191, 192, 193, 93, 94, 194, 195, 196, 197, 91, 356, 357, 358, 359, 692, 693, 694, 695, 696, 697, 698, 699, 700, 722, 723, 724, 725, 726, 727, 728, 729, 730, 731, 732, 733, 756, 757, 758, 759, 760, 753, 754, 755] (by decide +kernel) (by decide +kernel)
set_option maxRecDepth 20000 in
theorem gL_law_X8_strike : GoodIn wsL_law (wsV RL 45 RX8 yX8_strike wsX8_strike) := goodIn_app (goodIn_of _ (by decide +kernel)) ggL_law_X8_strike
set_option maxRecDepth 20000 in
theorem ggL_law_X9_strike : GoodIn wsL_law wsX9_strike := goodIn_r _ [363, 154, 208, 209, 5, 210, 211, 212, 213, 214, 215, 155, 364, 365, 366, 367, 701, 702, 703, 704, 705, 706, 707, 708, 709, 710, 711, 712, 713, 714, 715, 716] (by decide +kernel) (by decide +kernel)
set_option maxRecDepth 20000 in
theorem gL_law_X9_strike : GoodIn wsL_law (wsV RL 48 RX9 yX9_strike wsX9_strike) := goodIn_app (goodIn_of _ (by decide +kernel)) ggL_law_X9_strike
set_option maxRecDepth 20000 in
theorem ggL_law_X8_play : GoodIn wsL_law wsX8_play := goodIn_r _ [371, 19, 372, 373, 89, 374, 39, 178, 179, 180, 38, 181, 144, 143, 142, 182, 183, 184, 18, 185, 63, 78, 79, 80, 81, 64, 65, 66, 67, 71, 72, 73, 74, 75, 76, 77, 186, 187, 188, 70, 189, 86, 190, 191, 192, 193, 92, 93, 94, 194, 195, 196, 197, 91, 375, 376, 377, 2, 378, 23, 31, 379, 380, 381, 22, 382, 383, 384, 385, 386, 108, 387, 388, 389, 390, 107, 391, 392, 393, 14, 394, 47, 48, 50, 49, 395, 396, 397, 398, 399, 176, 177, 400, 401, 402, 403, 404, 405, 406, 407, 30, 408, 122, 125, 123, 409, 410, 411, 412, 413, 414, 415, 416, 417, 199, 200, 418, 419, 420, 421, 422, 423, 424, 425, 124, 126, 426, 427, 428, 429, 430, 431, 432, 433, 434, 435, 436, 87, 88, 90, 692, 693, 694, 695, 696, 697, 698, 699, 700, 722, 723, 724, 725, 726, 727, 728, 729, 730, 731, 732, 733, 756, 757, 758, 759, 760, 753, 754, 755, 734, 735, 736, 737, 738, 717, 718, 719, 720, 721, 744, 745, 746, 747, 748] (by decide +kernel) (by decide +kernel)
set_option maxRecDepth 20000 in
theorem gL_law_X8_play : GoodIn wsL_law (wsV RL 49 RX8 yX8_play wsX8_play) := goodIn_app (goodIn_of _ (by decide +kernel)) ggL_law_X8_play
set_option maxRecDepth 20000 in
theorem ggL_law_X9_play : GoodIn wsL_law wsX9_play := goodIn_r _ [440, 154, 208, 209, 5, 210, 211, 212, 213, 214, 215, 155, 441, 442, 443, 444, 445, 446, 447, 448, 449, 450, 451, 452, 453, 454, 455, 456, 457, 458, 459, 153, 364, 365, 366, 367, 460, 461, 462, 463, 158, 464, 465, 466, 467, 468, 469, 470, 205, 206, 207, 701, 702, 703, 704, 705, 706, 707, 708, 709, 710, 711, 712, 713, 714, 715, 716] (by decide +kernel) (by decide +kernel)
set_option maxRecDepth 20000 in
theorem gL_law_X9_play : GoodIn wsL_law (wsV RL 52 RX9 yX9_play wsX9_play) := goodIn_app (goodIn_of _ (by decide +kernel)) ggL_law_X9_play
set_option maxRecDepth 20000 in
theorem ggL_law_X8_type : GoodIn wsL_law wsX8_type := goodIn_r _ [474, 35, 475, 476, 477, 34, 478, 132, 131, 692, 693, 694, 695, 696, 697, 698, 699, 700, 749, 750, 751, 752] (by decide +kernel) (by decide +kernel)
set_option maxRecDepth 20000 in
theorem gL_law_X8_type : GoodIn wsL_law (wsV RL 53 RX8 yX8_type wsX8_type) := goodIn_app (goodIn_of _ (by decide +kernel)) ggL_law_X8_type
set_option maxRecDepth 20000 in
theorem ggL_law_X9_type : GoodIn wsL_law wsX9_type := goodIn_r _ [482, 339, 157, 701, 702, 703, 704, 705, 706, 707, 708, 709, 710, 711, 712, 713, 714, 715, 716] (by decide +kernel) (by decide +kernel)
set_option maxRecDepth 20000 in
theorem gL_law_X9_type : GoodIn wsL_law (wsV RL 57 RX9 yX9_type wsX9_type) := goodIn_app (goodIn_of _ (by decide +kernel)) ggL_law_X9_type
set_option maxRecDepth 20000 in
theorem ggL_law_X8_clearText : GoodIn wsL_law wsX8_clearText := goodIn_r _ [486, 35, 692, 693, 694, 695, 696, 697, 698, 699, 700, 749, 750, 751, 752] (by decide +kernel) (by decide +kernel)
set_option maxRecDepth 20000 in
theorem gL_law_X8_clearText : GoodIn wsL_law (wsV RL 58 RX8 yX8_clearText wsX8_clearText) := goodIn_app (goodIn_of _ (by decide +kernel)) ggL_law_X8_clearText
set_option maxRecDepth 20000 in
theorem ggL_law_X9_clearText : GoodIn wsL_law wsX9_clearText := goodIn_r _ [490, 339, 701, 702, 703, 704, 705, 706, 707, 708, 709, 710, 711, 712, 713, 714, 715, 716] (by decide +kernel) (by decide +kernel)
set_option maxRecDepth 20000 in
theorem gL_law_X9_clearText : GoodIn wsL_law (wsV RL 61 RX9 yX9_clearText wsX9_clearText) := goodIn_app (goodIn_of _ (by decide +kernel)) ggL_law_X9_clearText
set_option maxRecDepth 20000 in
theorem ggL_law_X8_undo : GoodIn wsL_law wsX8_undo := goodIn_r _ [494, 39, 19, 495, 496, 497, 38, 498, 144, 142, 143, 182, 183, 184, 18, 185, 63, 78, 79, 80, 81, 64, 65, 66, 67, 71, 72, 73, 74, 75, 76, 77, 186, 187, 188, 70, 189, 86, 190, 191, 192, 193, 92, 93, 94, 194, 195, 196, 197, 91, 692, 693, 694, 695, 696, 697, 698, 699, 700, 753, 754, 755, 722, 723, 724, 725, 726, 727, 728, 729, 730, 731, 732, 733, 756, 757, 758, 759, 760] (by decide +kernel) (by decide +kernel)
set_option maxRecDepth 20000 in
theorem gL_law_X8_undo : GoodIn wsL_law (wsV RL 62 RX8 yX8_undo wsX8_undo) := goodIn_app (goodIn_of _ (by decide +kernel)) ggL_law_X8_undo
set_option maxRecDepth 20000 in
theorem ggL_law_X9_undo : GoodIn wsL_law wsX9_undo := goodIn_r _ [502, 215, 154, 155, 701, 702, 703, 704, 705, 706, 707, 708, 709, 710, 711, 712, 713, 714, 715, 716] (by decide +kernel) (by decide +kernel)
set_option maxRecDepth 20000 in
theorem gL_law_X9_undo : GoodIn wsL_law (wsV RL 65 RX9 yX9_undo wsX9_undo) := goodIn_app (goodIn_of _ (by decide +kernel)) ggL_law_X9_undo
set_option maxRecDepth 20000 in
theorem ggL_law_X8_keep : GoodIn wsL_law wsX8_keep := goodIn_r _ [506, 40, 19, 41, 507, 183, 184, 18, 185, 63, 78, 79, 80, 81, 64, 65, 66, 67, 71, 72, 73, 74, 75, 76, 77, 186, 187, 188, 70, 189, 86, 190, 191, 192, 193, 92, 93, 94, 194, 195, 196, 197, 91, 220, 221, 222, 223, 692, 693, 694, 695, 696, 697, 698, 699, 700, 722, 723, 724, 725, 726, 727, 728, 729, 730, 731, 732, 733, 756, 757, 758, 759, 760] (by decide +kernel) (by decide +kernel)
set_option maxRecDepth 20000 in
theorem gL_law_X8_keep : GoodIn wsL_law (wsV RL 66 RX8 yX8_keep wsX8_keep) := goodIn_app (goodIn_of _ (by decide +kernel)) ggL_law_X8_keep
set_option maxRecDepth 20000 in
theorem ggL_law_X9_keep : GoodIn wsL_law wsX9_keep := goodIn_r _ [511, 156, 154, 512, 229, 230, 231, 5, 232, 701, 702, 703, 704, 705, 706, 707, 708, 709, 710, 711, 712, 713, 714, 715, 716] (by decide +kernel) (by decide +kernel)
set_option maxRecDepth 20000 in
theorem gL_law_X9_keep : GoodIn wsL_law (wsV RL 69 RX9 yX9_keep wsX9_keep) := goodIn_app (goodIn_of _ (by decide +kernel)) ggL_law_X9_keep
set_option maxRecDepth 20000 in
theorem ggL_law_X8_restore : GoodIn wsL_law wsX8_restore := goodIn_r _ [516, 41, 39, 19, 40, 178, 179, 180, 38, 181, 144, 143, 142, 182, 183, 184, 18, 185, 63, 78, 79, 80, 81, 64, 65, 66, 67, 71, 72, 73, 74, 75, 76, 77, 186, 187, 188, 70, 189, 86, 190, 191, 192, 193, 92, 93, 94, 194, 195, 196, 197, 91, 507, 220, 221, 222, 223, 692, 693, 694, 695, 696, 697, 698, 699, 700, 753, 754, 755, 722, 723, 724, 725, 726, 727, 728, 729, 730, 731, 732, 733, 756, 757, 758, 759, 760] (by decide +kernel) (by decide +kernel)
set_option maxRecDepth 20000 in
theorem gL_law_X8_restore : GoodIn wsL_law (wsV RL 70 RX8 yX8_restore wsX8_restore) := goodIn_app (goodIn_of _ (by decide +kernel)) ggL_law_X8_restore
set_option maxRecDepth 20000 in
theorem ggL_law_X9_restore : GoodIn wsL_law wsX9_restore := goodIn_r _ [520, 512, 154, 156, 211, 212, 213, 5, 214, 215, 155, 229, 230, 231, 232, 701, 702, 703, 704, 705, 706, 707, 708, 709, 710, 711, 712, 713, 714, 715, 716] (by decide +kernel) (by decide +kernel)
set_option maxRecDepth 20000 in
theorem gL_law_X9_restore : GoodIn wsL_law (wsV RL 73 RX9 yX9_restore wsX9_restore) := goodIn_app (goodIn_of _ (by decide +kernel)) ggL_law_X9_restore
set_option maxRecDepth 20000 in
theorem ggL_law_X8_place : GoodIn wsL_law wsX8_place := goodIn_r _ [524, 19, 15, 27, 175, 176, 2, 177, 198, 199, 200, 404, 398, 399, 525, 392, 393, 14, 394, 47, 48, 50, 49, 395, 396, 89, 397, 526, 527, 528, 26, 529, 116, 117, 530, 531, 532, 533, 237, 238, 239, 18, 240, 66, 64, 65, 534, 535, 536, 692, 693, 694, 695, 696, 697, 698, 699, 700, 722, 723, 724, 725, 726, 727, 728, 729, 730, 731, 732, 733, 717, 718, 719, 720, 721, 739, 740, 741, 742, 743] (by decide +kernel) (by decide +kernel)
set_option maxRecDepth 20000 in
theorem gL_law_X8_place : GoodIn wsL_law (wsV RL 74 RX8 yX8_place wsX8_place) := goodIn_app (goodIn_of _ (by decide +kernel)) ggL_law_X8_place
set_option maxRecDepth 20000 in
theorem ggL_law_X9_place : GoodIn wsL_law wsX9_place := goodIn_r _ [540, 154, 205, 206, 5, 207, 208, 209, 210, 456, 457, 458, 459, 153, 541, 542, 543, 544, 245, 246, 247, 248, 701, 702, 703, 704, 705, 706, 707, 708, 709, 710, 711, 712, 713, 714, 715, 716] (by decide +kernel) (by decide +kernel)
set_option maxRecDepth 20000 in
theorem gL_law_X9_place : GoodIn wsL_law (wsV RL 77 RX9 yX9_place wsX9_place) := goodIn_app (goodIn_of _ (by decide +kernel)) ggL_law_X9_place
set_option maxRecDepth 20000 in
theorem ggL_law_X8_way : GoodIn wsL_law wsX8_way := goodIn_r _ [548, 15, 27, 23, 404, 398, 2, 399, 549, 550, 551, 14, 552, 47, 48, 49, 553, 554, 555, 26, 556, 409, 410, 411, 412, 557, 527, 528, 529, 116, 117, 530, 392, 393, 394, 50, 395, 396, 89, 397, 176, 177, 558, 559, 560, 561, 113, 562, 563, 564, 565, 115, 114, 566, 567, 568, 569, 199, 200, 570, 571, 572, 573, 574, 401, 402, 22, 403, 108, 107, 391, 531, 532, 533, 692, 693, 694, 695, 696, 697, 698, 699, 700, 717, 718, 719, 720, 721, 739, 740, 741, 742, 743, 722, 723, 724, 725, 726, 727, 728, 729, 730, 731, 732, 733, 734, 735, 736, 737, 738] (by decide +kernel) (by decide +kernel)
set_option maxRecDepth 20000 in
theorem gL_law_X8_way : GoodIn wsL_law (wsV RL 78 RX8 yX8_way wsX8_way) := goodIn_app (goodIn_of _ (by decide +kernel)) ggL_law_X8_way
set_option maxRecDepth 20000 in
theorem ggL_law_X9_way : GoodIn wsL_law wsX9_way := goodIn_r _ [578, 150, 151, 152, 579, 580, 5, 581, 208, 209, 210, 582, 583, 584, 585, 586, 587, 588, 589, 154, 541, 542, 543, 544, 456, 457, 458, 459, 153, 590, 591, 592, 593, 159, 594, 595, 596, 597, 160, 205, 206, 207, 452, 453, 454, 455, 701, 702, 703, 704, 705, 706, 707, 708, 709, 710, 711, 712, 713, 714, 715, 716] (by decide +kernel) (by decide +kernel)
set_option maxRecDepth 20000 in
theorem gL_law_X9_way : GoodIn wsL_law (wsV RL 81 RX9 yX9_way wsX9_way) := goodIn_app (goodIn_of _ (by decide +kernel)) ggL_law_X9_way
set_option maxRecDepth 20000 in
theorem ggL_law_X8_swing : GoodIn wsL_law wsX8_swing := goodIn_r _ [601, 15, 404, 398, 2, 399, 175, 176, 177, 525, 392, 393, 14, 394, 47, 48, 50, 49, 395, 396, 89, 397, 692, 693, 694, 695, 696, 697, 698, 699, 700, 717, 718, 719, 720, 721] (by decide +kernel) (by decide +kernel)
set_option maxRecDepth 20000 in
theorem gL_law_X8_swing : GoodIn wsL_law (wsV RL 82 RX8 yX8_swing wsX8_swing) := goodIn_app (goodIn_of _ (by decide +kernel)) ggL_law_X8_swing
set_option maxRecDepth 20000 in
theorem ggL_law_X9_swing : GoodIn wsL_law wsX9_swing := goodIn_r _ [605, 579, 580, 5, 581, 208, 209, 210, 205, 206, 207, 456, 457, 458, 459, 153, 701, 702, 703, 704, 705, 706, 707, 708, 709, 710, 711, 712, 713, 714, 715, 716] (by decide +kernel) (by decide +kernel)
set_option maxRecDepth 20000 in
theorem gL_law_X9_swing : GoodIn wsL_law (wsV RL 85 RX9 yX9_swing wsX9_swing) := goodIn_app (goodIn_of _ (by decide +kernel)) ggL_law_X9_swing
set_option maxRecDepth 20000 in
theorem ggL_law_X8_sounds : GoodIn wsL_law wsX8_sounds := goodIn_r _ [609, 23, 279, 280, 2, 281, 282, 283, 284, 379, 380, 381, 22, 382, 383, 384, 385, 386, 108, 387, 388, 389, 390, 107, 391, 392, 393, 14, 394, 47, 48, 50, 49, 395, 396, 89, 397, 398, 399, 176, 177, 400, 401, 402, 403, 534, 535, 536, 692, 693, 694, 695, 696, 697, 698, 699, 700, 734, 735, 736, 737, 738, 722, 723, 724, 725, 726, 727, 728, 729, 730, 731, 732, 733, 717, 718, 719, 720, 721] (by decide +kernel) (by decide +kernel)
set_option maxRecDepth 20000 in
theorem gL_law_X8_sounds : GoodIn wsL_law (wsV RL 86 RX8 yX8_sounds wsX8_sounds) := goodIn_app (goodIn_of _ (by decide +kernel)) ggL_law_X8_sounds
set_option maxRecDepth 20000 in
theorem ggL_law_X9_sounds : GoodIn wsL_law wsX9_sounds := goodIn_r _ [613, 290, 291, 5, 292, 208, 209, 210, 441, 442, 443, 444, 445, 446, 447, 448, 449, 450, 451, 154, 452, 453, 454, 455, 456, 457, 458, 459, 153, 701, 702, 703, 704, 705, 706, 707, 708, 709, 710, 711, 712, 713, 714, 715, 716] (by decide +kernel) (by decide +kernel)
set_option maxRecDepth 20000 in
theorem gL_law_X9_sounds : GoodIn wsL_law (wsV RL 89 RX9 yX9_sounds wsX9_sounds) := goodIn_app (goodIn_of _ (by decide +kernel)) ggL_law_X9_sounds
set_option maxRecDepth 20000 in
theorem ggL_law_X8_why : GoodIn wsL_law wsX8_why := goodIn_r _ [617, 23, 404, 398, 2, 399, 279, 280, 281, 282, 283, 284, 618, 619, 620, 22, 621, 400, 401, 402, 403, 108, 107, 391, 392, 393, 14, 394, 47, 48, 50, 49, 395, 396, 89, 397, 176, 177, 383, 384, 385, 386, 387, 388, 389, 390, 622, 380, 381, 382, 692, 693, 694, 695, 696, 697, 698, 699, 700, 734, 735, 736, 737, 738, 722, 723, 724, 725, 726, 727, 728, 729, 730, 731, 732, 733, 717, 718, 719, 720, 721] (by decide +kernel) (by decide +kernel)
set_option maxRecDepth 20000 in
theorem gL_law_X8_why : GoodIn wsL_law (wsV RL 90 RX8 yX8_why wsX8_why) := goodIn_app (goodIn_of _ (by decide +kernel)) ggL_law_X8_why
set_option maxRecDepth 20000 in
theorem ggL_law_X9_why : GoodIn wsL_law wsX9_why := goodIn_r _ [626, 154, 579, 580, 5, 581, 208, 209, 210, 290, 291, 292, 441, 442, 443, 452, 453, 454, 455, 456, 457, 458, 459, 153, 444, 445, 446, 447, 448, 449, 450, 451, 701, 702, 703, 704, 705, 706, 707, 708, 709, 710, 711, 712, 713, 714, 715, 716] (by decide +kernel) (by decide +kernel)
set_option maxRecDepth 20000 in
theorem gL_law_X9_why : GoodIn wsL_law (wsV RL 93 RX9 yX9_why wsX9_why) := goodIn_app (goodIn_of _ (by decide +kernel)) ggL_law_X9_why
set_option maxRecDepth 20000 in
theorem ggL_law_X8_possible : GoodIn wsL_law wsX8_possible := goodIn_r _ [630, 23, 631, 632, 633, 22, 634, 106, 104, 103, 400, 401, 402, 403, 108, 107, 391, 392, 393, 14, 394, 47, 48, 50, 49, 395, 396, 89, 397, 398, 2, 399, 176, 177, 635, 636, 637, 638, 383, 384, 385, 386, 387, 388, 389, 390, 692, 693, 694, 695, 696, 697, 698, 699, 700, 734, 735, 736, 737, 738, 722, 723, 724, 725, 726, 727, 728, 729, 730, 731, 732, 733, 717, 718, 719, 720, 721] (by decide +kernel) (by decide +kernel)
set_option maxRecDepth 20000 in
theorem gL_law_X8_possible : GoodIn wsL_law (wsV RL 94 RX8 yX8_possible wsX8_possible) := goodIn_app (goodIn_of _ (by decide +kernel)) ggL_law_X8_possible
set_option maxRecDepth 20000 in
theorem ggL_law_X9_possible : GoodIn wsL_law wsX9_possible := goodIn_r _ [642, 643, 644, 645, 5, 646, 441, 442, 443, 444, 445, 446, 447, 448, 449, 450, 451, 154, 452, 453, 454, 455, 456, 457, 458, 459, 153, 701, 702, 703, 704, 705, 706, 707, 708, 709, 710, 711, 712, 713, 714, 715, 716] (by decide +kernel) (by decide +kernel)
set_option maxRecDepth 20000 in
theorem gL_law_X9_possible : GoodIn wsL_law (wsV RL 97 RX9 yX9_possible wsX9_possible) := goodIn_app (goodIn_of _ (by decide +kernel)) ggL_law_X9_possible
set_option maxRecDepth 20000 in
theorem ggL_law_X8_waiting : GoodIn wsL_law wsX8_waiting := goodIn_r _ [650, 19, 23, 379, 380, 381, 22, 382, 383, 384, 385, 386, 108, 387, 388, 389, 390, 107, 391, 392, 393, 14, 394, 47, 48, 50, 49, 395, 396, 89, 397, 398, 2, 399, 176, 177, 400, 401, 402, 403, 534, 535, 536, 692, 693, 694, 695, 696, 697, 698, 699, 700, 722, 723, 724, 725, 726, 727, 728, 729, 730, 731, 732, 733, 756, 757, 758, 759, 760, 734, 735, 736, 737, 738, 717, 718, 719, 720, 721] (by decide +kernel) (by decide +kernel)
set_option maxRecDepth 20000 in
theorem gL_law_X8_waiting : GoodIn wsL_law (wsV RL 98 RX8 yX8_waiting wsX8_waiting) := goodIn_app (goodIn_of _ (by decide +kernel)) ggL_law_X8_waiting
set_option maxRecDepth 20000 in
theorem ggL_law_X9_waiting : GoodIn wsL_law wsX9_waiting := goodIn_r _ [654, 154, 208, 209, 5, 210, 441, 442, 443, 444, 445, 446, 447, 448, 449, 450, 451, 452, 453, 454, 455, 456, 457, 458, 459, 153, 701, 702, 703, 704, 705, 706, 707, 708, 709, 710, 711, 712, 713, 714, 715, 716] (by decide +kernel) (by decide +kernel)
set_option maxRecDepth 20000 in
theorem gL_law_X9_waiting : GoodIn wsL_law (wsV RL 101 RX9 yX9_waiting wsX9_waiting) := goodIn_app (goodIn_of _ (by decide +kernel)) ggL_law_X9_waiting
set_option maxRecDepth 20000 in
theorem ggL_law_X8_sand : GoodIn wsL_law wsX8_sand := goodIn_r _ [658, 19, 282, 283, 2, 284, 198, 199, 200, 692, 693, 694, 695, 696, 697, 698, 699, 700, 722, 723, 724, 725, 726, 727, 728, 729, 730, 731, 732, 733] (by decide +kernel) (by decide +kernel)
set_option maxRecDepth 20000 in
theorem gL_law_X8_sand : GoodIn wsL_law (wsV RL 102 RX8 yX8_sand wsX8_sand) := goodIn_app (goodIn_of _ (by decide +kernel)) ggL_law_X8_sand
set_option maxRecDepth 20000 in
theorem ggL_law_X9_sand : GoodIn wsL_law wsX9_sand := goodIn_r _ [662, 154, 208, 209, 5, 210, 701, 702, 703, 704, 705, 706, 707, 708, 709, 710, 711, 712, 713, 714, 715, 716] (by decide +kernel) (by decide +kernel)
set_option maxRecDepth 20000 in
theorem gL_law_X9_sand : GoodIn wsL_law (wsV RL 106 RX9 yX9_sand wsX9_sand) := goodIn_app (goodIn_of _ (by decide +kernel)) ggL_law_X9_sand
set_option maxRecDepth 20000 in
theorem ggL_law_X8_count : GoodIn wsL_law wsX8_count := goodIn_r _ [666, 19, 23, 39, 35, 220, 221, 222, 18, 223, 63, 534, 535, 2, 536, 631, 632, 633, 22, 634, 106, 104, 103, 400, 401, 402, 403, 108, 107, 391, 392, 393, 14, 394, 47, 48, 50, 49, 395, 396, 89, 397, 398, 399, 176, 177, 635, 636, 637, 638, 383, 384, 385, 386, 387, 388, 389, 390, 667, 668, 669, 670, 671, 88, 90, 692, 693, 694, 695, 696, 697, 698, 699, 700, 722, 723, 724, 725, 726, 727, 728, 729, 730, 731, 732, 733, 756, 757, 758, 759, 760, 734, 735, 736, 737, 738, 753, 754, 755, 749, 750, 751, 752, 717, 718, 719, 720, 721] (by decide +kernel) (by decide +kernel)
set_option maxRecDepth 20000 in
theorem gL_law_X8_count : GoodIn wsL_law (wsV RL 107 RX8 yX8_count wsX8_count) := goodIn_app (goodIn_of _ (by decide +kernel)) ggL_law_X8_count
set_option maxRecDepth 20000 in
theorem ggL_law_X9_count : GoodIn wsL_law wsX9_count := goodIn_r _ [675, 154, 215, 339, 229, 230, 231, 5, 232, 676, 677, 678, 679, 643, 644, 645, 646, 441, 442, 443, 444, 445, 446, 447, 448, 449, 450, 451, 452, 453, 454, 455, 456, 457, 458, 459, 153, 680, 681, 682, 683, 701, 702, 703, 704, 705, 706, 707, 708, 709, 710, 711, 712, 713, 714, 715, 716] (by decide +kernel) (by decide +kernel)
set_option maxRecDepth 20000 in
theorem gL_law_X9_count : GoodIn wsL_law (wsV RL 110 RX9 yX9_count wsX9_count) := goodIn_app (goodIn_of _ (by decide +kernel)) ggL_law_X9_count
set_option maxRecDepth 20000 in
theorem ggL_law_X8_clampAt : GoodIn wsL_law wsX8_clampAt := goodIn_r _ [687, 19, 253, 254, 255, 2, 256, 692, 693, 694, 695, 696, 697, 698, 699, 700, 722, 723, 724, 725, 726, 727, 728, 729, 730, 731, 732, 733] (by decide +kernel) (by decide +kernel)
set_option maxRecDepth 20000 in
theorem gL_law_X8_clampAt : GoodIn wsL_law (wsV RL 111 RX8 yX8_clampAt wsX8_clampAt) := goodIn_app (goodIn_of _ (by decide +kernel)) ggL_law_X8_clampAt
set_option maxRecDepth 20000 in
theorem ggL_law_X9_clampAt : GoodIn wsL_law wsX9_clampAt := goodIn_r _ [691, 154, 208, 209, 5, 210, 701, 702, 703, 704, 705, 706, 707, 708, 709, 710, 711, 712, 713, 714, 715, 716] (by decide +kernel) (by decide +kernel)
set_option maxRecDepth 20000 in
theorem gL_law_X9_clampAt : GoodIn wsL_law (wsV RL 115 RX9 yX9_clampAt wsX9_clampAt) := goodIn_app (goodIn_of _ (by decide +kernel)) ggL_law_X9_clampAt

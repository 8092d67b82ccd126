/-! the words of the law's calls -/
set_option maxRecDepth 20000 in
theorem ggL_law_X4_init : GoodIn wsL_law wsX4_init := goodIn_r _ [10, 11, 12, 13, 14, 15, 16, 17, 18, 19, 20, 21, 22, 23, 24, 25, 26, 27, 28, 29, 30, 31, 32, 33, 34, 35, 36, 37, 38, 39, 40, 41, 42, 43, 44, 45, 46, 47, 48, 49, 50, 51, 52, 53, 54, 55, 56, 57, 58, 59, 60, 61, 62, 63, 64, 716, 717, 718, 719, 720, 721, 722, 723, 701, 702, 703, 704, 705, 706, 707, 724, 725, 726, 727, 728, 729, 730] (by decide +kernel) (by decide +kernel)
set_option maxRecDepth 20000 in
theorem gL_law_X4_init : GoodIn wsL_law (wsX4_init) := ggL_law_X4_init
set_option maxRecDepth 20000 in
theorem ggL_law_X5_init : GoodIn wsL_law wsX5_init := goodIn_r _ [67, 68, 12, 13, 51, 69, 70, 71, 72, 73, 708, 709, 710, 711, 712, 713, 714, 715] (by decide +kernel) (by decide +kernel)
set_option maxRecDepth 20000 in
theorem gL_law_X5_init : GoodIn wsL_law (wsX5_init) := ggL_law_X5_init
set_option maxRecDepth 20000 in
theorem ggL_law_L_takeLine : GoodIn wsL_law wsL_takeLine := goodIn_ca (goodIn_r _ [77, 78, 79, 80, 81, 2, 82, 26, 17, 83, 84, 85, 86, 87, 88, 33, 89, 90, 91, 92, 93, 94, 95, 32, 96, 97, 98, 99, 100, 101, 52, 102, 103, 104, 105, 106, 107, 108, 25, 109, 63, 110, 111, 112, 49, 113, 114, 115, 116, 16, 117, 38, 39, 40, 41, 42, 118, 119, 120, 121, 122, 123, 124, 125, 126, 127, 128, 129, 130, 131, 132, 133, 134, 135, 136, 137, 138, 139, 140, 141, 142, 143, 701, 702, 703, 704, 705, 706, 707, 716, 717, 718, 719, 720, 721, 722, 723, 729, 730, 727, 728] (by decide +kernel) (by decide +kernel)) (goodIn_sub (fun _ h => List.mem_append_left _ (List.mem_append_left _ (List.mem_append_right _ h))) (by decide +kernel))
set_option maxRecDepth 20000 in
theorem gL_law_L_takeLine : GoodIn wsL_law (va_wsS RL 71 yL_takeLine wsL_takeLine) := goodIn_app (goodIn_of _ (by decide +kernel)) ggL_law_L_takeLine
set_option maxRecDepth 20000 in
theorem ggL_law_X5_takeLine : GoodIn wsL_law wsX5_takeLine := goodIn_r _ [147, 148, 149, 150, 5, 151, 152, 153, 154, 155, 156, 73, 157, 158, 159, 160, 161, 162, 163, 164, 165, 166, 167, 168, 169, 170, 171, 70, 69, 172, 173, 174, 175, 176, 177, 178, 179, 708, 709, 710, 711, 712, 713, 714, 715] (by decide +kernel) (by decide +kernel)
set_option maxRecDepth 20000 in
theorem gL_law_X5_takeLine : GoodIn wsL_law (wsV RL 76 RX5 yX5_takeLine wsX5_takeLine) := goodIn_app (goodIn_of _ (by decide +kernel)) ggL_law_X5_takeLine
set_option maxRecDepth 20000 in
theorem ggL_law_X5_thrown : GoodIn wsL_law wsX5_thrown := goodIn_r _ [183, 166, 708, 709, 710, 711, 712, 713, 714, 715] (by decide +kernel) (by decide +kernel)
set_option maxRecDepth 20000 in
theorem gL_law_X5_thrown : GoodIn wsL_law (wsV RL 77 RX5 yX5_thrown wsX5_thrown) := goodIn_app (goodIn_of _ (by decide +kernel)) ggL_law_X5_thrown
set_option maxRecDepth 20000 in
theorem ggL_law_L_takeWord : GoodIn wsL_law wsL_takeWord := goodIn_ca (goodIn_r _ [186, 78, 187, 188, 189, 2, 190, 26, 17, 83, 84, 85, 86, 87, 88, 33, 89, 90, 91, 92, 93, 94, 95, 32, 96, 97, 98, 99, 100, 101, 52, 102, 103, 104, 105, 106, 107, 108, 25, 109, 63, 110, 111, 112, 49, 113, 114, 115, 116, 16, 117, 38, 39, 40, 41, 42, 118, 119, 120, 121, 122, 123, 124, 125, 126, 127, 128, 129, 130, 131, 132, 133, 134, 135, 136, 137, 138, 139, 140, 141, 142, 143, 701, 702, 703, 704, 705, 706, 707, 716, 717, 718, 719, 720, 721, 722, 723, 729, 730, 727, 728] (by decide +kernel) (by decide +kernel)) (goodIn_sub (fun _ h => List.mem_append_left _ (List.mem_append_left _ (List.mem_append_right _ h))) (by decide +kernel))
set_option maxRecDepth 20000 in
theorem gL_law_L_takeWord : GoodIn wsL_law (va_wsS RL 80 yL_takeWord wsL_takeWord) := goodIn_app (goodIn_of _ (by decide +kernel)) ggL_law_L_takeWord
set_option maxRecDepth 20000 in
theorem ggL_law_X5_takeWord : GoodIn wsL_law wsX5_takeWord := goodIn_r _ [194, 148, 149, 150, 5, 151, 152, 153, 154, 155, 156, 73, 157, 158, 159, 160, 161, 162, 163, 164, 165, 166, 167, 168, 169, 170, 171, 70, 69, 172, 173, 174, 175, 176, 177, 178, 179, 708, 709, 710, 711, 712, 713, 714, 715] (by decide +kernel) (by decide +kernel)
set_option maxRecDepth 20000 in
theorem gL_law_X5_takeWord : GoodIn wsL_law (wsV RL 82 RX5 yX5_takeWord wsX5_takeWord) := goodIn_app (goodIn_of _ (by decide +kernel)) ggL_law_X5_takeWord
set_option maxRecDepth 20000 in
theorem ggL_law_X4_setRules : GoodIn wsL_law wsX4_setRules := goodIn_r _ [198, 26, 17, 106, 107, 108, 25, 109, 63, 110, 111, 112, 49, 113, 114, 115, 116, 16, 117, 38, 39, 40, 41, 42, 118, 119, 120, 121, 122, 123, 32, 124, 97, 52, 125, 126, 127, 128, 129, 130, 131, 132, 199, 200, 201, 202, 203, 204, 205, 206, 139, 140, 141, 142, 143, 701, 702, 703, 704, 705, 706, 707, 727, 728, 716, 717, 718, 719, 720, 721, 722, 723, 729, 730] (by decide +kernel) (by decide +kernel)
set_option maxRecDepth 20000 in
theorem gL_law_X4_setRules : GoodIn wsL_law (wsV RL 83 RX4 yX4_setRules wsX4_setRules) := goodIn_app (goodIn_of _ (by decide +kernel)) ggL_law_X4_setRules
set_option maxRecDepth 20000 in
theorem ggL_law_X5_setRules : GoodIn wsL_law wsX5_setRules := goodIn_r _ [210, 69, 167, 168, 169, 5, 170, 166, 171, 70, 176, 177, 178, 179, 708, 709, 710, 711, 712, 713, 714, 715] (by decide +kernel) (by decide +kernel)
set_option maxRecDepth 20000 in
theorem gL_law_X5_setRules : GoodIn wsL_law (wsV RL 87 RX5 yX5_setRules wsX5_setRules) := goodIn_app (goodIn_of _ (by decide +kernel)) ggL_law_X5_setRules
set_option maxRecDepth 20000 in
theorem ggL_law_L_look : GoodIn wsL_law wsL_look := goodIn_ca (goodIn_r _ [213, 78, 214, 215, 216, 2, 217, 87, 88, 17, 26, 22, 218, 219, 220, 16, 221, 39, 118, 222, 223, 224, 32, 225, 97, 226, 227, 228, 229, 38, 230, 48, 49, 50, 231, 94, 95, 96, 106, 107, 108, 25, 109, 63, 110, 111, 112, 113, 114, 115, 116, 117, 40, 41, 42, 119, 120, 121, 122, 123, 124, 52, 125, 126, 127, 128, 129, 130, 131, 132, 232, 233, 234, 21, 235, 236, 237, 57, 238, 239, 240, 241, 242, 56, 243, 244, 245, 246, 247, 99, 100, 101, 102, 103, 104, 105, 248, 249, 250, 251, 252, 253, 254, 255, 256, 257, 258, 259, 260, 261, 262, 263, 264, 265, 266, 267, 268, 269, 270, 271, 272, 273, 274, 275, 276, 277, 278, 279, 280, 281, 701, 702, 703, 704, 705, 706, 707, 716, 717, 718, 719, 720, 721, 722, 723, 729, 730, 727, 728, 724, 725, 726] (by decide +kernel) (by decide +kernel)) (goodIn_sub (fun _ h => List.mem_append_left _ (List.mem_append_left _ (List.mem_append_right _ h))) (by decide +kernel))
set_option maxRecDepth 20000 in
theorem gL_law_L_look : GoodIn wsL_law (va_wsS RL 88 yL_look wsL_look) := goodIn_app (goodIn_of _ (by decide +kernel)) ggL_law_L_look
set_option maxRecDepth 20000 in
theorem ggL_law_X5_look : GoodIn wsL_law wsX5_look := goodIn_r _ [285, 69, 286, 287, 288, 5, 289, 162, 163, 164, 165, 166, 167, 168, 169, 170, 171, 70, 290, 291, 292, 293, 294, 295, 296, 297, 298, 299, 300, 301, 302, 303, 304, 305, 306, 307, 308, 309, 310, 311, 312, 313, 314, 315, 316, 317, 708, 709, 710, 711, 712, 713, 714, 715] (by decide +kernel) (by decide +kernel)
set_option maxRecDepth 20000 in
theorem gL_law_X5_look : GoodIn wsL_law (wsV RL 90 RX5 yX5_look wsX5_look) := goodIn_app (goodIn_of _ (by decide +kernel)) ggL_law_X5_look
set_option maxRecDepth 20000 in
theorem ggL_law_X4_finish : GoodIn wsL_law wsX4_finish := goodIn_r _ [321, 26, 17, 22, 106, 107, 108, 25, 109, 63, 110, 111, 112, 49, 113, 114, 115, 116, 16, 117, 38, 39, 40, 41, 42, 118, 119, 120, 121, 122, 123, 32, 124, 97, 52, 125, 126, 127, 128, 129, 130, 131, 132, 232, 233, 234, 21, 235, 236, 237, 57, 238, 94, 95, 96, 239, 240, 241, 242, 56, 243, 244, 245, 246, 247, 99, 100, 101, 102, 103, 104, 105, 248, 249, 250, 251, 322, 323, 324, 325, 326, 219, 220, 221, 222, 223, 224, 225, 226, 227, 228, 229, 230, 48, 50, 231, 327, 253, 254, 255, 256, 257, 258, 259, 260, 261, 262, 263, 264, 265, 266, 267, 268, 269, 270, 271, 272, 273, 274, 275, 276, 277, 278, 279, 280, 281, 701, 702, 703, 704, 705, 706, 707, 716, 717, 718, 719, 720, 721, 722, 723, 727, 728, 729, 730, 724, 725, 726] (by decide +kernel) (by decide +kernel)
set_option maxRecDepth 20000 in
theorem gL_law_X4_finish : GoodIn wsL_law (wsV RL 91 RX4 yX4_finish wsX4_finish) := goodIn_app (goodIn_of _ (by decide +kernel)) ggL_law_X4_finish
set_option maxRecDepth 20000 in
theorem ggL_law_X5_finish : GoodIn wsL_law wsX5_finish := goodIn_r _ [331, 69, 167, 168, 169, 5, 170, 166, 171, 70, 286, 287, 288, 289, 290, 291, 292, 293, 294, 295, 296, 297, 298, 299, 300, 301, 302, 303, 304, 305, 306, 307, 308, 309, 310, 311, 312, 313, 314, 315, 316, 317, 708, 709, 710, 711, 712, 713, 714, 715] (by decide +kernel) (by decide +kernel)
set_option maxRecDepth 20000 in
theorem gL_law_X5_finish : GoodIn wsL_law (wsV RL 94 RX5 yX5_finish wsX5_finish) := goodIn_app (goodIn_of _ (by decide +kernel)) ggL_law_X5_finish
set_option maxRecDepth 20000 in
theorem ggL_law_X4_rewind : GoodIn wsL_law wsX4_rewind := goodIn_r _ [335, 26, 17, 106, 107, 108, 25, 109, 63, 110, 111, 112, 49, 113, 114, 115, 116, 16, 117, 38, 39, 40, 41, 42, 118, 119, 120, 121, 122, 123, 32, 124, 97, 52, 125, 126, 127, 128, 129, 130, 131, 132, 139, 140, 141, 142, 143, 701, 702, 703, 704, 705, 706, 707, 716, 717, 718, 719, 720, 721, 722, 723, 727, 728, 729, 730] (by decide +kernel) (by decide +kernel)
set_option maxRecDepth 20000 in
theorem gL_law_X4_rewind : GoodIn wsL_law (wsV RL 95 RX4 yX4_rewind wsX4_rewind) := goodIn_app (goodIn_of _ (by decide +kernel)) ggL_law_X4_rewind
set_option maxRecDepth 20000 in
theorem ggL_law_X5_rewind : GoodIn wsL_law wsX5_rewind := goodIn_r _ [339, 69, 167, 168, 169, 5, 170, 166, 171, 70, 176, 177, 178, 179, 708, 709, 710, 711, 712, 713, 714, 715] (by decide +kernel) (by decide +kernel)
set_option maxRecDepth 20000 in
theorem gL_law_X5_rewind : GoodIn wsL_law (wsV RL 98 RX5 yX5_rewind wsX5_rewind) := goodIn_app (goodIn_of _ (by decide +kernel)) ggL_law_X5_rewind
set_option maxRecDepth 20000 in
theorem ggL_law_L_setLetter : GoodIn wsL_law wsL_setLetter := goodIn_ca (goodIn_ca (goodIn_r _ [342, 343, 344, 345, 346, 347, 2, 348, 17, 26, 349, 350, 351, 352, 353, 354, 103, 104, 32, 105, 97, 355, 356, 357, 358, 359, 106, 107, 108, 25, 109, 63, 110, 111, 112, 49, 113, 114, 115, 116, 16, 117, 38, 39, 40, 41, 42, 118, 119, 120, 121, 122, 123, 124, 52, 125, 126, 127, 128, 129, 130, 131, 132, 98, 99, 100, 101, 102, 360, 361, 362, 363, 139, 140, 141, 142, 143, 701, 702, 703, 704, 705, 706, 707, 716, 717, 718, 719, 720, 721, 722, 723, 729, 730, 727, 728] (by decide +kernel) (by decide +kernel)) (goodIn_sub (fun _ h => List.mem_append_left _ (List.mem_append_right _ h)) (by decide +kernel))) (goodIn_sub (fun _ h => List.mem_append_right _ h) (by decide +kernel))
set_option maxRecDepth 20000 in
theorem gL_law_L_setLetter : GoodIn wsL_law (va_wsS RL 99 yL_setLetter wsL_setLetter) := goodIn_app (goodIn_of _ (by decide +kernel)) ggL_law_L_setLetter
set_option maxRecDepth 20000 in
theorem ggL_law_X5_setLetter : GoodIn wsL_law wsX5_setLetter := goodIn_r _ [367, 69, 368, 369, 370, 5, 371, 159, 160, 161, 162, 163, 164, 165, 166, 372, 373, 374, 375, 167, 168, 169, 170, 171, 70, 176, 177, 178, 179, 708, 709, 710, 711, 712, 713, 714, 715] (by decide +kernel) (by decide +kernel)
set_option maxRecDepth 20000 in
theorem gL_law_X5_setLetter : GoodIn wsL_law (wsV RL 102 RX5 yX5_setLetter wsX5_setLetter) := goodIn_app (goodIn_of _ (by decide +kernel)) ggL_law_X5_setLetter
set_option maxRecDepth 20000 in
theorem ggL_law_X4_lineLength : GoodIn wsL_law wsX4_lineLength := goodIn_r _ [379, 17, 93, 94, 95, 32, 96, 97, 701, 702, 703, 704, 705, 706, 707, 716, 717, 718, 719, 720, 721, 722, 723, 729, 730] (by decide +kernel) (by decide +kernel)
set_option maxRecDepth 20000 in
theorem gL_law_X4_lineLength : GoodIn wsL_law (wsV RL 103 RX4 yX4_lineLength wsX4_lineLength) := goodIn_app (goodIn_of _ (by decide +kernel)) ggL_law_X4_lineLength
set_option maxRecDepth 20000 in
theorem ggL_law_X5_lineLength : GoodIn wsL_law wsX5_lineLength := goodIn_r _ [383, 69, 384, 385, 386, 5, 387, 166, 708, 709, 710, 711, 712, 713, 714, 715] (by decide +kernel) (by decide +kernel)
set_option maxRecDepth 20000 in
theorem gL_law_X5_lineLength : GoodIn wsL_law (wsV RL 106 RX5 yX5_lineLength wsX5_lineLength) := goodIn_app (goodIn_of _ (by decide +kernel)) ggL_law_X5_lineLength
set_option maxRecDepth 20000 in
theorem ggL_law_X4_wordLength : GoodIn wsL_law wsX4_wordLength := goodIn_r _ [391, 17, 93, 94, 95, 32, 96, 97, 701, 702, 703, 704, 705, 706, 707, 716, 717, 718, 719, 720, 721, 722, 723, 729, 730] (by decide +kernel) (by decide +kernel)
set_option maxRecDepth 20000 in
theorem gL_law_X4_wordLength : GoodIn wsL_law (wsV RL 107 RX4 yX4_wordLength wsX4_wordLength) := goodIn_app (goodIn_of _ (by decide +kernel)) ggL_law_X4_wordLength
set_option maxRecDepth 20000 in
theorem ggL_law_X5_wordLength : GoodIn wsL_law wsX5_wordLength := goodIn_r _ [395, 69, 384, 385, 386, 5, 387, 166, 708, 709, 710, 711, 712, 713, 714, 715] (by decide +kernel) (by decide +kernel)
set_option maxRecDepth 20000 in
theorem gL_law_X5_wordLength : GoodIn wsL_law (wsV RL 110 RX5 yX5_wordLength wsX5_wordLength) := goodIn_app (goodIn_of _ (by decide +kernel)) ggL_law_X5_wordLength
set_option maxRecDepth 20000 in
theorem ggL_law_L_lineLetter : GoodIn wsL_law wsL_lineLetter := goodIn_ca (goodIn_r _ [398, 343, 399, 400, 401, 2, 402, 17, 349, 350, 351, 352, 353, 354, 103, 104, 32, 105, 97, 98, 99, 100, 101, 52, 102, 701, 702, 703, 704, 705, 706, 707, 716, 717, 718, 719, 720, 721, 722, 723, 729, 730] (by decide +kernel) (by decide +kernel)) (goodIn_sub (fun _ h => List.mem_append_left _ (List.mem_append_right _ h)) (by decide +kernel))
set_option maxRecDepth 20000 in
theorem gL_law_L_lineLetter : GoodIn wsL_law (va_wsS RL 111 yL_lineLetter wsL_lineLetter) := goodIn_app (goodIn_of _ (by decide +kernel)) ggL_law_L_lineLetter
set_option maxRecDepth 20000 in
theorem ggL_law_X5_lineLetter : GoodIn wsL_law wsX5_lineLetter := goodIn_r _ [406, 69, 368, 369, 370, 5, 371, 159, 160, 161, 384, 385, 386, 387, 166, 162, 163, 164, 165, 708, 709, 710, 711, 712, 713, 714, 715] (by decide +kernel) (by decide +kernel)
set_option maxRecDepth 20000 in
theorem gL_law_X5_lineLetter : GoodIn wsL_law (wsV RL 114 RX5 yX5_lineLetter wsX5_lineLetter) := goodIn_app (goodIn_of _ (by decide +kernel)) ggL_law_X5_lineLetter
set_option maxRecDepth 20000 in
theorem ggL_law_L_wordLetter : GoodIn wsL_law wsL_wordLetter := goodIn_ca (goodIn_r _ [409, 343, 410, 411, 412, 2, 413, 17, 349, 350, 351, 352, 353, 354, 103, 104, 32, 105, 97, 98, 99, 100, 101, 52, 102, 701, 702, 703, 704, 705, 706, 707, 716, 717, 718, 719, 720, 721, 722, 723, 729, 730] (by decide +kernel) (by decide +kernel)) (goodIn_sub (fun _ h => List.mem_append_left _ (List.mem_append_right _ h)) (by decide +kernel))
set_option maxRecDepth 20000 in
theorem gL_law_L_wordLetter : GoodIn wsL_law (va_wsS RL 115 yL_wordLetter wsL_wordLetter) := goodIn_app (goodIn_of _ (by decide +kernel)) ggL_law_L_wordLetter
set_option maxRecDepth 20000 in
theorem ggL_law_X5_wordLetter : GoodIn wsL_law wsX5_wordLetter := goodIn_r _ [417, 69, 418, 419, 420, 5, 421, 159, 160, 161, 384, 385, 386, 387, 166, 162, 163, 164, 165, 708, 709, 710, 711, 712, 713, 714, 715] (by decide +kernel) (by decide +kernel)
set_option maxRecDepth 20000 in
theorem gL_law_X5_wordLetter : GoodIn wsL_law (wsV RL 117 RX5 yX5_wordLetter wsX5_wordLetter) := goodIn_app (goodIn_of _ (by decide +kernel)) ggL_law_X5_wordLetter
set_option maxRecDepth 20000 in
theorem ggL_law_X4_place : GoodIn wsL_law wsX4_place := goodIn_r _ [425, 17, 701, 702, 703, 704, 705, 706, 707, 716, 717, 718, 719, 720, 721, 722, 723] (by decide +kernel) (by decide +kernel)
set_option maxRecDepth 20000 in
theorem gL_law_X4_place : GoodIn wsL_law (wsV RL 118 RX4 yX4_place wsX4_place) := goodIn_app (goodIn_of _ (by decide +kernel)) ggL_law_X4_place
set_option maxRecDepth 20000 in
theorem ggL_law_X5_place : GoodIn wsL_law wsX5_place := goodIn_r _ [429, 69, 384, 385, 386, 5, 387, 166, 708, 709, 710, 711, 712, 713, 714, 715] (by decide +kernel) (by decide +kernel)
set_option maxRecDepth 20000 in
theorem gL_law_X5_place : GoodIn wsL_law (wsV RL 121 RX5 yX5_place wsX5_place) := goodIn_app (goodIn_of _ (by decide +kernel)) ggL_law_X5_place
set_option maxRecDepth 20000 in
theorem ggL_law_X4_isOver : GoodIn wsL_law wsX4_isOver := goodIn_r _ [433, 17, 218, 219, 220, 16, 221, 39, 118, 222, 223, 224, 32, 225, 97, 226, 227, 228, 229, 38, 230, 48, 49, 50, 231, 94, 95, 96, 701, 702, 703, 704, 705, 706, 707, 716, 717, 718, 719, 720, 721, 722, 723, 729, 730] (by decide +kernel) (by decide +kernel)
set_option maxRecDepth 20000 in
theorem gL_law_X4_isOver : GoodIn wsL_law (wsV RL 122 RX4 yX4_isOver wsX4_isOver) := goodIn_app (goodIn_of _ (by decide +kernel)) ggL_law_X4_isOver
set_option maxRecDepth 20000 in
theorem ggL_law_X5_isOver : GoodIn wsL_law wsX5_isOver := goodIn_r _ [437, 166, 69, 286, 287, 288, 5, 289, 708, 709, 710, 711, 712, 713, 714, 715] (by decide +kernel) (by decide +kernel)
set_option maxRecDepth 20000 in
theorem gL_law_X5_isOver : GoodIn wsL_law (wsV RL 126 RX5 yX5_isOver wsX5_isOver) := goodIn_app (goodIn_of _ (by decide +kernel)) ggL_law_X5_isOver
set_option maxRecDepth 20000 in
theorem ggL_law_X4_lookCount : GoodIn wsL_law wsX4_lookCount := goodIn_r _ [441, 17, 701, 702, 703, 704, 705, 706, 707, 716, 717, 718, 719, 720, 721, 722, 723] (by decide +kernel) (by decide +kernel)
set_option maxRecDepth 20000 in
theorem gL_law_X4_lookCount : GoodIn wsL_law (wsV RL 127 RX4 yX4_lookCount wsX4_lookCount) := goodIn_app (goodIn_of _ (by decide +kernel)) ggL_law_X4_lookCount
set_option maxRecDepth 20000 in
theorem ggL_law_X5_lookCount : GoodIn wsL_law wsX5_lookCount := goodIn_r _ [445, 69, 384, 385, 386, 5, 387, 166, 708, 709, 710, 711, 712, 713, 714, 715] (by decide +kernel) (by decide +kernel)
set_option maxRecDepth 20000 in
theorem gL_law_X5_lookCount : GoodIn wsL_law (wsV RL 130 RX5 yX5_lookCount wsX5_lookCount) := goodIn_app (goodIn_of _ (by decide +kernel)) ggL_law_X5_lookCount
set_option maxRecDepth 20000 in
theorem ggL_law_X4_comparedCount : GoodIn wsL_law wsX4_comparedCount := goodIn_r _ [449, 17, 701, 702, 703, 704, 705, 706, 707, 716, 717, 718, 719, 720, 721, 722, 723] (by decide +kernel) (by decide +kernel)
set_option maxRecDepth 20000 in
theorem gL_law_X4_comparedCount : GoodIn wsL_law (wsV RL 131 RX4 yX4_comparedCount wsX4_comparedCount) := goodIn_app (goodIn_of _ (by decide +kernel)) ggL_law_X4_comparedCount
set_option maxRecDepth 20000 in
theorem ggL_law_X5_comparedCount : GoodIn wsL_law wsX5_comparedCount := goodIn_r _ [453, 69, 384, 385, 386, 5, 387, 166, 708, 709, 710, 711, 712, 713, 714, 715] (by decide +kernel) (by decide +kernel)
set_option maxRecDepth 20000 in
theorem gL_law_X5_comparedCount : GoodIn wsL_law (wsV RL 134 RX5 yX5_comparedCount wsX5_comparedCount) := goodIn_app (goodIn_of _ (by decide +kernel)) ggL_law_X5_comparedCount
set_option maxRecDepth 20000 in
theorem ggL_law_X4_foundCount : GoodIn wsL_law wsX4_foundCount := goodIn_r _ [457, 17, 93, 94, 95, 32, 96, 97, 701, 702, 703, 704, 705, 706, 707, 716, 717, 718, 719, 720, 721, 722, 723, 729, 730] (by decide +kernel) (by decide +kernel)
set_option maxRecDepth 20000 in
theorem gL_law_X4_foundCount : GoodIn wsL_law (wsV RL 135 RX4 yX4_foundCount wsX4_foundCount) := goodIn_app (goodIn_of _ (by decide +kernel)) ggL_law_X4_foundCount
set_option maxRecDepth 20000 in
theorem ggL_law_X5_foundCount : GoodIn wsL_law wsX5_foundCount := goodIn_r _ [461, 69, 384, 385, 386, 5, 387, 166, 708, 709, 710, 711, 712, 713, 714, 715] (by decide +kernel) (by decide +kernel)
set_option maxRecDepth 20000 in
theorem gL_law_X5_foundCount : GoodIn wsL_law (wsV RL 138 RX5 yX5_foundCount wsX5_foundCount) := goodIn_app (goodIn_of _ (by decide +kernel)) ggL_law_X5_foundCount
set_option maxRecDepth 20000 in
theorem ggL_law_L_foundPlace : GoodIn wsL_law wsL_foundPlace := goodIn_ca (goodIn_r _ [464, 343, 465, 466, 467, 2, 468, 17, 349, 350, 351, 352, 353, 354, 103, 104, 32, 105, 97, 98, 99, 100, 101, 52, 102, 701, 702, 703, 704, 705, 706, 707, 716, 717, 718, 719, 720, 721, 722, 723, 729, 730] (by decide +kernel) (by decide +kernel)) (goodIn_sub (fun _ h => List.mem_append_left _ (List.mem_append_right _ h)) (by decide +kernel))
set_option maxRecDepth 20000 in
theorem gL_law_L_foundPlace : GoodIn wsL_law (va_wsS RL 139 yL_foundPlace wsL_foundPlace) := goodIn_app (goodIn_of _ (by decide +kernel)) ggL_law_L_foundPlace
set_option maxRecDepth 20000 in
theorem ggL_law_X5_foundPlace : GoodIn wsL_law wsX5_foundPlace := goodIn_r _ [472, 69, 159, 160, 5, 161, 384, 385, 386, 387, 166, 162, 163, 164, 165, 708, 709, 710, 711, 712, 713, 714, 715] (by decide +kernel) (by decide +kernel)
set_option maxRecDepth 20000 in
theorem gL_law_X5_foundPlace : GoodIn wsL_law (wsV RL 141 RX5 yX5_foundPlace wsX5_foundPlace) := goodIn_app (goodIn_of _ (by decide +kernel)) ggL_law_X5_foundPlace
set_option maxRecDepth 20000 in
theorem ggL_law_X4_skippedPlaces : GoodIn wsL_law wsX4_skippedPlaces := goodIn_r _ [476, 17, 477, 112, 49, 113, 478, 227, 228, 16, 229, 38, 39, 230, 48, 50, 231, 94, 95, 32, 96, 97, 701, 702, 703, 704, 705, 706, 707, 716, 717, 718, 719, 720, 721, 722, 723, 729, 730] (by decide +kernel) (by decide +kernel)
set_option maxRecDepth 20000 in
theorem gL_law_X4_skippedPlaces : GoodIn wsL_law (wsV RL 142 RX4 yX4_skippedPlaces wsX4_skippedPlaces) := goodIn_app (goodIn_of _ (by decide +kernel)) ggL_law_X4_skippedPlaces
set_option maxRecDepth 20000 in
theorem ggL_law_X5_skippedPlaces : GoodIn wsL_law wsX5_skippedPlaces := goodIn_r _ [482, 69, 384, 385, 386, 5, 387, 166, 708, 709, 710, 711, 712, 713, 714, 715] (by decide +kernel) (by decide +kernel)
set_option maxRecDepth 20000 in
theorem gL_law_X5_skippedPlaces : GoodIn wsL_law (wsV RL 145 RX5 yX5_skippedPlaces wsX5_skippedPlaces) := goodIn_app (goodIn_of _ (by decide +kernel)) ggL_law_X5_skippedPlaces
set_option maxRecDepth 20000 in
theorem ggL_law_L_lastPlaceOf : GoodIn wsL_law wsL_lastPlaceOf := goodIn_ca (goodIn_r _ [485, 344, 486, 487, 488, 2, 489, 17, 355, 356, 357, 358, 359, 490, 274, 275, 32, 276, 97, 52, 701, 702, 703, 704, 705, 706, 707, 716, 717, 718, 719, 720, 721, 722, 723, 729, 730] (by decide +kernel) (by decide +kernel)) (goodIn_sub (fun _ h => List.mem_append_right _ h) (by decide +kernel))
set_option maxRecDepth 20000 in
theorem gL_law_L_lastPlaceOf : GoodIn wsL_law (va_wsS RL 146 yL_lastPlaceOf wsL_lastPlaceOf) := goodIn_app (goodIn_of _ (by decide +kernel)) ggL_law_L_lastPlaceOf
set_option maxRecDepth 20000 in
theorem ggL_law_X5_lastPlaceOf : GoodIn wsL_law wsX5_lastPlaceOf := goodIn_r _ [494, 372, 373, 5, 374, 375, 159, 160, 161, 306, 307, 308, 309, 69, 384, 385, 386, 387, 166, 162, 163, 164, 165, 708, 709, 710, 711, 712, 713, 714, 715] (by decide +kernel) (by decide +kernel)
set_option maxRecDepth 20000 in
theorem gL_law_X5_lastPlaceOf : GoodIn wsL_law (wsV RL 148 RX5 yX5_lastPlaceOf wsX5_lastPlaceOf) := goodIn_app (goodIn_of _ (by decide +kernel)) ggL_law_X5_lastPlaceOf
set_option maxRecDepth 20000 in
theorem ggL_law_L_letterSkip : GoodIn wsL_law wsL_letterSkip := goodIn_ca (goodIn_ca (goodIn_r _ [497, 343, 344, 498, 499, 500, 2, 501, 17, 349, 350, 351, 352, 353, 354, 103, 104, 32, 105, 97, 355, 356, 357, 358, 359, 502, 270, 271, 16, 272, 39, 273, 274, 275, 276, 52, 701, 702, 703, 704, 705, 706, 707, 716, 717, 718, 719, 720, 721, 722, 723, 729, 730] (by decide +kernel) (by decide +kernel)) (goodIn_sub (fun _ h => List.mem_append_left _ (List.mem_append_right _ h)) (by decide +kernel))) (goodIn_sub (fun _ h => List.mem_append_right _ h) (by decide +kernel))
set_option maxRecDepth 20000 in
theorem gL_law_L_letterSkip : GoodIn wsL_law (va_wsS RL 149 yL_letterSkip wsL_letterSkip) := goodIn_app (goodIn_of _ (by decide +kernel)) ggL_law_L_letterSkip
set_option maxRecDepth 20000 in
theorem ggL_law_X5_letterSkip : GoodIn wsL_law wsX5_letterSkip := goodIn_r _ [506, 418, 419, 420, 5, 421, 69, 159, 160, 161, 162, 163, 164, 165, 166, 372, 373, 374, 375, 306, 307, 308, 309, 384, 385, 386, 387, 708, 709, 710, 711, 712, 713, 714, 715] (by decide +kernel) (by decide +kernel)
set_option maxRecDepth 20000 in
theorem gL_law_X5_letterSkip : GoodIn wsL_law (wsV RL 151 RX5 yX5_letterSkip wsX5_letterSkip) := goodIn_app (goodIn_of _ (by decide +kernel)) ggL_law_X5_letterSkip
set_option maxRecDepth 20000 in
theorem ggL_law_L_endSkip : GoodIn wsL_law wsL_endSkip := goodIn_ca (goodIn_r _ [509, 343, 510, 511, 512, 2, 513, 17, 22, 349, 350, 351, 352, 353, 354, 103, 104, 32, 105, 97, 232, 233, 234, 21, 235, 236, 112, 49, 113, 237, 57, 238, 94, 95, 96, 239, 240, 241, 242, 56, 243, 244, 245, 246, 247, 99, 100, 101, 52, 102, 248, 249, 250, 251, 514, 278, 279, 280, 701, 702, 703, 704, 705, 706, 707, 716, 717, 718, 719, 720, 721, 722, 723, 729, 730, 724, 725, 726] (by decide +kernel) (by decide +kernel)) (goodIn_sub (fun _ h => List.mem_append_left _ (List.mem_append_right _ h)) (by decide +kernel))
set_option maxRecDepth 20000 in
theorem gL_law_L_endSkip : GoodIn wsL_law (va_wsS RL 152 yL_endSkip wsL_endSkip) := goodIn_app (goodIn_of _ (by decide +kernel)) ggL_law_L_endSkip
set_option maxRecDepth 20000 in
theorem ggL_law_X5_endSkip : GoodIn wsL_law wsX5_endSkip := goodIn_r _ [518, 418, 419, 420, 5, 421, 69, 159, 160, 161, 310, 311, 312, 313, 314, 315, 316, 317, 384, 385, 386, 387, 166, 162, 163, 164, 165, 708, 709, 710, 711, 712, 713, 714, 715] (by decide +kernel) (by decide +kernel)
set_option maxRecDepth 20000 in
theorem gL_law_X5_endSkip : GoodIn wsL_law (wsV RL 154 RX5 yX5_endSkip wsX5_endSkip) := goodIn_app (goodIn_of _ (by decide +kernel)) ggL_law_X5_endSkip
set_option maxRecDepth 20000 in
theorem ggL_law_L_endSkipByTrying : GoodIn wsL_law wsL_endSkipByTrying := goodIn_ca (goodIn_r _ [521, 343, 522, 523, 524, 2, 525, 17, 349, 350, 351, 352, 353, 354, 103, 104, 32, 105, 97, 93, 94, 95, 96, 526, 527, 528, 529, 48, 49, 50, 98, 99, 100, 101, 52, 102, 701, 702, 703, 704, 705, 706, 707, 716, 717, 718, 719, 720, 721, 722, 723, 729, 730] (by decide +kernel) (by decide +kernel)) (goodIn_sub (fun _ h => List.mem_append_left _ (List.mem_append_right _ h)) (by decide +kernel))
set_option maxRecDepth 20000 in
theorem gL_law_L_endSkipByTrying : GoodIn wsL_law (va_wsS RL 155 yL_endSkipByTrying wsL_endSkipByTrying) := goodIn_app (goodIn_of _ (by decide +kernel)) ggL_law_L_endSkipByTrying
set_option maxRecDepth 20000 in
theorem ggL_law_X5_endSkipByTrying : GoodIn wsL_law wsX5_endSkipByTrying := goodIn_r _ [533, 418, 419, 420, 5, 421, 69, 159, 160, 161, 310, 311, 312, 313, 314, 315, 316, 317, 384, 385, 386, 387, 166, 162, 163, 164, 165, 708, 709, 710, 711, 712, 713, 714, 715] (by decide +kernel) (by decide +kernel)
set_option maxRecDepth 20000 in
theorem gL_law_X5_endSkipByTrying : GoodIn wsL_law (wsV RL 157 RX5 yX5_endSkipByTrying wsX5_endSkipByTrying) := goodIn_app (goodIn_of _ (by decide +kernel)) ggL_law_X5_endSkipByTrying
set_option maxRecDepth 20000 in
theorem ggL_law_X4_border : GoodIn wsL_law wsX4_border := goodIn_r _ [537, 22, 17, 232, 233, 234, 21, 235, 236, 112, 49, 113, 237, 57, 238, 94, 95, 32, 96, 97, 239, 240, 241, 242, 56, 243, 244, 245, 246, 247, 99, 100, 101, 52, 102, 103, 104, 105, 248, 249, 250, 251, 93, 538, 266, 267, 268, 701, 702, 703, 704, 705, 706, 707, 716, 717, 718, 719, 720, 721, 722, 723, 724, 725, 726, 729, 730] (by decide +kernel) (by decide +kernel)
set_option maxRecDepth 20000 in
theorem gL_law_X4_border : GoodIn wsL_law (wsV RL 158 RX4 yX4_border wsX4_border) := goodIn_app (goodIn_of _ (by decide +kernel)) ggL_law_X4_border
set_option maxRecDepth 20000 in
theorem ggL_law_X5_border : GoodIn wsL_law wsX5_border := goodIn_r _ [542, 69, 302, 303, 304, 5, 305, 384, 385, 386, 387, 166, 708, 709, 710, 711, 712, 713, 714, 715] (by decide +kernel) (by decide +kernel)
set_option maxRecDepth 20000 in
theorem gL_law_X5_border : GoodIn wsL_law (wsV RL 161 RX5 yX5_border wsX5_border) := goodIn_app (goodIn_of _ (by decide +kernel)) ggL_law_X5_border
set_option maxRecDepth 20000 in
theorem ggL_law_X4_period : GoodIn wsL_law wsX4_period := goodIn_r _ [546, 22, 17, 232, 233, 234, 21, 235, 236, 112, 49, 113, 237, 57, 238, 94, 95, 32, 96, 97, 239, 240, 241, 242, 56, 243, 244, 245, 246, 247, 99, 100, 101, 52, 102, 103, 104, 105, 248, 249, 250, 251, 538, 266, 267, 268, 701, 702, 703, 704, 705, 706, 707, 716, 717, 718, 719, 720, 721, 722, 723, 724, 725, 726, 729, 730] (by decide +kernel) (by decide +kernel)
set_option maxRecDepth 20000 in
theorem gL_law_X4_period : GoodIn wsL_law (wsV RL 162 RX4 yX4_period wsX4_period) := goodIn_app (goodIn_of _ (by decide +kernel)) ggL_law_X4_period
set_option maxRecDepth 20000 in
theorem ggL_law_X5_period : GoodIn wsL_law wsX5_period := goodIn_r _ [550, 302, 303, 304, 5, 305, 69, 384, 385, 386, 387, 166, 708, 709, 710, 711, 712, 713, 714, 715] (by decide +kernel) (by decide +kernel)
set_option maxRecDepth 20000 in
theorem gL_law_X5_period : GoodIn wsL_law (wsV RL 165 RX5 yX5_period wsX5_period) := goodIn_app (goodIn_of _ (by decide +kernel)) ggL_law_X5_period
set_option maxRecDepth 20000 in
theorem ggL_law_X4_occurrences : GoodIn wsL_law wsX4_occurrences := goodIn_r _ [554, 18, 555, 556, 557, 2, 558, 17, 22, 559, 115, 116, 16, 117, 38, 39, 40, 41, 42, 118, 119, 120, 121, 122, 123, 32, 124, 97, 52, 125, 126, 127, 128, 129, 130, 131, 132, 203, 204, 205, 206, 139, 140, 141, 142, 143, 232, 233, 234, 21, 235, 236, 112, 49, 113, 237, 57, 238, 94, 95, 96, 239, 240, 241, 242, 56, 243, 244, 245, 246, 247, 99, 100, 101, 102, 103, 104, 105, 248, 249, 250, 251, 322, 323, 324, 325, 326, 219, 220, 221, 222, 223, 224, 225, 226, 227, 228, 229, 230, 48, 50, 231, 327, 253, 254, 255, 256, 257, 258, 259, 260, 261, 262, 263, 264, 265, 266, 267, 268, 269, 270, 271, 272, 273, 274, 275, 276, 277, 278, 279, 280, 281, 93, 701, 702, 703, 704, 705, 706, 707, 716, 717, 718, 719, 720, 721, 722, 723, 729, 730, 724, 725, 726] (by decide +kernel) (by decide +kernel)
set_option maxRecDepth 20000 in
theorem gL_law_X4_occurrences : GoodIn wsL_law (wsV RL 166 RX4 yX4_occurrences wsX4_occurrences) := goodIn_app (goodIn_of _ (by decide +kernel)) ggL_law_X4_occurrences
set_option maxRecDepth 20000 in
theorem ggL_law_X5_occurrences : GoodIn wsL_law wsX5_occurrences := goodIn_r _ [563, 564, 565, 566, 5, 567, 286, 287, 288, 289, 69, 294, 295, 296, 297, 384, 385, 386, 387, 166, 708, 709, 710, 711, 712, 713, 714, 715] (by decide +kernel) (by decide +kernel)
set_option maxRecDepth 20000 in
theorem gL_law_X5_occurrences : GoodIn wsL_law (wsV RL 169 RX5 yX5_occurrences wsX5_occurrences) := goodIn_app (goodIn_of _ (by decide +kernel)) ggL_law_X5_occurrences
set_option maxRecDepth 20000 in
theorem ggL_law_X4_occurrencesByTrying : GoodIn wsL_law wsX4_occurrencesByTrying := goodIn_r _ [571, 17, 572, 223, 224, 32, 225, 97, 478, 227, 228, 16, 229, 38, 39, 230, 48, 49, 50, 231, 94, 95, 96, 573, 574, 575, 2, 576, 93, 98, 99, 100, 101, 52, 102, 103, 104, 105, 701, 702, 703, 704, 705, 706, 707, 716, 717, 718, 719, 720, 721, 722, 723, 729, 730] (by decide +kernel) (by decide +kernel)
set_option maxRecDepth 20000 in
theorem gL_law_X4_occurrencesByTrying : GoodIn wsL_law (wsV RL 170 RX4 yX4_occurrencesByTrying wsX4_occurrencesByTrying) := goodIn_app (goodIn_of _ (by decide +kernel)) ggL_law_X4_occurrencesByTrying
set_option maxRecDepth 20000 in
theorem ggL_law_X5_occurrencesByTrying : GoodIn wsL_law wsX5_occurrencesByTrying := goodIn_r _ [580, 564, 565, 566, 5, 567, 286, 287, 288, 289, 69, 294, 295, 296, 297, 384, 385, 386, 387, 166, 708, 709, 710, 711, 712, 713, 714, 715] (by decide +kernel) (by decide +kernel)
set_option maxRecDepth 20000 in
theorem gL_law_X5_occurrencesByTrying : GoodIn wsL_law (wsV RL 173 RX5 yX5_occurrencesByTrying wsX5_occurrencesByTrying) := goodIn_app (goodIn_of _ (by decide +kernel)) ggL_law_X5_occurrencesByTrying
set_option maxRecDepth 20000 in
theorem ggL_law_X4_comparedWith : GoodIn wsL_law wsX4_comparedWith := goodIn_r _ [584, 18, 555, 556, 557, 2, 558, 17, 22, 559, 115, 116, 16, 117, 38, 39, 40, 41, 42, 118, 119, 120, 121, 122, 123, 32, 124, 97, 52, 125, 126, 127, 128, 129, 130, 131, 132, 203, 204, 205, 206, 139, 140, 141, 142, 143, 232, 233, 234, 21, 235, 236, 112, 49, 113, 237, 57, 238, 94, 95, 96, 239, 240, 241, 242, 56, 243, 244, 245, 246, 247, 99, 100, 101, 102, 103, 104, 105, 248, 249, 250, 251, 322, 323, 324, 325, 326, 219, 220, 221, 222, 223, 224, 225, 226, 227, 228, 229, 230, 48, 50, 231, 327, 253, 254, 255, 256, 257, 258, 259, 260, 261, 262, 263, 264, 265, 266, 267, 268, 269, 270, 271, 272, 273, 274, 275, 276, 277, 278, 279, 280, 281, 701, 702, 703, 704, 705, 706, 707, 716, 717, 718, 719, 720, 721, 722, 723, 729, 730, 724, 725, 726] (by decide +kernel) (by decide +kernel)
set_option maxRecDepth 20000 in
theorem gL_law_X4_comparedWith : GoodIn wsL_law (wsV RL 174 RX4 yX4_comparedWith wsX4_comparedWith) := goodIn_app (goodIn_of _ (by decide +kernel)) ggL_law_X4_comparedWith
set_option maxRecDepth 20000 in
theorem ggL_law_X5_comparedWith : GoodIn wsL_law wsX5_comparedWith := goodIn_r _ [588, 166, 69, 286, 287, 288, 5, 289, 294, 295, 296, 297, 298, 299, 300, 301, 302, 303, 304, 305, 306, 307, 308, 309, 310, 311, 312, 313, 314, 315, 316, 317, 708, 709, 710, 711, 712, 713, 714, 715] (by decide +kernel) (by decide +kernel)
set_option maxRecDepth 20000 in
theorem gL_law_X5_comparedWith : GoodIn wsL_law (wsV RL 177 RX5 yX5_comparedWith wsX5_comparedWith) := goodIn_app (goodIn_of _ (by decide +kernel)) ggL_law_X5_comparedWith
set_option maxRecDepth 20000 in
theorem ggL_law_L_differenceAt : GoodIn wsL_law wsL_differenceAt := goodIn_ca (goodIn_ca (goodIn_r _ [591, 343, 78, 592, 593, 594, 2, 595, 352, 353, 87, 88, 17, 478, 227, 228, 16, 229, 38, 39, 230, 48, 49, 50, 231, 94, 95, 32, 96, 97, 572, 223, 224, 225, 596, 257, 258, 259, 260, 99, 100, 101, 52, 102, 103, 104, 105, 701, 702, 703, 704, 705, 706, 707, 716, 717, 718, 719, 720, 721, 722, 723, 729, 730] (by decide +kernel) (by decide +kernel)) (goodIn_sub (fun _ h => List.mem_append_left _ (List.mem_append_right _ h)) (by decide +kernel))) (goodIn_sub (fun _ h => List.mem_append_left _ (List.mem_append_left _ (List.mem_append_right _ h))) (by decide +kernel))
set_option maxRecDepth 20000 in
theorem gL_law_L_differenceAt : GoodIn wsL_law (va_wsS RL 178 yL_differenceAt wsL_differenceAt) := goodIn_app (goodIn_of _ (by decide +kernel)) ggL_law_L_differenceAt
set_option maxRecDepth 20000 in
theorem ggL_law_X5_differenceAt : GoodIn wsL_law wsX5_differenceAt := goodIn_r _ [600, 69, 162, 163, 164, 5, 165, 166, 294, 295, 296, 297, 384, 385, 386, 387, 708, 709, 710, 711, 712, 713, 714, 715] (by decide +kernel) (by decide +kernel)
set_option maxRecDepth 20000 in
theorem gL_law_X5_differenceAt : GoodIn wsL_law (wsV RL 180 RX5 yX5_differenceAt wsX5_differenceAt) := goodIn_app (goodIn_of _ (by decide +kernel)) ggL_law_X5_differenceAt
set_option maxRecDepth 20000 in
theorem ggL_law_L_appendText : GoodIn wsL_law wsL_appendText := goodIn_ca (goodIn_ca (goodIn_r _ [603, 344, 78, 604, 605, 606, 2, 607, 358, 359, 87, 88, 33, 608, 609, 610, 611, 612, 613, 614, 615, 616, 617, 93, 94, 95, 32, 96, 97, 138, 130, 131, 132, 52, 701, 702, 703, 704, 705, 706, 707, 729, 730] (by decide +kernel) (by decide +kernel)) (goodIn_sub (fun _ h => List.mem_append_right _ h) (by decide +kernel))) (goodIn_sub (fun _ h => List.mem_append_left _ (List.mem_append_left _ (List.mem_append_right _ h))) (by decide +kernel))
set_option maxRecDepth 20000 in
theorem gL_law_L_appendText : GoodIn wsL_law (va_wsS RL 183 yL_appendText wsL_appendText) := goodIn_app (goodIn_of _ (by decide +kernel)) ggL_law_L_appendText
set_option maxRecDepth 20000 in
theorem ggL_law_X5_appendText : GoodIn wsL_law wsX5_appendText := goodIn_r _ [621, 622, 623, 624, 152, 166, 73, 159, 160, 5, 161, 162, 163, 164, 165, 708, 709, 710, 711, 712, 713, 714, 715] (by decide +kernel) (by decide +kernel)
set_option maxRecDepth 20000 in
theorem gL_law_X5_appendText : GoodIn wsL_law (wsV RL 186 RX5 yX5_appendText wsX5_appendText) := goodIn_app (goodIn_of _ (by decide +kernel)) ggL_law_X5_appendText
set_option maxRecDepth 20000 in
theorem ggL_law_X4_clearText : GoodIn wsL_law wsX4_clearText := goodIn_r _ [628, 33, 93, 94, 95, 32, 96, 97, 137, 126, 127, 128, 701, 702, 703, 704, 705, 706, 707, 729, 730] (by decide +kernel) (by decide +kernel)
set_option maxRecDepth 20000 in
theorem gL_law_X4_clearText : GoodIn wsL_law (wsV RL 187 RX4 yX4_clearText wsX4_clearText) := goodIn_app (goodIn_of _ (by decide +kernel)) ggL_law_X4_clearText
set_option maxRecDepth 20000 in
theorem ggL_law_X5_clearText : GoodIn wsL_law wsX5_clearText := goodIn_r _ [632, 166, 152, 708, 709, 710, 711, 712, 713, 714, 715] (by decide +kernel) (by decide +kernel)
set_option maxRecDepth 20000 in
theorem gL_law_X5_clearText : GoodIn wsL_law (wsV RL 190 RX5 yX5_clearText wsX5_clearText) := goodIn_app (goodIn_of _ (by decide +kernel)) ggL_law_X5_clearText
set_option maxRecDepth 20000 in
theorem ggL_law_X4_textLength : GoodIn wsL_law wsX4_textLength := goodIn_r _ [636, 33, 93, 94, 95, 32, 96, 97, 701, 702, 703, 704, 705, 706, 707, 729, 730] (by decide +kernel) (by decide +kernel)
set_option maxRecDepth 20000 in
theorem gL_law_X4_textLength : GoodIn wsL_law (wsV RL 191 RX4 yX4_textLength wsX4_textLength) := goodIn_app (goodIn_of _ (by decide +kernel)) ggL_law_X4_textLength
set_option maxRecDepth 20000 in
theorem ggL_law_X5_textLength : GoodIn wsL_law wsX5_textLength := goodIn_r _ [640, 152, 384, 385, 386, 5, 387, 166, 708, 709, 710, 711, 712, 713, 714, 715] (by decide +kernel) (by decide +kernel)
set_option maxRecDepth 20000 in
theorem gL_law_X5_textLength : GoodIn wsL_law (wsV RL 194 RX5 yX5_textLength wsX5_textLength) := goodIn_app (goodIn_of _ (by decide +kernel)) ggL_law_X5_textLength
set_option maxRecDepth 20000 in
theorem ggL_law_X4_textError : GoodIn wsL_law wsX4_textError := goodIn_r _ [92, 33, 93, 94, 95, 32, 96, 97, 98, 99, 100, 101, 52, 102, 103, 104, 105, 701, 702, 703, 704, 705, 706, 707, 729, 730] (by decide +kernel) (by decide +kernel)
set_option maxRecDepth 20000 in
theorem gL_law_X4_textError : GoodIn wsL_law (wsV RL 195 RX4 yX4_textError wsX4_textError) := goodIn_app (goodIn_of _ (by decide +kernel)) ggL_law_X4_textError
set_option maxRecDepth 20000 in
theorem ggL_law_X5_textError : GoodIn wsL_law wsX5_textError := goodIn_r _ [645, 153, 154, 155, 5, 156, 152, 73, 157, 158, 159, 160, 161, 384, 385, 386, 387, 166, 708, 709, 710, 711, 712, 713, 714, 715] (by decide +kernel) (by decide +kernel)
set_option maxRecDepth 20000 in
theorem gL_law_X5_textError : GoodIn wsL_law (wsV RL 198 RX5 yX5_textError wsX5_textError) := goodIn_app (goodIn_of _ (by decide +kernel)) ggL_law_X5_textError
set_option maxRecDepth 20000 in
theorem ggL_law_L_undo : GoodIn wsL_law wsL_undo := goodIn_ca (goodIn_r _ [648, 78, 649, 650, 651, 2, 652, 87, 88, 26, 17, 653, 654, 655, 25, 656, 110, 657, 658, 659, 660, 63, 114, 115, 116, 16, 117, 38, 39, 40, 41, 42, 118, 119, 120, 121, 122, 123, 32, 124, 97, 52, 125, 126, 127, 128, 129, 130, 131, 132, 701, 702, 703, 704, 705, 706, 707, 727, 728, 716, 717, 718, 719, 720, 721, 722, 723, 729, 730] (by decide +kernel) (by decide +kernel)) (goodIn_sub (fun _ h => List.mem_append_left _ (List.mem_append_left _ (List.mem_append_right _ h))) (by decide +kernel))
set_option maxRecDepth 20000 in
theorem gL_law_L_undo : GoodIn wsL_law (va_wsS RL 199 yL_undo wsL_undo) := goodIn_app (goodIn_of _ (by decide +kernel)) ggL_law_L_undo
set_option maxRecDepth 20000 in
theorem ggL_law_X5_undo : GoodIn wsL_law wsX5_undo := goodIn_r _ [664, 171, 166, 69, 70, 162, 163, 164, 5, 165, 708, 709, 710, 711, 712, 713, 714, 715] (by decide +kernel) (by decide +kernel)
set_option maxRecDepth 20000 in
theorem gL_law_X5_undo : GoodIn wsL_law (wsV RL 201 RX5 yX5_undo wsX5_undo) := goodIn_app (goodIn_of _ (by decide +kernel)) ggL_law_X5_undo
set_option maxRecDepth 20000 in
theorem ggL_law_X4_undoCount : GoodIn wsL_law wsX4_undoCount := goodIn_r _ [668, 26, 653, 654, 655, 25, 656, 110, 701, 702, 703, 704, 705, 706, 707, 727, 728] (by decide +kernel) (by decide +kernel)
set_option maxRecDepth 20000 in
theorem gL_law_X4_undoCount : GoodIn wsL_law (wsV RL 202 RX4 yX4_undoCount wsX4_undoCount) := goodIn_app (goodIn_of _ (by decide +kernel)) ggL_law_X4_undoCount
set_option maxRecDepth 20000 in
theorem ggL_law_X5_undoCount : GoodIn wsL_law wsX5_undoCount := goodIn_r _ [672, 171, 384, 385, 386, 5, 387, 166, 708, 709, 710, 711, 712, 713, 714, 715] (by decide +kernel) (by decide +kernel)
set_option maxRecDepth 20000 in
theorem gL_law_X5_undoCount : GoodIn wsL_law (wsV RL 205 RX5 yX5_undoCount wsX5_undoCount) := goodIn_app (goodIn_of _ (by decide +kernel)) ggL_law_X5_undoCount
set_option maxRecDepth 20000 in
theorem ggL_law_L_saveState : GoodIn wsL_law wsL_saveState := goodIn_ca (goodIn_r _ [675, 343, 676, 677, 678, 2, 679, 27, 17, 29, 680, 681, 682, 352, 353, 559, 115, 116, 16, 117, 38, 39, 40, 41, 42, 118, 119, 120, 121, 122, 123, 32, 124, 97, 52, 125, 126, 127, 128, 129, 130, 131, 132, 93, 94, 95, 96, 701, 702, 703, 704, 705, 706, 707, 716, 717, 718, 719, 720, 721, 722, 723, 729, 730] (by decide +kernel) (by decide +kernel)) (goodIn_sub (fun _ h => List.mem_append_left _ (List.mem_append_right _ h)) (by decide +kernel))
set_option maxRecDepth 20000 in
theorem gL_law_L_saveState : GoodIn wsL_law (va_wsS RL 206 yL_saveState wsL_saveState) := goodIn_app (goodIn_of _ (by decide +kernel)) ggL_law_L_saveState
set_option maxRecDepth 20000 in
theorem ggL_law_X5_saveState : GoodIn wsL_law wsX5_saveState := goodIn_r _ [686, 71, 69, 72, 687, 688, 5, 689, 162, 163, 164, 165, 166, 384, 385, 386, 387, 708, 709, 710, 711, 712, 713, 714, 715] (by decide +kernel) (by decide +kernel)
set_option maxRecDepth 20000 in
theorem gL_law_X5_saveState : GoodIn wsL_law (wsV RL 208 RX5 yX5_saveState wsX5_saveState) := goodIn_app (goodIn_of _ (by decide +kernel)) ggL_law_X5_saveState
set_option maxRecDepth 20000 in
theorem ggL_law_L_loadState : GoodIn wsL_law wsL_loadState := goodIn_ca (goodIn_ca (goodIn_r _ [692, 343, 78, 693, 694, 695, 2, 696, 87, 88, 29, 26, 17, 27, 680, 681, 682, 352, 353, 106, 107, 108, 25, 109, 63, 110, 111, 112, 49, 113, 114, 115, 116, 16, 117, 38, 39, 40, 41, 42, 118, 119, 120, 121, 122, 123, 32, 124, 97, 52, 125, 126, 127, 128, 129, 130, 131, 132, 559, 93, 94, 95, 96, 701, 702, 703, 704, 705, 706, 707, 716, 717, 718, 719, 720, 721, 722, 723, 727, 728, 729, 730] (by decide +kernel) (by decide +kernel)) (goodIn_sub (fun _ h => List.mem_append_left _ (List.mem_append_left _ (List.mem_append_right _ h))) (by decide +kernel))) (goodIn_sub (fun _ h => List.mem_append_left _ (List.mem_append_right _ h)) (by decide +kernel))
set_option maxRecDepth 20000 in
theorem gL_law_L_loadState : GoodIn wsL_law (va_wsS RL 209 yL_loadState wsL_loadState) := goodIn_app (goodIn_of _ (by decide +kernel)) ggL_law_L_loadState
set_option maxRecDepth 20000 in
theorem ggL_law_X5_loadState : GoodIn wsL_law wsX5_loadState := goodIn_r _ [700, 72, 69, 71, 687, 688, 5, 689, 162, 163, 164, 165, 166, 167, 168, 169, 170, 171, 70, 708, 709, 710, 711, 712, 713, 714, 715] (by decide +kernel) (by decide +kernel)
set_option maxRecDepth 20000 in
theorem gL_law_X5_loadState : GoodIn wsL_law (wsV RL 211 RX5 yX5_loadState wsX5_loadState) := goodIn_app (goodIn_of _ (by decide +kernel)) ggL_law_X5_loadState

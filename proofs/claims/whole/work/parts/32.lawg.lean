/-! the words of the law's calls -/
set_option maxRecDepth 20000 in
theorem ggL_law_X4_init : GoodIn wsL_law wsX4_init := goodIn_r _ [10, 11, 12, 13, 14, 15, 16, 17, 18, 19, 20, 21, 22, 23, 24, 25, 26, 27, 28, 29, 30, 31, 32, 33, 34, 35, 36, 37, 38, 39, 40, 41, 42, 43, 44, 45, 46, 47, 48, 49, 50, 51, 52, 53, 54, 55, 56, 57, 58, 59, 60, 61, 62, 63, 64, 717, 718, 719, 720, 721, 722, 723, 724, 702, 703, 704, 705, 706, 707, 708, 725, 726, 727, 728, 729, 730, 731, 732] (by decide +kernel) (by decide +kernel)
set_option maxRecDepth 20000 in
theorem gL_law_X4_init : GoodIn wsL_law (wsX4_init) := ggL_law_X4_init
set_option maxRecDepth 20000 in
theorem ggL_law_X5_init : GoodIn wsL_law wsX5_init := goodIn_r _ [67, 68, 12, 13, 51, 69, 70, 71, 72, 73, 709, 710, 711, 712, 713, 714, 715, 716] (by decide +kernel) (by decide +kernel)
set_option maxRecDepth 20000 in
theorem gL_law_X5_init : GoodIn wsL_law (wsX5_init) := ggL_law_X5_init
set_option maxRecDepth 20000 in
theorem ggL_law_L_takeLine : GoodIn wsL_law wsL_takeLine := goodIn_ca (goodIn_r _ [77, 78, 79, 80, 81, 2, 82, 26, 17, 83, 84, 85, 86, 87, 88, 33, 89, 90, 91, 92, 93, 94, 95, 32, 96, 97, 98, 99, 100, 101, 52, 102, 103, 104, 105, 106, 107, 108, 25, 109, 63, 110, 111, 112, 113, 49, 114, 115, 116, 117, 16, 118, 38, 39, 40, 41, 42, 119, 120, 121, 122, 123, 124, 125, 126, 127, 128, 129, 130, 131, 132, 133, 134, 135, 136, 137, 138, 139, 140, 141, 142, 143, 144, 702, 703, 704, 705, 706, 707, 708, 717, 718, 719, 720, 721, 722, 723, 724, 731, 732, 728, 729, 730] (by decide +kernel) (by decide +kernel)) (goodIn_sub (fun _ h => List.mem_append_left _ (List.mem_append_left _ (List.mem_append_right _ h))) (by decide +kernel))
set_option maxRecDepth 20000 in
theorem gL_law_L_takeLine : GoodIn wsL_law (va_wsS RL 71 yL_takeLine wsL_takeLine) := goodIn_app (goodIn_of _ (by decide +kernel)) ggL_law_L_takeLine
set_option maxRecDepth 20000 in
theorem ggL_law_X5_takeLine : GoodIn wsL_law wsX5_takeLine := goodIn_r _ [148, 149, 150, 151, 5, 152, 153, 154, 155, 156, 157, 73, 158, 159, 160, 161, 162, 163, 164, 165, 166, 167, 168, 169, 170, 171, 172, 70, 69, 173, 174, 175, 176, 177, 178, 179, 180, 709, 710, 711, 712, 713, 714, 715, 716] (by decide +kernel) (by decide +kernel)
set_option maxRecDepth 20000 in
theorem gL_law_X5_takeLine : GoodIn wsL_law (wsV RL 76 RX5 yX5_takeLine wsX5_takeLine) := goodIn_app (goodIn_of _ (by decide +kernel)) ggL_law_X5_takeLine
set_option maxRecDepth 20000 in
theorem ggL_law_X5_thrown : GoodIn wsL_law wsX5_thrown := goodIn_r _ [184, 167, 709, 710, 711, 712, 713, 714, 715, 716] (by decide +kernel) (by decide +kernel)
set_option maxRecDepth 20000 in
theorem gL_law_X5_thrown : GoodIn wsL_law (wsV RL 77 RX5 yX5_thrown wsX5_thrown) := goodIn_app (goodIn_of _ (by decide +kernel)) ggL_law_X5_thrown
set_option maxRecDepth 20000 in
theorem ggL_law_L_takeWord : GoodIn wsL_law wsL_takeWord := goodIn_ca (goodIn_r _ [187, 78, 188, 189, 190, 2, 191, 26, 17, 83, 84, 85, 86, 87, 88, 33, 89, 90, 91, 92, 93, 94, 95, 32, 96, 97, 98, 99, 100, 101, 52, 102, 103, 104, 105, 106, 107, 108, 25, 109, 63, 110, 111, 112, 113, 49, 114, 115, 116, 117, 16, 118, 38, 39, 40, 41, 42, 119, 120, 121, 122, 123, 124, 125, 126, 127, 128, 129, 130, 131, 132, 133, 134, 135, 136, 137, 138, 139, 140, 141, 142, 143, 144, 702, 703, 704, 705, 706, 707, 708, 717, 718, 719, 720, 721, 722, 723, 724, 731, 732, 728, 729, 730] (by decide +kernel) (by decide +kernel)) (goodIn_sub (fun _ h => List.mem_append_left _ (List.mem_append_left _ (List.mem_append_right _ h))) (by decide +kernel))
set_option maxRecDepth 20000 in
theorem gL_law_L_takeWord : GoodIn wsL_law (va_wsS RL 80 yL_takeWord wsL_takeWord) := goodIn_app (goodIn_of _ (by decide +kernel)) ggL_law_L_takeWord
set_option maxRecDepth 20000 in
theorem ggL_law_X5_takeWord : GoodIn wsL_law wsX5_takeWord := goodIn_r _ [195, 149, 150, 151, 5, 152, 153, 154, 155, 156, 157, 73, 158, 159, 160, 161, 162, 163, 164, 165, 166, 167, 168, 169, 170, 171, 172, 70, 69, 173, 174, 175, 176, 177, 178, 179, 180, 709, 710, 711, 712, 713, 714, 715, 716] (by decide +kernel) (by decide +kernel)
set_option maxRecDepth 20000 in
theorem gL_law_X5_takeWord : GoodIn wsL_law (wsV RL 82 RX5 yX5_takeWord wsX5_takeWord) := goodIn_app (goodIn_of _ (by decide +kernel)) ggL_law_X5_takeWord
set_option maxRecDepth 20000 in
theorem ggL_law_X4_setRules : GoodIn wsL_law wsX4_setRules := goodIn_r _ [199, 26, 17, 106, 107, 108, 25, 109, 63, 110, 111, 112, 113, 49, 114, 115, 116, 117, 16, 118, 38, 39, 40, 41, 42, 119, 120, 121, 122, 123, 124, 32, 125, 97, 52, 126, 127, 128, 129, 130, 131, 132, 133, 200, 201, 202, 203, 204, 205, 206, 207, 140, 141, 142, 143, 144, 702, 703, 704, 705, 706, 707, 708, 728, 729, 730, 717, 718, 719, 720, 721, 722, 723, 724, 731, 732] (by decide +kernel) (by decide +kernel)
set_option maxRecDepth 20000 in
theorem gL_law_X4_setRules : GoodIn wsL_law (wsV RL 83 RX4 yX4_setRules wsX4_setRules) := goodIn_app (goodIn_of _ (by decide +kernel)) ggL_law_X4_setRules
set_option maxRecDepth 20000 in
theorem ggL_law_X5_setRules : GoodIn wsL_law wsX5_setRules := goodIn_r _ [211, 69, 168, 169, 170, 5, 171, 167, 172, 70, 177, 178, 179, 180, 709, 710, 711, 712, 713, 714, 715, 716] (by decide +kernel) (by decide +kernel)
set_option maxRecDepth 20000 in
theorem gL_law_X5_setRules : GoodIn wsL_law (wsV RL 87 RX5 yX5_setRules wsX5_setRules) := goodIn_app (goodIn_of _ (by decide +kernel)) ggL_law_X5_setRules
set_option maxRecDepth 20000 in
theorem ggL_law_L_look : GoodIn wsL_law wsL_look := goodIn_ca (goodIn_r _ [214, 78, 215, 216, 217, 2, 218, 87, 88, 17, 26, 22, 219, 220, 221, 16, 222, 39, 119, 223, 224, 225, 32, 226, 97, 227, 228, 229, 230, 38, 231, 48, 49, 50, 232, 94, 95, 96, 106, 107, 108, 25, 109, 63, 110, 111, 112, 113, 114, 115, 116, 117, 118, 40, 41, 42, 120, 121, 122, 123, 124, 125, 52, 126, 127, 128, 129, 130, 131, 132, 133, 233, 234, 235, 21, 236, 237, 238, 57, 239, 240, 241, 242, 243, 56, 244, 245, 246, 247, 248, 99, 100, 101, 102, 103, 104, 105, 249, 250, 251, 252, 253, 254, 255, 256, 257, 258, 259, 260, 261, 262, 263, 264, 265, 266, 267, 268, 269, 270, 271, 272, 273, 274, 275, 276, 277, 278, 279, 280, 281, 282, 702, 703, 704, 705, 706, 707, 708, 717, 718, 719, 720, 721, 722, 723, 724, 731, 732, 728, 729, 730, 725, 726, 727] (by decide +kernel) (by decide +kernel)) (goodIn_sub (fun _ h => List.mem_append_left _ (List.mem_append_left _ (List.mem_append_right _ h))) (by decide +kernel))
set_option maxRecDepth 20000 in
theorem gL_law_L_look : GoodIn wsL_law (va_wsS RL 88 yL_look wsL_look) := goodIn_app (goodIn_of _ (by decide +kernel)) ggL_law_L_look
set_option maxRecDepth 20000 in
theorem ggL_law_X5_look : GoodIn wsL_law wsX5_look := goodIn_r _ [286, 69, 287, 288, 289, 5, 290, 163, 164, 165, 166, 167, 168, 169, 170, 171, 172, 70, 291, 292, 293, 294, 295, 296, 297, 298, 299, 300, 301, 302, 303, 304, 305, 306, 307, 308, 309, 310, 311, 312, 313, 314, 315, 316, 317, 318, 709, 710, 711, 712, 713, 714, 715, 716] (by decide +kernel) (by decide +kernel)
set_option maxRecDepth 20000 in
theorem gL_law_X5_look : GoodIn wsL_law (wsV RL 90 RX5 yX5_look wsX5_look) := goodIn_app (goodIn_of _ (by decide +kernel)) ggL_law_X5_look
set_option maxRecDepth 20000 in
theorem ggL_law_X4_finish : GoodIn wsL_law wsX4_finish := goodIn_r _ [322, 26, 17, 22, 106, 107, 108, 25, 109, 63, 110, 111, 112, 113, 49, 114, 115, 116, 117, 16, 118, 38, 39, 40, 41, 42, 119, 120, 121, 122, 123, 124, 32, 125, 97, 52, 126, 127, 128, 129, 130, 131, 132, 133, 233, 234, 235, 21, 236, 237, 238, 57, 239, 94, 95, 96, 240, 241, 242, 243, 56, 244, 245, 246, 247, 248, 99, 100, 101, 102, 103, 104, 105, 249, 250, 251, 252, 323, 324, 325, 326, 327, 220, 221, 222, 223, 224, 225, 226, 227, 228, 229, 230, 231, 48, 50, 232, 328, 254, 255, 256, 257, 258, 259, 260, 261, 262, 263, 264, 265, 266, 267, 268, 269, 270, 271, 272, 273, 274, 275, 276, 277, 278, 279, 280, 281, 282, 702, 703, 704, 705, 706, 707, 708, 717, 718, 719, 720, 721, 722, 723, 724, 728, 729, 730, 731, 732, 725, 726, 727] (by decide +kernel) (by decide +kernel)
set_option maxRecDepth 20000 in
theorem gL_law_X4_finish : GoodIn wsL_law (wsV RL 91 RX4 yX4_finish wsX4_finish) := goodIn_app (goodIn_of _ (by decide +kernel)) ggL_law_X4_finish
set_option maxRecDepth 20000 in
theorem ggL_law_X5_finish : GoodIn wsL_law wsX5_finish := goodIn_r _ [332, 69, 168, 169, 170, 5, 171, 167, 172, 70, 287, 288, 289, 290, 291, 292, 293, 294, 295, 296, 297, 298, 299, 300, 301, 302, 303, 304, 305, 306, 307, 308, 309, 310, 311, 312, 313, 314, 315, 316, 317, 318, 709, 710, 711, 712, 713, 714, 715, 716] (by decide +kernel) (by decide +kernel)
set_option maxRecDepth 20000 in
theorem gL_law_X5_finish : GoodIn wsL_law (wsV RL 94 RX5 yX5_finish wsX5_finish) := goodIn_app (goodIn_of _ (by decide +kernel)) ggL_law_X5_finish
set_option maxRecDepth 20000 in
theorem ggL_law_X4_rewind : GoodIn wsL_law wsX4_rewind := goodIn_r _ [336, 26, 17, 106, 107, 108, 25, 109, 63, 110, 111, 112, 113, 49, 114, 115, 116, 117, 16, 118, 38, 39, 40, 41, 42, 119, 120, 121, 122, 123, 124, 32, 125, 97, 52, 126, 127, 128, 129, 130, 131, 132, 133, 140, 141, 142, 143, 144, 702, 703, 704, 705, 706, 707, 708, 717, 718, 719, 720, 721, 722, 723, 724, 728, 729, 730, 731, 732] (by decide +kernel) (by decide +kernel)
set_option maxRecDepth 20000 in
theorem gL_law_X4_rewind : GoodIn wsL_law (wsV RL 95 RX4 yX4_rewind wsX4_rewind) := goodIn_app (goodIn_of _ (by decide +kernel)) ggL_law_X4_rewind
set_option maxRecDepth 20000 in
theorem ggL_law_X5_rewind : GoodIn wsL_law wsX5_rewind := goodIn_r _ [340, 69, 168, 169, 170, 5, 171, 167, 172, 70, 177, 178, 179, 180, 709, 710, 711, 712, 713, 714, 715, 716] (by decide +kernel) (by decide +kernel)
set_option maxRecDepth 20000 in
theorem gL_law_X5_rewind : GoodIn wsL_law (wsV RL 98 RX5 yX5_rewind wsX5_rewind) := goodIn_app (goodIn_of _ (by decide +kernel)) ggL_law_X5_rewind
set_option maxRecDepth 20000 in
theorem ggL_law_L_setLetter : GoodIn wsL_law wsL_setLetter := goodIn_ca (goodIn_ca (goodIn_r _ [343, 344, 345, 346, 347, 348, 2, 349, 17, 26, 350, 351, 352, 353, 354, 355, 103, 104, 32, 105, 97, 356, 357, 358, 359, 360, 106, 107, 108, 25, 109, 63, 110, 111, 112, 113, 49, 114, 115, 116, 117, 16, 118, 38, 39, 40, 41, 42, 119, 120, 121, 122, 123, 124, 125, 52, 126, 127, 128, 129, 130, 131, 132, 133, 98, 99, 100, 101, 102, 361, 362, 363, 364, 140, 141, 142, 143, 144, 702, 703, 704, 705, 706, 707, 708, 717, 718, 719, 720, 721, 722, 723, 724, 731, 732, 728, 729, 730] (by decide +kernel) (by decide +kernel)) (goodIn_sub (fun _ h => List.mem_append_left _ (List.mem_append_right _ h)) (by decide +kernel))) (goodIn_sub (fun _ h => List.mem_append_right _ h) (by decide +kernel))
set_option maxRecDepth 20000 in
theorem gL_law_L_setLetter : GoodIn wsL_law (va_wsS RL 99 yL_setLetter wsL_setLetter) := goodIn_app (goodIn_of _ (by decide +kernel)) ggL_law_L_setLetter
set_option maxRecDepth 20000 in
theorem ggL_law_X5_setLetter : GoodIn wsL_law wsX5_setLetter := goodIn_r _ [368, 69, 369, 370, 371, 5, 372, 160, 161, 162, 163, 164, 165, 166, 167, 373, 374, 375, 376, 168, 169, 170, 171, 172, 70, 177, 178, 179, 180, 709, 710, 711, 712, 713, 714, 715, 716] (by decide +kernel) (by decide +kernel)
set_option maxRecDepth 20000 in
theorem gL_law_X5_setLetter : GoodIn wsL_law (wsV RL 102 RX5 yX5_setLetter wsX5_setLetter) := goodIn_app (goodIn_of _ (by decide +kernel)) ggL_law_X5_setLetter
set_option maxRecDepth 20000 in
theorem ggL_law_X4_lineLength : GoodIn wsL_law wsX4_lineLength := goodIn_r _ [380, 17, 93, 94, 95, 32, 96, 97, 702, 703, 704, 705, 706, 707, 708, 717, 718, 719, 720, 721, 722, 723, 724, 731, 732] (by decide +kernel) (by decide +kernel)
set_option maxRecDepth 20000 in
theorem gL_law_X4_lineLength : GoodIn wsL_law (wsV RL 103 RX4 yX4_lineLength wsX4_lineLength) := goodIn_app (goodIn_of _ (by decide +kernel)) ggL_law_X4_lineLength
set_option maxRecDepth 20000 in
theorem ggL_law_X5_lineLength : GoodIn wsL_law wsX5_lineLength := goodIn_r _ [384, 69, 385, 386, 387, 5, 388, 167, 709, 710, 711, 712, 713, 714, 715, 716] (by decide +kernel) (by decide +kernel)
set_option maxRecDepth 20000 in
theorem gL_law_X5_lineLength : GoodIn wsL_law (wsV RL 106 RX5 yX5_lineLength wsX5_lineLength) := goodIn_app (goodIn_of _ (by decide +kernel)) ggL_law_X5_lineLength
set_option maxRecDepth 20000 in
theorem ggL_law_X4_wordLength : GoodIn wsL_law wsX4_wordLength := goodIn_r _ [392, 17, 93, 94, 95, 32, 96, 97, 702, 703, 704, 705, 706, 707, 708, 717, 718, 719, 720, 721, 722, 723, 724, 731, 732] (by decide +kernel) (by decide +kernel)
set_option maxRecDepth 20000 in
theorem gL_law_X4_wordLength : GoodIn wsL_law (wsV RL 107 RX4 yX4_wordLength wsX4_wordLength) := goodIn_app (goodIn_of _ (by decide +kernel)) ggL_law_X4_wordLength
set_option maxRecDepth 20000 in
theorem ggL_law_X5_wordLength : GoodIn wsL_law wsX5_wordLength := goodIn_r _ [396, 69, 385, 386, 387, 5, 388, 167, 709, 710, 711, 712, 713, 714, 715, 716] (by decide +kernel) (by decide +kernel)
set_option maxRecDepth 20000 in
theorem gL_law_X5_wordLength : GoodIn wsL_law (wsV RL 110 RX5 yX5_wordLength wsX5_wordLength) := goodIn_app (goodIn_of _ (by decide +kernel)) ggL_law_X5_wordLength
set_option maxRecDepth 20000 in
theorem ggL_law_L_lineLetter : GoodIn wsL_law wsL_lineLetter := goodIn_ca (goodIn_r _ [399, 344, 400, 401, 402, 2, 403, 17, 350, 351, 352, 353, 354, 355, 103, 104, 32, 105, 97, 98, 99, 100, 101, 52, 102, 702, 703, 704, 705, 706, 707, 708, 717, 718, 719, 720, 721, 722, 723, 724, 731, 732] (by decide +kernel) (by decide +kernel)) (goodIn_sub (fun _ h => List.mem_append_left _ (List.mem_append_right _ h)) (by decide +kernel))
set_option maxRecDepth 20000 in
theorem gL_law_L_lineLetter : GoodIn wsL_law (va_wsS RL 111 yL_lineLetter wsL_lineLetter) := goodIn_app (goodIn_of _ (by decide +kernel)) ggL_law_L_lineLetter
set_option maxRecDepth 20000 in
theorem ggL_law_X5_lineLetter : GoodIn wsL_law wsX5_lineLetter := goodIn_r _ [407, 69, 369, 370, 371, 5, 372, 160, 161, 162, 385, 386, 387, 388, 167, 163, 164, 165, 166, 709, 710, 711, 712, 713, 714, 715, 716] (by decide +kernel) (by decide +kernel)
set_option maxRecDepth 20000 in
theorem gL_law_X5_lineLetter : GoodIn wsL_law (wsV RL 114 RX5 yX5_lineLetter wsX5_lineLetter) := goodIn_app (goodIn_of _ (by decide +kernel)) ggL_law_X5_lineLetter
set_option maxRecDepth 20000 in
theorem ggL_law_L_wordLetter : GoodIn wsL_law wsL_wordLetter := goodIn_ca (goodIn_r _ [410, 344, 411, 412, 413, 2, 414, 17, 350, 351, 352, 353, 354, 355, 103, 104, 32, 105, 97, 98, 99, 100, 101, 52, 102, 702, 703, 704, 705, 706, 707, 708, 717, 718, 719, 720, 721, 722, 723, 724, 731, 732] (by decide +kernel) (by decide +kernel)) (goodIn_sub (fun _ h => List.mem_append_left _ (List.mem_append_right _ h)) (by decide +kernel))
set_option maxRecDepth 20000 in
theorem gL_law_L_wordLetter : GoodIn wsL_law (va_wsS RL 115 yL_wordLetter wsL_wordLetter) := goodIn_app (goodIn_of _ (by decide +kernel)) ggL_law_L_wordLetter
set_option maxRecDepth 20000 in
theorem ggL_law_X5_wordLetter : GoodIn wsL_law wsX5_wordLetter := goodIn_r _ [418, 69, 419, 420, 421, 5, 422, 160, 161, 162, 385, 386, 387, 388, 167, 163, 164, 165, 166, 709, 710, 711, 712, 713, 714, 715, 716] (by decide +kernel) (by decide +kernel)
set_option maxRecDepth 20000 in
theorem gL_law_X5_wordLetter : GoodIn wsL_law (wsV RL 117 RX5 yX5_wordLetter wsX5_wordLetter) := goodIn_app (goodIn_of _ (by decide +kernel)) ggL_law_X5_wordLetter
set_option maxRecDepth 20000 in
theorem ggL_law_X4_place : GoodIn wsL_law wsX4_place := goodIn_r _ [426, 17, 702, 703, 704, 705, 706, 707, 708, 717, 718, 719, 720, 721, 722, 723, 724] (by decide +kernel) (by decide +kernel)
set_option maxRecDepth 20000 in
theorem gL_law_X4_place : GoodIn wsL_law (wsV RL 118 RX4 yX4_place wsX4_place) := goodIn_app (goodIn_of _ (by decide +kernel)) ggL_law_X4_place
set_option maxRecDepth 20000 in
theorem ggL_law_X5_place : GoodIn wsL_law wsX5_place := goodIn_r _ [430, 69, 385, 386, 387, 5, 388, 167, 709, 710, 711, 712, 713, 714, 715, 716] (by decide +kernel) (by decide +kernel)
set_option maxRecDepth 20000 in
theorem gL_law_X5_place : GoodIn wsL_law (wsV RL 121 RX5 yX5_place wsX5_place) := goodIn_app (goodIn_of _ (by decide +kernel)) ggL_law_X5_place
set_option maxRecDepth 20000 in
theorem ggL_law_X4_isOver : GoodIn wsL_law wsX4_isOver := goodIn_r _ [434, 17, 219, 220, 221, 16, 222, 39, 119, 223, 224, 225, 32, 226, 97, 227, 228, 229, 230, 38, 231, 48, 49, 50, 232, 94, 95, 96, 702, 703, 704, 705, 706, 707, 708, 717, 718, 719, 720, 721, 722, 723, 724, 731, 732] (by decide +kernel) (by decide +kernel)
set_option maxRecDepth 20000 in
theorem gL_law_X4_isOver : GoodIn wsL_law (wsV RL 122 RX4 yX4_isOver wsX4_isOver) := goodIn_app (goodIn_of _ (by decide +kernel)) ggL_law_X4_isOver
set_option maxRecDepth 20000 in
theorem ggL_law_X5_isOver : GoodIn wsL_law wsX5_isOver := goodIn_r _ [438, 167, 69, 287, 288, 289, 5, 290, 709, 710, 711, 712, 713, 714, 715, 716] (by decide +kernel) (by decide +kernel)
set_option maxRecDepth 20000 in
theorem gL_law_X5_isOver : GoodIn wsL_law (wsV RL 126 RX5 yX5_isOver wsX5_isOver) := goodIn_app (goodIn_of _ (by decide +kernel)) ggL_law_X5_isOver
set_option maxRecDepth 20000 in
theorem ggL_law_X4_lookCount : GoodIn wsL_law wsX4_lookCount := goodIn_r _ [442, 17, 702, 703, 704, 705, 706, 707, 708, 717, 718, 719, 720, 721, 722, 723, 724] (by decide +kernel) (by decide +kernel)
set_option maxRecDepth 20000 in
theorem gL_law_X4_lookCount : GoodIn wsL_law (wsV RL 127 RX4 yX4_lookCount wsX4_lookCount) := goodIn_app (goodIn_of _ (by decide +kernel)) ggL_law_X4_lookCount
set_option maxRecDepth 20000 in
theorem ggL_law_X5_lookCount : GoodIn wsL_law wsX5_lookCount := goodIn_r _ [446, 69, 385, 386, 387, 5, 388, 167, 709, 710, 711, 712, 713, 714, 715, 716] (by decide +kernel) (by decide +kernel)
set_option maxRecDepth 20000 in
theorem gL_law_X5_lookCount : GoodIn wsL_law (wsV RL 130 RX5 yX5_lookCount wsX5_lookCount) := goodIn_app (goodIn_of _ (by decide +kernel)) ggL_law_X5_lookCount
set_option maxRecDepth 20000 in
theorem ggL_law_X4_comparedCount : GoodIn wsL_law wsX4_comparedCount := goodIn_r _ [450, 17, 702, 703, 704, 705, 706, 707, 708, 717, 718, 719, 720, 721, 722, 723, 724] (by decide +kernel) (by decide +kernel)
set_option maxRecDepth 20000 in
theorem gL_law_X4_comparedCount : GoodIn wsL_law (wsV RL 131 RX4 yX4_comparedCount wsX4_comparedCount) := goodIn_app (goodIn_of _ (by decide +kernel)) ggL_law_X4_comparedCount
set_option maxRecDepth 20000 in
theorem ggL_law_X5_comparedCount : GoodIn wsL_law wsX5_comparedCount := goodIn_r _ [454, 69, 385, 386, 387, 5, 388, 167, 709, 710, 711, 712, 713, 714, 715, 716] (by decide +kernel) (by decide +kernel)
set_option maxRecDepth 20000 in
theorem gL_law_X5_comparedCount : GoodIn wsL_law (wsV RL 134 RX5 yX5_comparedCount wsX5_comparedCount) := goodIn_app (goodIn_of _ (by decide +kernel)) ggL_law_X5_comparedCount
set_option maxRecDepth 20000 in
theorem ggL_law_X4_foundCount : GoodIn wsL_law wsX4_foundCount := goodIn_r _ [458, 17, 93, 94, 95, 32, 96, 97, 702, 703, 704, 705, 706, 707, 708, 717, 718, 719, 720, 721, 722, 723, 724, 731, 732] (by decide +kernel) (by decide +kernel)
set_option maxRecDepth 20000 in
theorem gL_law_X4_foundCount : GoodIn wsL_law (wsV RL 135 RX4 yX4_foundCount wsX4_foundCount) := goodIn_app (goodIn_of _ (by decide +kernel)) ggL_law_X4_foundCount
set_option maxRecDepth 20000 in
theorem ggL_law_X5_foundCount : GoodIn wsL_law wsX5_foundCount := goodIn_r _ [462, 69, 385, 386, 387, 5, 388, 167, 709, 710, 711, 712, 713, 714, 715, 716] (by decide +kernel) (by decide +kernel)
set_option maxRecDepth 20000 in
theorem gL_law_X5_foundCount : GoodIn wsL_law (wsV RL 138 RX5 yX5_foundCount wsX5_foundCount) := goodIn_app (goodIn_of _ (by decide +kernel)) ggL_law_X5_foundCount
set_option maxRecDepth 20000 in
theorem ggL_law_L_foundPlace : GoodIn wsL_law wsL_foundPlace := goodIn_ca (goodIn_r _ [465, 344, 466, 467, 468, 2, 469, 17, 350, 351, 352, 353, 354, 355, 103, 104, 32, 105, 97, 98, 99, 100, 101, 52, 102, 702, 703, 704, 705, 706, 707, 708, 717, 718, 719, 720, 721, 722, 723, 724, 731, 732] (by decide +kernel) (by decide +kernel)) (goodIn_sub (fun _ h => List.mem_append_left _ (List.mem_append_right _ h)) (by decide +kernel))
set_option maxRecDepth 20000 in
theorem gL_law_L_foundPlace : GoodIn wsL_law (va_wsS RL 139 yL_foundPlace wsL_foundPlace) := goodIn_app (goodIn_of _ (by decide +kernel)) ggL_law_L_foundPlace
set_option maxRecDepth 20000 in
theorem ggL_law_X5_foundPlace : GoodIn wsL_law wsX5_foundPlace := goodIn_r _ [473, 69, 160, 161, 5, 162, 385, 386, 387, 388, 167, 163, 164, 165, 166, 709, 710, 711, 712, 713, 714, 715, 716] (by decide +kernel) (by decide +kernel)
set_option maxRecDepth 20000 in
theorem gL_law_X5_foundPlace : GoodIn wsL_law (wsV RL 141 RX5 yX5_foundPlace wsX5_foundPlace) := goodIn_app (goodIn_of _ (by decide +kernel)) ggL_law_X5_foundPlace
set_option maxRecDepth 20000 in
theorem ggL_law_X4_skippedPlaces : GoodIn wsL_law wsX4_skippedPlaces := goodIn_r _ [477, 17, 478, 113, 49, 114, 479, 228, 229, 16, 230, 38, 39, 231, 48, 50, 232, 94, 95, 32, 96, 97, 702, 703, 704, 705, 706, 707, 708, 717, 718, 719, 720, 721, 722, 723, 724, 731, 732] (by decide +kernel) (by decide +kernel)
set_option maxRecDepth 20000 in
theorem gL_law_X4_skippedPlaces : GoodIn wsL_law (wsV RL 142 RX4 yX4_skippedPlaces wsX4_skippedPlaces) := goodIn_app (goodIn_of _ (by decide +kernel)) ggL_law_X4_skippedPlaces
set_option maxRecDepth 20000 in
theorem ggL_law_X5_skippedPlaces : GoodIn wsL_law wsX5_skippedPlaces := goodIn_r _ [483, 69, 385, 386, 387, 5, 388, 167, 709, 710, 711, 712, 713, 714, 715, 716] (by decide +kernel) (by decide +kernel)
set_option maxRecDepth 20000 in
theorem gL_law_X5_skippedPlaces : GoodIn wsL_law (wsV RL 145 RX5 yX5_skippedPlaces wsX5_skippedPlaces) := goodIn_app (goodIn_of _ (by decide +kernel)) ggL_law_X5_skippedPlaces
set_option maxRecDepth 20000 in
theorem ggL_law_L_lastPlaceOf : GoodIn wsL_law wsL_lastPlaceOf := goodIn_ca (goodIn_r _ [486, 345, 487, 488, 489, 2, 490, 17, 356, 357, 358, 359, 360, 491, 275, 276, 32, 277, 97, 52, 702, 703, 704, 705, 706, 707, 708, 717, 718, 719, 720, 721, 722, 723, 724, 731, 732] (by decide +kernel) (by decide +kernel)) (goodIn_sub (fun _ h => List.mem_append_right _ h) (by decide +kernel))
set_option maxRecDepth 20000 in
theorem gL_law_L_lastPlaceOf : GoodIn wsL_law (va_wsS RL 146 yL_lastPlaceOf wsL_lastPlaceOf) := goodIn_app (goodIn_of _ (by decide +kernel)) ggL_law_L_lastPlaceOf
set_option maxRecDepth 20000 in
theorem ggL_law_X5_lastPlaceOf : GoodIn wsL_law wsX5_lastPlaceOf := goodIn_r _ [495, 373, 374, 5, 375, 376, 160, 161, 162, 307, 308, 309, 310, 69, 385, 386, 387, 388, 167, 163, 164, 165, 166, 709, 710, 711, 712, 713, 714, 715, 716] (by decide +kernel) (by decide +kernel)
set_option maxRecDepth 20000 in
theorem gL_law_X5_lastPlaceOf : GoodIn wsL_law (wsV RL 148 RX5 yX5_lastPlaceOf wsX5_lastPlaceOf) := goodIn_app (goodIn_of _ (by decide +kernel)) ggL_law_X5_lastPlaceOf
set_option maxRecDepth 20000 in
theorem ggL_law_L_letterSkip : GoodIn wsL_law wsL_letterSkip := goodIn_ca (goodIn_ca (goodIn_r _ [498, 344, 345, 499, 500, 501, 2, 502, 17, 350, 351, 352, 353, 354, 355, 103, 104, 32, 105, 97, 356, 357, 358, 359, 360, 503, 271, 272, 16, 273, 39, 274, 275, 276, 277, 52, 702, 703, 704, 705, 706, 707, 708, 717, 718, 719, 720, 721, 722, 723, 724, 731, 732] (by decide +kernel) (by decide +kernel)) (goodIn_sub (fun _ h => List.mem_append_left _ (List.mem_append_right _ h)) (by decide +kernel))) (goodIn_sub (fun _ h => List.mem_append_right _ h) (by decide +kernel))
set_option maxRecDepth 20000 in
theorem gL_law_L_letterSkip : GoodIn wsL_law (va_wsS RL 149 yL_letterSkip wsL_letterSkip) := goodIn_app (goodIn_of _ (by decide +kernel)) ggL_law_L_letterSkip
set_option maxRecDepth 20000 in
theorem ggL_law_X5_letterSkip : GoodIn wsL_law wsX5_letterSkip := goodIn_r _ [507, 419, 420, 421, 5, 422, 69, 160, 161, 162, 163, 164, 165, 166, 167, 373, 374, 375, 376, 307, 308, 309, 310, 385, 386, 387, 388, 709, 710, 711, 712, 713, 714, 715, 716] (by decide +kernel) (by decide +kernel)
set_option maxRecDepth 20000 in
theorem gL_law_X5_letterSkip : GoodIn wsL_law (wsV RL 151 RX5 yX5_letterSkip wsX5_letterSkip) := goodIn_app (goodIn_of _ (by decide +kernel)) ggL_law_X5_letterSkip
set_option maxRecDepth 20000 in
theorem ggL_law_L_endSkip : GoodIn wsL_law wsL_endSkip := goodIn_ca (goodIn_r _ [510, 344, 511, 512, 513, 2, 514, 17, 22, 350, 351, 352, 353, 354, 355, 103, 104, 32, 105, 97, 233, 234, 235, 21, 236, 237, 113, 49, 114, 238, 57, 239, 94, 95, 96, 240, 241, 242, 243, 56, 244, 245, 246, 247, 248, 99, 100, 101, 52, 102, 249, 250, 251, 252, 515, 279, 280, 281, 702, 703, 704, 705, 706, 707, 708, 717, 718, 719, 720, 721, 722, 723, 724, 731, 732, 725, 726, 727] (by decide +kernel) (by decide +kernel)) (goodIn_sub (fun _ h => List.mem_append_left _ (List.mem_append_right _ h)) (by decide +kernel))
set_option maxRecDepth 20000 in
theorem gL_law_L_endSkip : GoodIn wsL_law (va_wsS RL 152 yL_endSkip wsL_endSkip) := goodIn_app (goodIn_of _ (by decide +kernel)) ggL_law_L_endSkip
set_option maxRecDepth 20000 in
theorem ggL_law_X5_endSkip : GoodIn wsL_law wsX5_endSkip := goodIn_r _ [519, 419, 420, 421, 5, 422, 69, 160, 161, 162, 311, 312, 313, 314, 315, 316, 317, 318, 385, 386, 387, 388, 167, 163, 164, 165, 166, 709, 710, 711, 712, 713, 714, 715, 716] (by decide +kernel) (by decide +kernel)
set_option maxRecDepth 20000 in
theorem gL_law_X5_endSkip : GoodIn wsL_law (wsV RL 154 RX5 yX5_endSkip wsX5_endSkip) := goodIn_app (goodIn_of _ (by decide +kernel)) ggL_law_X5_endSkip
set_option maxRecDepth 20000 in
theorem ggL_law_L_endSkipByTrying : GoodIn wsL_law wsL_endSkipByTrying := goodIn_ca (goodIn_r _ [522, 344, 523, 524, 525, 2, 526, 17, 350, 351, 352, 353, 354, 355, 103, 104, 32, 105, 97, 93, 94, 95, 96, 527, 528, 529, 530, 48, 49, 50, 98, 99, 100, 101, 52, 102, 702, 703, 704, 705, 706, 707, 708, 717, 718, 719, 720, 721, 722, 723, 724, 731, 732] (by decide +kernel) (by decide +kernel)) (goodIn_sub (fun _ h => List.mem_append_left _ (List.mem_append_right _ h)) (by decide +kernel))
set_option maxRecDepth 20000 in
theorem gL_law_L_endSkipByTrying : GoodIn wsL_law (va_wsS RL 155 yL_endSkipByTrying wsL_endSkipByTrying) := goodIn_app (goodIn_of _ (by decide +kernel)) ggL_law_L_endSkipByTrying
set_option maxRecDepth 20000 in
theorem ggL_law_X5_endSkipByTrying : GoodIn wsL_law wsX5_endSkipByTrying := goodIn_r _ [534, 419, 420, 421, 5, 422, 69, 160, 161, 162, 311, 312, 313, 314, 315, 316, 317, 318, 385, 386, 387, 388, 167, 163, 164, 165, 166, 709, 710, 711, 712, 713, 714, 715, 716] (by decide +kernel) (by decide +kernel)
set_option maxRecDepth 20000 in
theorem gL_law_X5_endSkipByTrying : GoodIn wsL_law (wsV RL 157 RX5 yX5_endSkipByTrying wsX5_endSkipByTrying) := goodIn_app (goodIn_of _ (by decide +kernel)) ggL_law_X5_endSkipByTrying
set_option maxRecDepth 20000 in
theorem ggL_law_X4_border : GoodIn wsL_law wsX4_border := goodIn_r _ [538, 22, 17, 233, 234, 235, 21, 236, 237, 113, 49, 114, 238, 57, 239, 94, 95, 32, 96, 97, 240, 241, 242, 243, 56, 244, 245, 246, 247, 248, 99, 100, 101, 52, 102, 103, 104, 105, 249, 250, 251, 252, 93, 539, 267, 268, 269, 702, 703, 704, 705, 706, 707, 708, 717, 718, 719, 720, 721, 722, 723, 724, 725, 726, 727, 731, 732] (by decide +kernel) (by decide +kernel)
set_option maxRecDepth 20000 in
theorem gL_law_X4_border : GoodIn wsL_law (wsV RL 158 RX4 yX4_border wsX4_border) := goodIn_app (goodIn_of _ (by decide +kernel)) ggL_law_X4_border
set_option maxRecDepth 20000 in
theorem ggL_law_X5_border : GoodIn wsL_law wsX5_border := goodIn_r _ [543, 69, 303, 304, 305, 5, 306, 385, 386, 387, 388, 167, 709, 710, 711, 712, 713, 714, 715, 716] (by decide +kernel) (by decide +kernel)
set_option maxRecDepth 20000 in
theorem gL_law_X5_border : GoodIn wsL_law (wsV RL 161 RX5 yX5_border wsX5_border) := goodIn_app (goodIn_of _ (by decide +kernel)) ggL_law_X5_border
set_option maxRecDepth 20000 in
theorem ggL_law_X4_period : GoodIn wsL_law wsX4_period := goodIn_r _ [547, 22, 17, 233, 234, 235, 21, 236, 237, 113, 49, 114, 238, 57, 239, 94, 95, 32, 96, 97, 240, 241, 242, 243, 56, 244, 245, 246, 247, 248, 99, 100, 101, 52, 102, 103, 104, 105, 249, 250, 251, 252, 539, 267, 268, 269, 702, 703, 704, 705, 706, 707, 708, 717, 718, 719, 720, 721, 722, 723, 724, 725, 726, 727, 731, 732] (by decide +kernel) (by decide +kernel)
set_option maxRecDepth 20000 in
theorem gL_law_X4_period : GoodIn wsL_law (wsV RL 162 RX4 yX4_period wsX4_period) := goodIn_app (goodIn_of _ (by decide +kernel)) ggL_law_X4_period
set_option maxRecDepth 20000 in
theorem ggL_law_X5_period : GoodIn wsL_law wsX5_period := goodIn_r _ [551, 303, 304, 305, 5, 306, 69, 385, 386, 387, 388, 167, 709, 710, 711, 712, 713, 714, 715, 716] (by decide +kernel) (by decide +kernel)
set_option maxRecDepth 20000 in
theorem gL_law_X5_period : GoodIn wsL_law (wsV RL 165 RX5 yX5_period wsX5_period) := goodIn_app (goodIn_of _ (by decide +kernel)) ggL_law_X5_period
set_option maxRecDepth 20000 in
theorem ggL_law_X4_occurrences : GoodIn wsL_law wsX4_occurrences := goodIn_r _ [555, 18, 556, 557, 558, 2, 559, 17, 22, 560, 116, 117, 16, 118, 38, 39, 40, 41, 42, 119, 120, 121, 122, 123, 124, 32, 125, 97, 52, 126, 127, 128, 129, 130, 131, 132, 133, 204, 205, 206, 207, 140, 141, 142, 143, 144, 233, 234, 235, 21, 236, 237, 113, 49, 114, 238, 57, 239, 94, 95, 96, 240, 241, 242, 243, 56, 244, 245, 246, 247, 248, 99, 100, 101, 102, 103, 104, 105, 249, 250, 251, 252, 323, 324, 325, 326, 327, 220, 221, 222, 223, 224, 225, 226, 227, 228, 229, 230, 231, 48, 50, 232, 328, 254, 255, 256, 257, 258, 259, 260, 261, 262, 263, 264, 265, 266, 267, 268, 269, 270, 271, 272, 273, 274, 275, 276, 277, 278, 279, 280, 281, 282, 93, 702, 703, 704, 705, 706, 707, 708, 717, 718, 719, 720, 721, 722, 723, 724, 731, 732, 725, 726, 727] (by decide +kernel) (by decide +kernel)
set_option maxRecDepth 20000 in
theorem gL_law_X4_occurrences : GoodIn wsL_law (wsV RL 166 RX4 yX4_occurrences wsX4_occurrences) := goodIn_app (goodIn_of _ (by decide +kernel)) ggL_law_X4_occurrences
set_option maxRecDepth 20000 in
theorem ggL_law_X5_occurrences : GoodIn wsL_law wsX5_occurrences := goodIn_r _ [564, 565, 566, 567, 5, 568, 287, 288, 289, 290, 69, 295, 296, 297, 298, 385, 386, 387, 388, 167, 709, 710, 711, 712, 713, 714, 715, 716] (by decide +kernel) (by decide +kernel)
set_option maxRecDepth 20000 in
theorem gL_law_X5_occurrences : GoodIn wsL_law (wsV RL 169 RX5 yX5_occurrences wsX5_occurrences) := goodIn_app (goodIn_of _ (by decide +kernel)) ggL_law_X5_occurrences
set_option maxRecDepth 20000 in
theorem ggL_law_X4_occurrencesByTrying : GoodIn wsL_law wsX4_occurrencesByTrying := goodIn_r _ [572, 17, 573, 224, 225, 32, 226, 97, 479, 228, 229, 16, 230, 38, 39, 231, 48, 49, 50, 232, 94, 95, 96, 574, 575, 576, 2, 577, 93, 98, 99, 100, 101, 52, 102, 103, 104, 105, 702, 703, 704, 705, 706, 707, 708, 717, 718, 719, 720, 721, 722, 723, 724, 731, 732] (by decide +kernel) (by decide +kernel)
set_option maxRecDepth 20000 in
theorem gL_law_X4_occurrencesByTrying : GoodIn wsL_law (wsV RL 170 RX4 yX4_occurrencesByTrying wsX4_occurrencesByTrying) := goodIn_app (goodIn_of _ (by decide +kernel)) ggL_law_X4_occurrencesByTrying
set_option maxRecDepth 20000 in
theorem ggL_law_X5_occurrencesByTrying : GoodIn wsL_law wsX5_occurrencesByTrying := goodIn_r _ [581, 565, 566, 567, 5, 568, 287, 288, 289, 290, 69, 295, 296, 297, 298, 385, 386, 387, 388, 167, 709, 710, 711, 712, 713, 714, 715, 716] (by decide +kernel) (by decide +kernel)
set_option maxRecDepth 20000 in
theorem gL_law_X5_occurrencesByTrying : GoodIn wsL_law (wsV RL 173 RX5 yX5_occurrencesByTrying wsX5_occurrencesByTrying) := goodIn_app (goodIn_of _ (by decide +kernel)) ggL_law_X5_occurrencesByTrying
set_option maxRecDepth 20000 in
theorem ggL_law_X4_comparedWith : GoodIn wsL_law wsX4_comparedWith := goodIn_r _ [585, 18, 556, 557, 558, 2, 559, 17, 22, 560, 116, 117, 16, 118, 38, 39, 40, 41, 42, 119, 120, 121, 122, 123, 124, 32, 125, 97, 52, 126, 127, 128, 129, 130, 131, 132, 133, 204, 205, 206, 207, 140, 141, 142, 143, 144, 233, 234, 235, 21, 236, 237, 113, 49, 114, 238, 57, 239, 94, 95, 96, 240, 241, 242, 243, 56, 244, 245, 246, 247, 248, 99, 100, 101, 102, 103, 104, 105, 249, 250, 251, 252, 323, 324, 325, 326, 327, 220, 221, 222, 223, 224, 225, 226, 227, 228, 229, 230, 231, 48, 50, 232, 328, 254, 255, 256, 257, 258, 259, 260, 261, 262, 263, 264, 265, 266, 267, 268, 269, 270, 271, 272, 273, 274, 275, 276, 277, 278, 279, 280, 281, 282, 702, 703, 704, 705, 706, 707, 708, 717, 718, 719, 720, 721, 722, 723, 724, 731, 732, 725, 726, 727] (by decide +kernel) (by decide +kernel)
set_option maxRecDepth 20000 in
theorem gL_law_X4_comparedWith : GoodIn wsL_law (wsV RL 174 RX4 yX4_comparedWith wsX4_comparedWith) := goodIn_app (goodIn_of _ (by decide +kernel)) ggL_law_X4_comparedWith
set_option maxRecDepth 20000 in
theorem ggL_law_X5_comparedWith : GoodIn wsL_law wsX5_comparedWith := goodIn_r _ [589, 167, 69, 287, 288, 289, 5, 290, 295, 296, 297, 298, 299, 300, 301, 302, 303, 304, 305, 306, 307, 308, 309, 310, 311, 312, 313, 314, 315, 316, 317, 318, 709, 710, 711, 712, 713, 714, 715, 716] (by decide +kernel) (by decide +kernel)
set_option maxRecDepth 20000 in
theorem gL_law_X5_comparedWith : GoodIn wsL_law (wsV RL 177 RX5 yX5_comparedWith wsX5_comparedWith) := goodIn_app (goodIn_of _ (by decide +kernel)) ggL_law_X5_comparedWith
set_option maxRecDepth 20000 in
theorem ggL_law_L_differenceAt : GoodIn wsL_law wsL_differenceAt := goodIn_ca (goodIn_ca (goodIn_r _ [592, 344, 78, 593, 594, 595, 2, 596, 353, 354, 87, 88, 17, 479, 228, 229, 16, 230, 38, 39, 231, 48, 49, 50, 232, 94, 95, 32, 96, 97, 573, 224, 225, 226, 597, 258, 259, 260, 261, 99, 100, 101, 52, 102, 103, 104, 105, 702, 703, 704, 705, 706, 707, 708, 717, 718, 719, 720, 721, 722, 723, 724, 731, 732] (by decide +kernel) (by decide +kernel)) (goodIn_sub (fun _ h => List.mem_append_left _ (List.mem_append_right _ h)) (by decide +kernel))) (goodIn_sub (fun _ h => List.mem_append_left _ (List.mem_append_left _ (List.mem_append_right _ h))) (by decide +kernel))
set_option maxRecDepth 20000 in
theorem gL_law_L_differenceAt : GoodIn wsL_law (va_wsS RL 178 yL_differenceAt wsL_differenceAt) := goodIn_app (goodIn_of _ (by decide +kernel)) ggL_law_L_differenceAt
set_option maxRecDepth 20000 in
theorem ggL_law_X5_differenceAt : GoodIn wsL_law wsX5_differenceAt := goodIn_r _ [601, 69, 163, 164, 165, 5, 166, 167, 295, 296, 297, 298, 385, 386, 387, 388, 709, 710, 711, 712, 713, 714, 715, 716] (by decide +kernel) (by decide +kernel)
set_option maxRecDepth 20000 in
theorem gL_law_X5_differenceAt : GoodIn wsL_law (wsV RL 180 RX5 yX5_differenceAt wsX5_differenceAt) := goodIn_app (goodIn_of _ (by decide +kernel)) ggL_law_X5_differenceAt
set_option maxRecDepth 20000 in
theorem ggL_law_L_appendText : GoodIn wsL_law wsL_appendText := goodIn_ca (goodIn_ca (goodIn_r _ [604, 345, 78, 605, 606, 607, 2, 608, 359, 360, 87, 88, 33, 609, 610, 611, 612, 613, 614, 615, 616, 617, 618, 93, 94, 95, 32, 96, 97, 139, 131, 132, 133, 52, 702, 703, 704, 705, 706, 707, 708, 731, 732] (by decide +kernel) (by decide +kernel)) (goodIn_sub (fun _ h => List.mem_append_right _ h) (by decide +kernel))) (goodIn_sub (fun _ h => List.mem_append_left _ (List.mem_append_left _ (List.mem_append_right _ h))) (by decide +kernel))
set_option maxRecDepth 20000 in
theorem gL_law_L_appendText : GoodIn wsL_law (va_wsS RL 183 yL_appendText wsL_appendText) := goodIn_app (goodIn_of _ (by decide +kernel)) ggL_law_L_appendText
set_option maxRecDepth 20000 in
theorem ggL_law_X5_appendText : GoodIn wsL_law wsX5_appendText := goodIn_r _ [622, 623, 624, 625, 153, 167, 73, 160, 161, 5, 162, 163, 164, 165, 166, 709, 710, 711, 712, 713, 714, 715, 716] (by decide +kernel) (by decide +kernel)
set_option maxRecDepth 20000 in
theorem gL_law_X5_appendText : GoodIn wsL_law (wsV RL 186 RX5 yX5_appendText wsX5_appendText) := goodIn_app (goodIn_of _ (by decide +kernel)) ggL_law_X5_appendText
set_option maxRecDepth 20000 in
theorem ggL_law_X4_clearText : GoodIn wsL_law wsX4_clearText := goodIn_r _ [629, 33, 93, 94, 95, 32, 96, 97, 138, 127, 128, 129, 702, 703, 704, 705, 706, 707, 708, 731, 732] (by decide +kernel) (by decide +kernel)
set_option maxRecDepth 20000 in
theorem gL_law_X4_clearText : GoodIn wsL_law (wsV RL 187 RX4 yX4_clearText wsX4_clearText) := goodIn_app (goodIn_of _ (by decide +kernel)) ggL_law_X4_clearText
set_option maxRecDepth 20000 in
theorem ggL_law_X5_clearText : GoodIn wsL_law wsX5_clearText := goodIn_r _ [633, 167, 153, 709, 710, 711, 712, 713, 714, 715, 716] (by decide +kernel) (by decide +kernel)
set_option maxRecDepth 20000 in
theorem gL_law_X5_clearText : GoodIn wsL_law (wsV RL 190 RX5 yX5_clearText wsX5_clearText) := goodIn_app (goodIn_of _ (by decide +kernel)) ggL_law_X5_clearText
set_option maxRecDepth 20000 in
theorem ggL_law_X4_textLength : GoodIn wsL_law wsX4_textLength := goodIn_r _ [637, 33, 93, 94, 95, 32, 96, 97, 702, 703, 704, 705, 706, 707, 708, 731, 732] (by decide +kernel) (by decide +kernel)
set_option maxRecDepth 20000 in
theorem gL_law_X4_textLength : GoodIn wsL_law (wsV RL 191 RX4 yX4_textLength wsX4_textLength) := goodIn_app (goodIn_of _ (by decide +kernel)) ggL_law_X4_textLength
set_option maxRecDepth 20000 in
theorem ggL_law_X5_textLength : GoodIn wsL_law wsX5_textLength := goodIn_r _ [641, 153, 385, 386, 387, 5, 388, 167, 709, 710, 711, 712, 713, 714, 715, 716] (by decide +kernel) (by decide +kernel)
set_option maxRecDepth 20000 in
theorem gL_law_X5_textLength : GoodIn wsL_law (wsV RL 194 RX5 yX5_textLength wsX5_textLength) := goodIn_app (goodIn_of _ (by decide +kernel)) ggL_law_X5_textLength
set_option maxRecDepth 20000 in
theorem ggL_law_X4_textError : GoodIn wsL_law wsX4_textError := goodIn_r _ [92, 33, 93, 94, 95, 32, 96, 97, 98, 99, 100, 101, 52, 102, 103, 104, 105, 702, 703, 704, 705, 706, 707, 708, 731, 732] (by decide +kernel) (by decide +kernel)
set_option maxRecDepth 20000 in
theorem gL_law_X4_textError : GoodIn wsL_law (wsV RL 195 RX4 yX4_textError wsX4_textError) := goodIn_app (goodIn_of _ (by decide +kernel)) ggL_law_X4_textError
set_option maxRecDepth 20000 in
theorem ggL_law_X5_textError : GoodIn wsL_law wsX5_textError := goodIn_r _ [646, 154, 155, 156, 5, 157, 153, 73, 158, 159, 160, 161, 162, 385, 386, 387, 388, 167, 709, 710, 711, 712, 713, 714, 715, 716] (by decide +kernel) (by decide +kernel)
set_option maxRecDepth 20000 in
theorem gL_law_X5_textError : GoodIn wsL_law (wsV RL 198 RX5 yX5_textError wsX5_textError) := goodIn_app (goodIn_of _ (by decide +kernel)) ggL_law_X5_textError
set_option maxRecDepth 20000 in
theorem ggL_law_L_undo : GoodIn wsL_law wsL_undo := goodIn_ca (goodIn_r _ [649, 78, 650, 651, 652, 2, 653, 87, 88, 26, 17, 654, 655, 656, 25, 657, 111, 658, 659, 660, 661, 110, 63, 115, 116, 117, 16, 118, 38, 39, 40, 41, 42, 119, 120, 121, 122, 123, 124, 32, 125, 97, 52, 126, 127, 128, 129, 130, 131, 132, 133, 702, 703, 704, 705, 706, 707, 708, 728, 729, 730, 717, 718, 719, 720, 721, 722, 723, 724, 731, 732] (by decide +kernel) (by decide +kernel)) (goodIn_sub (fun _ h => List.mem_append_left _ (List.mem_append_left _ (List.mem_append_right _ h))) (by decide +kernel))
set_option maxRecDepth 20000 in
theorem gL_law_L_undo : GoodIn wsL_law (va_wsS RL 199 yL_undo wsL_undo) := goodIn_app (goodIn_of _ (by decide +kernel)) ggL_law_L_undo
set_option maxRecDepth 20000 in
theorem ggL_law_X5_undo : GoodIn wsL_law wsX5_undo := goodIn_r _ [665, 172, 167, 69, 70, 163, 164, 165, 5, 166, 709, 710, 711, 712, 713, 714, 715, 716] (by decide +kernel) (by decide +kernel)
set_option maxRecDepth 20000 in
theorem gL_law_X5_undo : GoodIn wsL_law (wsV RL 201 RX5 yX5_undo wsX5_undo) := goodIn_app (goodIn_of _ (by decide +kernel)) ggL_law_X5_undo
set_option maxRecDepth 20000 in
theorem ggL_law_X4_undoCount : GoodIn wsL_law wsX4_undoCount := goodIn_r _ [669, 26, 654, 655, 656, 25, 657, 111, 702, 703, 704, 705, 706, 707, 708, 728, 729, 730] (by decide +kernel) (by decide +kernel)
set_option maxRecDepth 20000 in
theorem gL_law_X4_undoCount : GoodIn wsL_law (wsV RL 202 RX4 yX4_undoCount wsX4_undoCount) := goodIn_app (goodIn_of _ (by decide +kernel)) ggL_law_X4_undoCount
set_option maxRecDepth 20000 in
theorem ggL_law_X5_undoCount : GoodIn wsL_law wsX5_undoCount := goodIn_r _ [673, 172, 385, 386, 387, 5, 388, 167, 709, 710, 711, 712, 713, 714, 715, 716] (by decide +kernel) (by decide +kernel)
set_option maxRecDepth 20000 in
theorem gL_law_X5_undoCount : GoodIn wsL_law (wsV RL 205 RX5 yX5_undoCount wsX5_undoCount) := goodIn_app (goodIn_of _ (by decide +kernel)) ggL_law_X5_undoCount
set_option maxRecDepth 20000 in
theorem ggL_law_L_saveState : GoodIn wsL_law wsL_saveState := goodIn_ca (goodIn_r _ [676, 344, 677, 678, 679, 2, 680, 27, 17, 29, 681, 682, 683, 353, 354, 560, 116, 117, 16, 118, 38, 39, 40, 41, 42, 119, 120, 121, 122, 123, 124, 32, 125, 97, 52, 126, 127, 128, 129, 130, 131, 132, 133, 93, 94, 95, 96, 702, 703, 704, 705, 706, 707, 708, 717, 718, 719, 720, 721, 722, 723, 724, 731, 732] (by decide +kernel) (by decide +kernel)) (goodIn_sub (fun _ h => List.mem_append_left _ (List.mem_append_right _ h)) (by decide +kernel))
set_option maxRecDepth 20000 in
theorem gL_law_L_saveState : GoodIn wsL_law (va_wsS RL 206 yL_saveState wsL_saveState) := goodIn_app (goodIn_of _ (by decide +kernel)) ggL_law_L_saveState
set_option maxRecDepth 20000 in
theorem ggL_law_X5_saveState : GoodIn wsL_law wsX5_saveState := goodIn_r _ [687, 71, 69, 72, 688, 689, 5, 690, 163, 164, 165, 166, 167, 385, 386, 387, 388, 709, 710, 711, 712, 713, 714, 715, 716] (by decide +kernel) (by decide +kernel)
set_option maxRecDepth 20000 in
theorem gL_law_X5_saveState : GoodIn wsL_law (wsV RL 208 RX5 yX5_saveState wsX5_saveState) := goodIn_app (goodIn_of _ (by decide +kernel)) ggL_law_X5_saveState
set_option maxRecDepth 20000 in
theorem ggL_law_L_loadState : GoodIn wsL_law wsL_loadState := goodIn_ca (goodIn_ca (goodIn_r _ [693, 344, 78, 694, 695, 696, 2, 697, 87, 88, 29, 26, 17, 27, 681, 682, 683, 353, 354, 106, 107, 108, 25, 109, 63, 110, 111, 112, 113, 49, 114, 115, 116, 117, 16, 118, 38, 39, 40, 41, 42, 119, 120, 121, 122, 123, 124, 32, 125, 97, 52, 126, 127, 128, 129, 130, 131, 132, 133, 560, 93, 94, 95, 96, 702, 703, 704, 705, 706, 707, 708, 717, 718, 719, 720, 721, 722, 723, 724, 728, 729, 730, 731, 732] (by decide +kernel) (by decide +kernel)) (goodIn_sub (fun _ h => List.mem_append_left _ (List.mem_append_left _ (List.mem_append_right _ h))) (by decide +kernel))) (goodIn_sub (fun _ h => List.mem_append_left _ (List.mem_append_right _ h)) (by decide +kernel))
set_option maxRecDepth 20000 in
theorem gL_law_L_loadState : GoodIn wsL_law (va_wsS RL 209 yL_loadState wsL_loadState) := goodIn_app (goodIn_of _ (by decide +kernel)) ggL_law_L_loadState
set_option maxRecDepth 20000 in
theorem ggL_law_X5_loadState : GoodIn wsL_law wsX5_loadState := goodIn_r _ [701, 72, 69, 71, 688, 689, 5, 690, 163, 164, 165, 166, 167, 168, 169, 170, 171, 172, 70, 709, 710, 711, 712, 713, 714, 715, 716] (by decide +kernel) (by decide +kernel)
set_option maxRecDepth 20000 in
theorem gL_law_X5_loadState : GoodIn wsL_law (wsV RL 211 RX5 yX5_loadState wsX5_loadState) := goodIn_app (goodIn_of _ (by decide +kernel)) ggL_law_X5_loadState

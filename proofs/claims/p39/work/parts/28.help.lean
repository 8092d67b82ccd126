/-! the law's helpers that catch -/
theorem dL_takeLine_0 : decode cL_takeLine 0 = .ok (.aload_n 0, 1) := by decide +kernel
theorem dL_takeLine_1 : decode cL_takeLine 1 = .ok (.invokevirtual 9, 3) := by decide +kernel
theorem dL_takeLine_4 : decode cL_takeLine 4 = .ok (.ireturn, 1) := by decide +kernel
theorem dL_takeLine_5 : decode cL_takeLine 5 = .ok (.astore_n 1, 1) := by decide +kernel
theorem dL_takeLine_6 : decode cL_takeLine 6 = .ok (.ldc 17, 2) := by decide +kernel
theorem dL_takeLine_8 : decode cL_takeLine 8 = .ok (.ireturn, 1) := by decide +kernel
set_option maxRecDepth 20000 in
theorem ggL_takeLine_X4_takeLine : GoodIn wsL_takeLine wsX4_takeLine := goodIn_ca (goodIn_r _ [7, 8, 9, 10, 11, 12, 6, 13, 14, 15, 16, 17, 18, 19, 20, 21, 22, 23, 24, 25, 26, 27, 28, 29, 30, 31, 32, 33, 34, 35, 36, 37, 38, 39, 40, 41, 42, 43, 44, 45, 46, 47, 48, 49, 50, 51, 52, 53, 54, 55, 56, 57, 58, 59, 60, 61, 62, 63, 64, 65, 66, 67, 68, 69, 70, 71, 72, 73, 74, 75, 76, 77, 78, 79, 80, 81, 82, 83, 84, 85, 86, 87, 88, 89, 90, 91, 92, 93, 94, 95, 96, 97, 98, 99, 100, 101] (by decide +kernel) (by decide +kernel)) (goodIn_sub (fun _ h => List.mem_cons_of_mem _ (List.mem_append_right _ h)) (by decide +kernel))
set_option maxRecDepth 20000 in
theorem gL_takeLine_X4_takeLine : GoodIn wsL_takeLine (wsV RL 9 RX4 yX4_takeLine wsX4_takeLine) := goodIn_app (goodIn_of _ (by decide +kernel)) ggL_takeLine_X4_takeLine
theorem dL_takeWord_0 : decode cL_takeWord 0 = .ok (.aload_n 0, 1) := by decide +kernel
theorem dL_takeWord_1 : decode cL_takeWord 1 = .ok (.invokevirtual 18, 3) := by decide +kernel
theorem dL_takeWord_4 : decode cL_takeWord 4 = .ok (.ireturn, 1) := by decide +kernel
theorem dL_takeWord_5 : decode cL_takeWord 5 = .ok (.astore_n 1, 1) := by decide +kernel
theorem dL_takeWord_6 : decode cL_takeWord 6 = .ok (.ldc 17, 2) := by decide +kernel
theorem dL_takeWord_8 : decode cL_takeWord 8 = .ok (.ireturn, 1) := by decide +kernel
set_option maxRecDepth 20000 in
theorem ggL_takeWord_X4_takeWord : GoodIn wsL_takeWord wsX4_takeWord := goodIn_ca (goodIn_r _ [7, 8, 9, 10, 11, 12, 6, 13, 14, 15, 16, 17, 18, 19, 20, 21, 22, 23, 24, 25, 26, 27, 28, 29, 30, 31, 32, 33, 34, 35, 36, 37, 38, 39, 40, 41, 42, 43, 44, 45, 46, 47, 48, 49, 50, 51, 52, 53, 54, 55, 56, 57, 58, 59, 60, 61, 62, 63, 64, 65, 66, 67, 68, 69, 70, 71, 72, 73, 74, 75, 76, 77, 78, 79, 80, 81, 82, 83, 84, 85, 86, 87, 88, 89, 90, 91, 92, 93, 94, 95, 96, 97, 98, 99, 100, 101] (by decide +kernel) (by decide +kernel)) (goodIn_sub (fun _ h => List.mem_cons_of_mem _ (List.mem_append_right _ h)) (by decide +kernel))
set_option maxRecDepth 20000 in
theorem gL_takeWord_X4_takeWord : GoodIn wsL_takeWord (wsV RL 18 RX4 yX4_takeWord wsX4_takeWord) := goodIn_app (goodIn_of _ (by decide +kernel)) ggL_takeWord_X4_takeWord
theorem dL_look_0 : decode cL_look 0 = .ok (.aload_n 0, 1) := by decide +kernel
theorem dL_look_1 : decode cL_look 1 = .ok (.invokevirtual 21, 3) := by decide +kernel
theorem dL_look_4 : decode cL_look 4 = .ok (.ireturn, 1) := by decide +kernel
theorem dL_look_5 : decode cL_look 5 = .ok (.astore_n 1, 1) := by decide +kernel
theorem dL_look_6 : decode cL_look 6 = .ok (.ldc 17, 2) := by decide +kernel
theorem dL_look_8 : decode cL_look 8 = .ok (.ireturn, 1) := by decide +kernel
set_option maxRecDepth 20000 in
theorem ggL_look_X4_look : GoodIn wsL_look wsX4_look := goodIn_ca (goodIn_r _ [7, 8, 9, 10, 11, 12, 13, 14, 15, 16, 17, 18, 19, 20, 21, 22, 23, 24, 25, 26, 27, 28, 29, 30, 31, 32, 33, 34, 35, 36, 37, 38, 39, 40, 41, 42, 43, 44, 45, 46, 47, 48, 49, 50, 51, 52, 53, 54, 55, 56, 57, 58, 59, 60, 61, 62, 63, 64, 65, 66, 67, 68, 69, 70, 71, 72, 73, 74, 75, 76, 77, 78, 79, 80, 81, 82, 83, 84, 85, 86, 87, 88, 89, 90, 91, 92, 93, 94, 95, 96, 97, 98, 99, 100, 101, 102, 103, 104, 105, 106, 107, 108, 109, 110, 111, 112, 113, 114, 115, 116, 117, 118, 119, 120, 121, 122, 123, 124, 125, 126, 127, 128, 129, 130, 131, 132, 133, 134, 135, 136, 137, 138, 139, 140, 141, 142, 143, 144, 145, 146, 147, 148, 149, 150, 151, 152] (by decide +kernel) (by decide +kernel)) (goodIn_sub (fun _ h => List.mem_cons_of_mem _ (List.mem_append_right _ h)) (by decide +kernel))
set_option maxRecDepth 20000 in
theorem gL_look_X4_look : GoodIn wsL_look (wsV RL 21 RX4 yX4_look wsX4_look) := goodIn_app (goodIn_of _ (by decide +kernel)) ggL_look_X4_look
theorem dL_setLetter_0 : decode cL_setLetter 0 = .ok (.aload_n 0, 1) := by decide +kernel
theorem dL_setLetter_1 : decode cL_setLetter 1 = .ok (.iload_n 1, 1) := by decide +kernel
theorem dL_setLetter_2 : decode cL_setLetter 2 = .ok (.iload_n 2, 1) := by decide +kernel
theorem dL_setLetter_3 : decode cL_setLetter 3 = .ok (.invokevirtual 24, 3) := by decide +kernel
theorem dL_setLetter_6 : decode cL_setLetter 6 = .ok (.ireturn, 1) := by decide +kernel
theorem dL_setLetter_7 : decode cL_setLetter 7 = .ok (.astore_n 3, 1) := by decide +kernel
theorem dL_setLetter_8 : decode cL_setLetter 8 = .ok (.ldc 17, 2) := by decide +kernel
theorem dL_setLetter_10 : decode cL_setLetter 10 = .ok (.ireturn, 1) := by decide +kernel
theorem dL_setLetter_11 : decode cL_setLetter 11 = .ok (.astore_n 3, 1) := by decide +kernel
theorem dL_setLetter_12 : decode cL_setLetter 12 = .ok (.ldc 32, 2) := by decide +kernel
theorem dL_setLetter_14 : decode cL_setLetter 14 = .ok (.ireturn, 1) := by decide +kernel
set_option maxRecDepth 20000 in
theorem ggL_setLetter_X4_setLetter : GoodIn wsL_setLetter wsX4_setLetter := goodIn_ca (goodIn_ca (goodIn_r _ [9, 10, 11, 12, 13, 8, 14, 15, 16, 17, 18, 19, 20, 21, 22, 23, 24, 25, 26, 27, 28, 29, 30, 31, 32, 33, 34, 35, 36, 37, 38, 39, 40, 41, 42, 43, 44, 45, 46, 47, 48, 49, 50, 51, 52, 53, 54, 55, 56, 57, 58, 59, 60, 61, 62, 63, 64, 65, 66, 67, 68, 69, 70, 71, 72, 73, 74, 75, 76, 77, 78, 79, 80, 81, 82, 83, 84, 85, 86, 87, 88, 89, 90, 91, 92, 93, 94, 95, 96, 97] (by decide +kernel) (by decide +kernel)) (goodIn_sub (fun _ h => List.mem_cons_of_mem _ (List.mem_append_left _ (List.mem_append_right _ h))) (by decide +kernel))) (goodIn_sub (fun _ h => List.mem_cons_of_mem _ (List.mem_append_right _ h)) (by decide +kernel))
set_option maxRecDepth 20000 in
theorem gL_setLetter_X4_setLetter : GoodIn wsL_setLetter (wsV RL 24 RX4 yX4_setLetter wsX4_setLetter) := goodIn_app (goodIn_of _ (by decide +kernel)) ggL_setLetter_X4_setLetter
theorem dL_lineLetter_0 : decode cL_lineLetter 0 = .ok (.aload_n 0, 1) := by decide +kernel
theorem dL_lineLetter_1 : decode cL_lineLetter 1 = .ok (.iload_n 1, 1) := by decide +kernel
theorem dL_lineLetter_2 : decode cL_lineLetter 2 = .ok (.invokevirtual 33, 3) := by decide +kernel
theorem dL_lineLetter_5 : decode cL_lineLetter 5 = .ok (.ireturn, 1) := by decide +kernel
theorem dL_lineLetter_6 : decode cL_lineLetter 6 = .ok (.astore_n 2, 1) := by decide +kernel
theorem dL_lineLetter_7 : decode cL_lineLetter 7 = .ok (.ldc 17, 2) := by decide +kernel
theorem dL_lineLetter_9 : decode cL_lineLetter 9 = .ok (.ireturn, 1) := by decide +kernel
set_option maxRecDepth 20000 in
theorem ggL_lineLetter_X4_lineLetter : GoodIn wsL_lineLetter wsX4_lineLetter := goodIn_ca (goodIn_r _ [7, 8, 9, 10, 6, 11, 12, 13, 14, 15, 16, 17, 18, 19, 20, 21, 22, 23, 24, 25, 26, 27, 28, 29, 30, 31, 32, 33, 34, 35, 36, 37, 38, 39, 40, 41, 42] (by decide +kernel) (by decide +kernel)) (goodIn_sub (fun _ h => List.mem_cons_of_mem _ (List.mem_append_right _ h)) (by decide +kernel))
set_option maxRecDepth 20000 in
theorem gL_lineLetter_X4_lineLetter : GoodIn wsL_lineLetter (wsV RL 33 RX4 yX4_lineLetter wsX4_lineLetter) := goodIn_app (goodIn_of _ (by decide +kernel)) ggL_lineLetter_X4_lineLetter
theorem dL_wordLetter_0 : decode cL_wordLetter 0 = .ok (.aload_n 0, 1) := by decide +kernel
theorem dL_wordLetter_1 : decode cL_wordLetter 1 = .ok (.iload_n 1, 1) := by decide +kernel
theorem dL_wordLetter_2 : decode cL_wordLetter 2 = .ok (.invokevirtual 37, 3) := by decide +kernel
theorem dL_wordLetter_5 : decode cL_wordLetter 5 = .ok (.ireturn, 1) := by decide +kernel
theorem dL_wordLetter_6 : decode cL_wordLetter 6 = .ok (.astore_n 2, 1) := by decide +kernel
theorem dL_wordLetter_7 : decode cL_wordLetter 7 = .ok (.ldc 17, 2) := by decide +kernel
theorem dL_wordLetter_9 : decode cL_wordLetter 9 = .ok (.ireturn, 1) := by decide +kernel
set_option maxRecDepth 20000 in
theorem ggL_wordLetter_X4_wordLetter : GoodIn wsL_wordLetter wsX4_wordLetter := goodIn_ca (goodIn_r _ [7, 8, 9, 10, 6, 11, 12, 13, 14, 15, 16, 17, 18, 19, 20, 21, 22, 23, 24, 25, 26, 27, 28, 29, 30, 31, 32, 33, 34, 35, 36, 37, 38, 39, 40, 41, 42] (by decide +kernel) (by decide +kernel)) (goodIn_sub (fun _ h => List.mem_cons_of_mem _ (List.mem_append_right _ h)) (by decide +kernel))
set_option maxRecDepth 20000 in
theorem gL_wordLetter_X4_wordLetter : GoodIn wsL_wordLetter (wsV RL 37 RX4 yX4_wordLetter wsX4_wordLetter) := goodIn_app (goodIn_of _ (by decide +kernel)) ggL_wordLetter_X4_wordLetter
theorem dL_found_0 : decode cL_found 0 = .ok (.aload_n 0, 1) := by decide +kernel
theorem dL_found_1 : decode cL_found 1 = .ok (.iload_n 1, 1) := by decide +kernel
theorem dL_found_2 : decode cL_found 2 = .ok (.invokevirtual 40, 3) := by decide +kernel
theorem dL_found_5 : decode cL_found 5 = .ok (.ireturn, 1) := by decide +kernel
theorem dL_found_6 : decode cL_found 6 = .ok (.astore_n 2, 1) := by decide +kernel
theorem dL_found_7 : decode cL_found 7 = .ok (.ldc 17, 2) := by decide +kernel
theorem dL_found_9 : decode cL_found 9 = .ok (.ireturn, 1) := by decide +kernel
set_option maxRecDepth 20000 in
theorem ggL_found_X4_foundPlace : GoodIn wsL_found wsX4_foundPlace := goodIn_ca (goodIn_r _ [7, 8, 9, 10, 6, 11, 12, 13, 14, 15, 16, 17, 18, 19, 20, 21, 22, 23, 24, 25, 26, 27, 28, 29, 30, 31, 32, 33, 34, 35, 36, 37, 38, 39, 40, 41, 42] (by decide +kernel) (by decide +kernel)) (goodIn_sub (fun _ h => List.mem_cons_of_mem _ (List.mem_append_right _ h)) (by decide +kernel))
set_option maxRecDepth 20000 in
theorem gL_found_X4_foundPlace : GoodIn wsL_found (wsV RL 40 RX4 yX4_foundPlace wsX4_foundPlace) := goodIn_app (goodIn_of _ (by decide +kernel)) ggL_found_X4_foundPlace
theorem dL_last_0 : decode cL_last 0 = .ok (.aload_n 0, 1) := by decide +kernel
theorem dL_last_1 : decode cL_last 1 = .ok (.iload_n 1, 1) := by decide +kernel
theorem dL_last_2 : decode cL_last 2 = .ok (.invokevirtual 43, 3) := by decide +kernel
theorem dL_last_5 : decode cL_last 5 = .ok (.ireturn, 1) := by decide +kernel
theorem dL_last_6 : decode cL_last 6 = .ok (.astore_n 2, 1) := by decide +kernel
theorem dL_last_7 : decode cL_last 7 = .ok (.ldc 17, 2) := by decide +kernel
theorem dL_last_9 : decode cL_last 9 = .ok (.ireturn, 1) := by decide +kernel
set_option maxRecDepth 20000 in
theorem ggL_last_X4_lastPlaceOf : GoodIn wsL_last wsX4_lastPlaceOf := goodIn_ca (goodIn_r _ [7, 8, 9, 10, 6, 11, 12, 13, 14, 15, 16, 17, 18, 19, 20, 21, 22, 23, 24, 25, 26, 27, 28, 29, 30, 31, 32, 33, 34, 35, 36, 37] (by decide +kernel) (by decide +kernel)) (goodIn_sub (fun _ h => List.mem_cons_of_mem _ (List.mem_append_right _ h)) (by decide +kernel))
set_option maxRecDepth 20000 in
theorem gL_last_X4_lastPlaceOf : GoodIn wsL_last (wsV RL 43 RX4 yX4_lastPlaceOf wsX4_lastPlaceOf) := goodIn_app (goodIn_of _ (by decide +kernel)) ggL_last_X4_lastPlaceOf
theorem dL_letterSkip_0 : decode cL_letterSkip 0 = .ok (.aload_n 0, 1) := by decide +kernel
theorem dL_letterSkip_1 : decode cL_letterSkip 1 = .ok (.iload_n 1, 1) := by decide +kernel
theorem dL_letterSkip_2 : decode cL_letterSkip 2 = .ok (.iload_n 2, 1) := by decide +kernel
theorem dL_letterSkip_3 : decode cL_letterSkip 3 = .ok (.invokevirtual 46, 3) := by decide +kernel
theorem dL_letterSkip_6 : decode cL_letterSkip 6 = .ok (.ireturn, 1) := by decide +kernel
theorem dL_letterSkip_7 : decode cL_letterSkip 7 = .ok (.astore_n 3, 1) := by decide +kernel
theorem dL_letterSkip_8 : decode cL_letterSkip 8 = .ok (.ldc 17, 2) := by decide +kernel
theorem dL_letterSkip_10 : decode cL_letterSkip 10 = .ok (.ireturn, 1) := by decide +kernel
theorem dL_letterSkip_11 : decode cL_letterSkip 11 = .ok (.astore_n 3, 1) := by decide +kernel
theorem dL_letterSkip_12 : decode cL_letterSkip 12 = .ok (.ldc 32, 2) := by decide +kernel
theorem dL_letterSkip_14 : decode cL_letterSkip 14 = .ok (.ireturn, 1) := by decide +kernel
set_option maxRecDepth 20000 in
theorem ggL_letterSkip_X4_letterSkip : GoodIn wsL_letterSkip wsX4_letterSkip := goodIn_ca (goodIn_ca (goodIn_r _ [9, 10, 11, 12, 8, 13, 14, 15, 16, 17, 18, 19, 20, 21, 22, 23, 24, 25, 26, 27, 28, 29, 30, 31, 32, 33, 34, 35, 36, 37, 38, 39, 40, 41, 42, 43, 44, 45, 46, 47, 48, 49, 50, 51, 52, 53, 54] (by decide +kernel) (by decide +kernel)) (goodIn_sub (fun _ h => List.mem_cons_of_mem _ (List.mem_append_left _ (List.mem_append_right _ h))) (by decide +kernel))) (goodIn_sub (fun _ h => List.mem_cons_of_mem _ (List.mem_append_right _ h)) (by decide +kernel))
set_option maxRecDepth 20000 in
theorem gL_letterSkip_X4_letterSkip : GoodIn wsL_letterSkip (wsV RL 46 RX4 yX4_letterSkip wsX4_letterSkip) := goodIn_app (goodIn_of _ (by decide +kernel)) ggL_letterSkip_X4_letterSkip
theorem dL_endSkip_0 : decode cL_endSkip 0 = .ok (.aload_n 0, 1) := by decide +kernel
theorem dL_endSkip_1 : decode cL_endSkip 1 = .ok (.iload_n 1, 1) := by decide +kernel
theorem dL_endSkip_2 : decode cL_endSkip 2 = .ok (.invokevirtual 49, 3) := by decide +kernel
theorem dL_endSkip_5 : decode cL_endSkip 5 = .ok (.ireturn, 1) := by decide +kernel
theorem dL_endSkip_6 : decode cL_endSkip 6 = .ok (.astore_n 2, 1) := by decide +kernel
theorem dL_endSkip_7 : decode cL_endSkip 7 = .ok (.ldc 17, 2) := by decide +kernel
theorem dL_endSkip_9 : decode cL_endSkip 9 = .ok (.ireturn, 1) := by decide +kernel
set_option maxRecDepth 20000 in
theorem ggL_endSkip_X4_endSkip : GoodIn wsL_endSkip wsX4_endSkip := goodIn_ca (goodIn_r _ [7, 8, 9, 10, 11, 6, 12, 13, 14, 15, 16, 17, 18, 19, 20, 21, 22, 23, 24, 25, 26, 27, 28, 29, 30, 31, 32, 33, 34, 35, 36, 37, 38, 39, 40, 41, 42, 43, 44, 45, 46, 47, 48, 49, 50, 51, 52, 53, 54, 55, 56, 57, 58, 59, 60, 61, 62, 63, 64, 65, 66, 67, 68, 69, 70, 71, 72, 73, 74, 75, 76, 77, 78] (by decide +kernel) (by decide +kernel)) (goodIn_sub (fun _ h => List.mem_cons_of_mem _ (List.mem_append_right _ h)) (by decide +kernel))
set_option maxRecDepth 20000 in
theorem gL_endSkip_X4_endSkip : GoodIn wsL_endSkip (wsV RL 49 RX4 yX4_endSkip wsX4_endSkip) := goodIn_app (goodIn_of _ (by decide +kernel)) ggL_endSkip_X4_endSkip
theorem dL_endTried_0 : decode cL_endTried 0 = .ok (.aload_n 0, 1) := by decide +kernel
theorem dL_endTried_1 : decode cL_endTried 1 = .ok (.iload_n 1, 1) := by decide +kernel
theorem dL_endTried_2 : decode cL_endTried 2 = .ok (.invokevirtual 52, 3) := by decide +kernel
theorem dL_endTried_5 : decode cL_endTried 5 = .ok (.ireturn, 1) := by decide +kernel
theorem dL_endTried_6 : decode cL_endTried 6 = .ok (.astore_n 2, 1) := by decide +kernel
theorem dL_endTried_7 : decode cL_endTried 7 = .ok (.ldc 17, 2) := by decide +kernel
theorem dL_endTried_9 : decode cL_endTried 9 = .ok (.ireturn, 1) := by decide +kernel
set_option maxRecDepth 20000 in
theorem ggL_endTried_X4_endSkipByTrying : GoodIn wsL_endTried wsX4_endSkipByTrying := goodIn_ca (goodIn_r _ [7, 8, 9, 10, 6, 11, 12, 13, 14, 15, 16, 17, 18, 19, 20, 21, 22, 23, 24, 25, 26, 27, 28, 29, 30, 31, 32, 33, 34, 35, 36, 37, 38, 39, 40, 41, 42, 43, 44, 45, 46, 47, 48, 49, 50, 51, 52, 53] (by decide +kernel) (by decide +kernel)) (goodIn_sub (fun _ h => List.mem_cons_of_mem _ (List.mem_append_right _ h)) (by decide +kernel))
set_option maxRecDepth 20000 in
theorem gL_endTried_X4_endSkipByTrying : GoodIn wsL_endTried (wsV RL 52 RX4 yX4_endSkipByTrying wsX4_endSkipByTrying) := goodIn_app (goodIn_of _ (by decide +kernel)) ggL_endTried_X4_endSkipByTrying
theorem dL_difference_0 : decode cL_difference 0 = .ok (.aload_n 0, 1) := by decide +kernel
theorem dL_difference_1 : decode cL_difference 1 = .ok (.iload_n 1, 1) := by decide +kernel
theorem dL_difference_2 : decode cL_difference 2 = .ok (.invokevirtual 55, 3) := by decide +kernel
theorem dL_difference_5 : decode cL_difference 5 = .ok (.ireturn, 1) := by decide +kernel
theorem dL_difference_6 : decode cL_difference 6 = .ok (.astore_n 2, 1) := by decide +kernel
theorem dL_difference_7 : decode cL_difference 7 = .ok (.ldc 17, 2) := by decide +kernel
theorem dL_difference_9 : decode cL_difference 9 = .ok (.ireturn, 1) := by decide +kernel
theorem dL_difference_10 : decode cL_difference 10 = .ok (.astore_n 2, 1) := by decide +kernel
theorem dL_difference_11 : decode cL_difference 11 = .ok (.ldc 32, 2) := by decide +kernel
theorem dL_difference_13 : decode cL_difference 13 = .ok (.ireturn, 1) := by decide +kernel
set_option maxRecDepth 20000 in
theorem ggL_difference_X4_differenceAt : GoodIn wsL_difference wsX4_differenceAt := goodIn_ca (goodIn_ca (goodIn_r _ [9, 10, 11, 12, 13, 14, 15, 16, 17, 18, 19, 20, 21, 22, 23, 24, 25, 26, 27, 28, 29, 30, 31, 32, 33, 34, 35, 36, 37, 38, 39, 40, 41, 42, 43, 44, 45, 46, 47, 48, 49, 50, 51, 52, 53, 54, 55, 56, 57, 58, 59, 60, 61, 62, 63, 64, 65] (by decide +kernel) (by decide +kernel)) (goodIn_sub (fun _ h => List.mem_cons_of_mem _ (List.mem_append_left _ (List.mem_append_right _ h))) (by decide +kernel))) (goodIn_sub (fun _ h => List.mem_cons_of_mem _ (List.mem_append_right _ h)) (by decide +kernel))
set_option maxRecDepth 20000 in
theorem gL_difference_X4_differenceAt : GoodIn wsL_difference (wsV RL 55 RX4 yX4_differenceAt wsX4_differenceAt) := goodIn_app (goodIn_of _ (by decide +kernel)) ggL_difference_X4_differenceAt
theorem dL_append_0 : decode cL_append 0 = .ok (.aload_n 0, 1) := by decide +kernel
theorem dL_append_1 : decode cL_append 1 = .ok (.lload_n 1, 1) := by decide +kernel
theorem dL_append_2 : decode cL_append 2 = .ok (.invokevirtual 58, 3) := by decide +kernel
theorem dL_append_5 : decode cL_append 5 = .ok (.ireturn, 1) := by decide +kernel
theorem dL_append_6 : decode cL_append 6 = .ok (.astore_n 3, 1) := by decide +kernel
theorem dL_append_7 : decode cL_append 7 = .ok (.ldc 17, 2) := by decide +kernel
theorem dL_append_9 : decode cL_append 9 = .ok (.ireturn, 1) := by decide +kernel
theorem dL_append_10 : decode cL_append 10 = .ok (.astore_n 3, 1) := by decide +kernel
theorem dL_append_11 : decode cL_append 11 = .ok (.ldc 32, 2) := by decide +kernel
theorem dL_append_13 : decode cL_append 13 = .ok (.ireturn, 1) := by decide +kernel
set_option maxRecDepth 20000 in
theorem ggL_append_X4_appendText : GoodIn wsL_append wsX4_appendText := goodIn_ca (goodIn_ca (goodIn_r _ [9, 10, 11, 12, 13, 14, 15, 16, 8, 17, 18, 19, 20, 21, 22, 23, 24, 25, 26, 27, 28, 29, 30, 31, 32, 33, 34, 35, 36, 37, 38, 39, 40, 41, 42, 43, 44] (by decide +kernel) (by decide +kernel)) (goodIn_sub (fun _ h => List.mem_cons_of_mem _ (List.mem_append_left _ (List.mem_append_right _ h))) (by decide +kernel))) (goodIn_sub (fun _ h => List.mem_cons_of_mem _ (List.mem_append_right _ h)) (by decide +kernel))
set_option maxRecDepth 20000 in
theorem gL_append_X4_appendText : GoodIn wsL_append (wsV RL 58 RX4 yX4_appendText wsX4_appendText) := goodIn_app (goodIn_of _ (by decide +kernel)) ggL_append_X4_appendText
theorem dL_undo_0 : decode cL_undo 0 = .ok (.aload_n 0, 1) := by decide +kernel
theorem dL_undo_1 : decode cL_undo 1 = .ok (.invokevirtual 62, 3) := by decide +kernel
theorem dL_undo_4 : decode cL_undo 4 = .ok (.ireturn, 1) := by decide +kernel
theorem dL_undo_5 : decode cL_undo 5 = .ok (.astore_n 1, 1) := by decide +kernel
theorem dL_undo_6 : decode cL_undo 6 = .ok (.ldc 17, 2) := by decide +kernel
theorem dL_undo_8 : decode cL_undo 8 = .ok (.ireturn, 1) := by decide +kernel
set_option maxRecDepth 20000 in
theorem ggL_undo_X4_undo : GoodIn wsL_undo wsX4_undo := goodIn_ca (goodIn_r _ [7, 8, 9, 10, 11, 12, 13, 14, 15, 16, 17, 18, 19, 20, 21, 22, 23, 24, 25, 26, 27, 28, 29, 30, 31, 32, 33, 34, 35, 36, 37, 38, 39, 40, 41, 42, 43, 44, 45, 46, 47, 48, 49, 50, 51, 52, 53, 54, 55, 56, 57, 58, 59, 60, 61, 62, 63, 64, 65, 66, 67, 68, 69] (by decide +kernel) (by decide +kernel)) (goodIn_sub (fun _ h => List.mem_cons_of_mem _ (List.mem_append_right _ h)) (by decide +kernel))
set_option maxRecDepth 20000 in
theorem gL_undo_X4_undo : GoodIn wsL_undo (wsV RL 62 RX4 yX4_undo wsX4_undo) := goodIn_app (goodIn_of _ (by decide +kernel)) ggL_undo_X4_undo
theorem dL_save_0 : decode cL_save 0 = .ok (.aload_n 0, 1) := by decide +kernel
theorem dL_save_1 : decode cL_save 1 = .ok (.iload_n 1, 1) := by decide +kernel
theorem dL_save_2 : decode cL_save 2 = .ok (.invokevirtual 65, 3) := by decide +kernel
theorem dL_save_5 : decode cL_save 5 = .ok (.ireturn, 1) := by decide +kernel
theorem dL_save_6 : decode cL_save 6 = .ok (.astore_n 2, 1) := by decide +kernel
theorem dL_save_7 : decode cL_save 7 = .ok (.ldc 17, 2) := by decide +kernel
theorem dL_save_9 : decode cL_save 9 = .ok (.ireturn, 1) := by decide +kernel
set_option maxRecDepth 20000 in
theorem ggL_save_X4_saveState : GoodIn wsL_save wsX4_saveState := goodIn_ca (goodIn_r _ [7, 8, 9, 10, 11, 12, 6, 13, 14, 15, 16, 17, 18, 19, 20, 21, 22, 23, 24, 25, 26, 27, 28, 29, 30, 31, 32, 33, 34, 35, 36, 37, 38, 39, 40, 41, 42, 43, 44, 45, 46, 47, 48, 49, 50, 51, 52, 53, 54, 55, 56, 57, 58, 59, 60, 61, 62, 63, 64] (by decide +kernel) (by decide +kernel)) (goodIn_sub (fun _ h => List.mem_cons_of_mem _ (List.mem_append_right _ h)) (by decide +kernel))
set_option maxRecDepth 20000 in
theorem gL_save_X4_saveState : GoodIn wsL_save (wsV RL 65 RX4 yX4_saveState wsX4_saveState) := goodIn_app (goodIn_of _ (by decide +kernel)) ggL_save_X4_saveState
theorem dL_load_0 : decode cL_load 0 = .ok (.aload_n 0, 1) := by decide +kernel
theorem dL_load_1 : decode cL_load 1 = .ok (.iload_n 1, 1) := by decide +kernel
theorem dL_load_2 : decode cL_load 2 = .ok (.invokevirtual 68, 3) := by decide +kernel
theorem dL_load_5 : decode cL_load 5 = .ok (.ireturn, 1) := by decide +kernel
theorem dL_load_6 : decode cL_load 6 = .ok (.astore_n 2, 1) := by decide +kernel
theorem dL_load_7 : decode cL_load 7 = .ok (.ldc 17, 2) := by decide +kernel
theorem dL_load_9 : decode cL_load 9 = .ok (.ireturn, 1) := by decide +kernel
theorem dL_load_10 : decode cL_load 10 = .ok (.astore_n 2, 1) := by decide +kernel
theorem dL_load_11 : decode cL_load 11 = .ok (.ldc 32, 2) := by decide +kernel
theorem dL_load_13 : decode cL_load 13 = .ok (.ireturn, 1) := by decide +kernel
set_option maxRecDepth 20000 in
theorem ggL_load_X4_loadState : GoodIn wsL_load wsX4_loadState := goodIn_ca (goodIn_ca (goodIn_r _ [9, 10, 11, 12, 13, 14, 15, 16, 17, 8, 18, 19, 20, 21, 22, 23, 24, 25, 26, 27, 28, 29, 30, 31, 32, 33, 34, 35, 36, 37, 38, 39, 40, 41, 42, 43, 44, 45, 46, 47, 48, 49, 50, 51, 52, 53, 54, 55, 56, 57, 58, 59, 60, 61, 62, 63, 64, 65, 66, 67, 68, 69, 70, 71, 72, 73, 74, 75, 76, 77, 78, 79, 80, 81, 82, 83] (by decide +kernel) (by decide +kernel)) (goodIn_sub (fun _ h => List.mem_cons_of_mem _ (List.mem_append_left _ (List.mem_append_right _ h))) (by decide +kernel))) (goodIn_sub (fun _ h => List.mem_cons_of_mem _ (List.mem_append_right _ h)) (by decide +kernel))
set_option maxRecDepth 20000 in
theorem gL_load_X4_loadState : GoodIn wsL_load (wsV RL 68 RX4 yX4_loadState wsX4_loadState) := goodIn_app (goodIn_of _ (by decide +kernel)) ggL_load_X4_loadState
set_option maxHeartbeats 4000000 in
set_option maxRecDepth 100000 in
theorem c_L_takeLine (l : Launch) (hfl : l.stackTraces = false) (D : va_G) (cy : Nat → ClassId) (ad : Nat → Nat) (z : Nat → Int) (f : Nat → Nat → Int32) (M : MS) (nx : Int) (ct : Int) (Zh : Nat → Nat → Int) (Fh : Nat → Nat → Nat → Int32) (h : List MS) (tn : Int) (tf : Nat → Int32) (tx : List Int32) (hR : RS z f M) (hM : MOk M) (hH : RXH nx ct Zh Fh h) (hX : Rep tn tf tx ∧ tx.length ≤ 80) : Ni l D cy yL_takeLine wsL_takeLine 8 133 1 [.ref (ad 0)] (List.flatten [wTop ad, wSt cy ad 1 z f, wHb ad ct, wKb cy ad nx, wSt cy ad 20 (Zh 0) (Fh 0), wSt cy ad 27 (Zh 1) (Fh 1), wSt cy ad 34 (Zh 2) (Fh 2), wSt cy ad 41 (Zh 3) (Fh 3), wSt cy ad 48 (Zh 4) (Fh 4), wSt cy ad 55 (Zh 5) (Fh 5), wTx cy ad tn tf]) (fun (r : Int32) (u : (Nat → Int) × (Nat → Nat → Int32) × Int × Int × (Nat → Nat → Int) × (Nat → Nat → Nat → Int32) × Int) => (((errF tx 0 = -1 ∧ (tx.length : Int) ≤ 60) ∧ r = iI (tx.length : Int) ∧ RS u.1 u.2.1 (mTakeL M tx) ∧ RXH u.2.2.1 u.2.2.2.1 u.2.2.2.2.1 u.2.2.2.2.2.1 (pushH h M)) ∧ u.2.2.2.2.2.2 = 0) ∨ (r = iI 90001 ∧ (¬ (errF tx 0 = -1 ∧ (tx.length : Int) ≤ 60)) ∧ u.1 = z ∧ u.2.1 = f ∧ u.2.2.1 = nx ∧ u.2.2.2.1 = ct ∧ u.2.2.2.2.1 = Zh ∧ u.2.2.2.2.2.1 = Fh ∧ u.2.2.2.2.2.2 = tn)) (fun u : (Nat → Int) × (Nat → Nat → Int32) × Int × Int × (Nat → Nat → Int) × (Nat → Nat → Nat → Int32) × Int => (List.flatten [wTop ad, wSt cy ad 1 u.1 u.2.1, wHb ad u.2.2.2.1, wKb cy ad u.2.2.1, wSt cy ad 20 (u.2.2.2.2.1 0) (u.2.2.2.2.2.1 0), wSt cy ad 27 (u.2.2.2.2.1 1) (u.2.2.2.2.2.1 1), wSt cy ad 34 (u.2.2.2.2.1 2) (u.2.2.2.2.2.1 2), wSt cy ad 41 (u.2.2.2.2.1 3) (u.2.2.2.2.2.1 3), wSt cy ad 48 (u.2.2.2.2.1 4) (u.2.2.2.2.2.1 4), wSt cy ad 55 (u.2.2.2.2.1 5) (u.2.2.2.2.2.1 5), wTx cy ad u.2.2.2.2.2.2 tf])) := by
  refine Ni_of (cc := cL_takeLine) (maxL := 2) (ret := (some .int)) (hh := [(0, 4, 5, 15)]) (by decide) rfl rfl ?_
  intro p e s m args below meth c A hx hb hr hts hown hlocks hml htab hP hK hD hT hC hZ hA ls hl
  have hS : va_S A s.heap s.heap [] := va_S.rf
  have hl : lv_has ls 2 [(0, .ref (ad 0))] := hl
  have hP : va_P D vwCl (List.flatten [wTop ad, wSt cy ad 1 z f, wHb ad ct, wKb cy ad nx, wSt cy ad 20 (Zh 0) (Fh 0), wSt cy ad 27 (Zh 1) (Fh 1), wSt cy ad 34 (Zh 2) (Fh 2), wSt cy ad 41 (Zh 3) (Fh 3), wSt cy ad 48 (Zh 4) (Fh 4), wSt cy ad 55 (Zh 5) (Fh 5), wTx cy ad tn tf]) s.heap := hP
  have hD : va_D A (List.flatten [wTop ad, wSt cy ad 1 z f, wHb ad ct, wKb cy ad nx, wSt cy ad 20 (Zh 0) (Fh 0), wSt cy ad 27 (Zh 1) (Fh 1), wSt cy ad 34 (Zh 2) (Fh 2), wSt cy ad 41 (Zh 3) (Fh 3), wSt cy ad 48 (Zh 4) (Fh 4), wSt cy ad 55 (Zh 5) (Fh 5), wTx cy ad tn tf]) := hD
  refine lv_aload_n hx hb dL_takeLine_0 rfl (lv_at hl 0 rfl) ?_
  refine h_gVi (n := 0) (b := ad 0) (As := []) (rest := []) ⟨hx, hb, hml, hown, hts⟩ (c_X4_takeLine l hfl D cy ad z f M nx ct Zh Fh h tn tf tx (by first | assumption | omega) (by first | assumption | omega) (by first | assumption | omega) (by first | assumption | omega)) gL_takeLine_X4_takeLine rfl (by decide +kernel) ⟨Nat.le_of_ble_eq_true rfl, Nat.le_of_ble_eq_true rfl⟩ hK hT hC hZ hP hS (Fp.blocks hP hD hS hA (cs := [wTop ad, wSt cy ad 1 z f, wHb ad ct, wKb cy ad nx, wSt cy ad 20 (Zh 0) (Fh 0), wSt cy ad 27 (Zh 1) (Fh 1), wSt cy ad 34 (Zh 2) (Fh 2), wSt cy ad 41 (Zh 3) (Fh 3), wSt cy ad 48 (Zh 4) (Fh 4), wSt cy ad 55 (Zh 5) (Fh 5), wTx cy ad tn tf]) (nb := fun (u : (Nat → Int) × (Nat → Nat → Int32) × Int × Int × (Nat → Nat → Int) × (Nat → Nat → Nat → Int32)) => [wTop ad, wSt cy ad 1 u.1 u.2.1, wHb ad u.2.2.2.1, wKb cy ad u.2.2.1, wSt cy ad 20 (u.2.2.2.2.1 0) (u.2.2.2.2.2 0), wSt cy ad 27 (u.2.2.2.2.1 1) (u.2.2.2.2.2 1), wSt cy ad 34 (u.2.2.2.2.1 2) (u.2.2.2.2.2 2), wSt cy ad 41 (u.2.2.2.2.1 3) (u.2.2.2.2.2 3), wSt cy ad 48 (u.2.2.2.2.1 4) (u.2.2.2.2.2 4), wSt cy ad 55 (u.2.2.2.2.1 5) (u.2.2.2.2.2 5), wTx cy ad 0 tf]) (nbs := fun (u : (Nat → Int) × (Nat → Nat → Int32) × Int × Int × (Nat → Nat → Int) × (Nat → Nat → Nat → Int32)) => [wTop ad, wSt cy ad 1 u.1 u.2.1, wHb ad u.2.2.2.1, wKb cy ad u.2.2.1, wSt cy ad 20 (u.2.2.2.2.1 0) (u.2.2.2.2.2 0), wSt cy ad 27 (u.2.2.2.2.1 1) (u.2.2.2.2.2 1), wSt cy ad 34 (u.2.2.2.2.1 2) (u.2.2.2.2.2 2), wSt cy ad 41 (u.2.2.2.2.1 3) (u.2.2.2.2.2 3), wSt cy ad 48 (u.2.2.2.2.1 4) (u.2.2.2.2.2 4), wSt cy ad 55 (u.2.2.2.2.1 5) (u.2.2.2.2.2 5), wTx cy ad 0 tf]) [0, 1, 2, 3, 4, 5, 6, 7, 8, 9, 10] rfl rfl rfl (fun _ => rfl) (fun _ => rfl) (fun _ => rfl)) (Fp.same hP hD hS hA [0, 1, 2, 3, 4, 5, 6, 7, 8, 9, 10, 11, 12, 13, 14, 15, 16, 17, 18, 19, 20, 21, 22, 23, 24, 25, 26, 27, 28, 29, 30, 31, 32, 33, 34, 35, 36, 37, 38, 39, 40, 41, 42, 43, 44, 45, 46, 47, 48, 49, 50, 51, 52, 53] rfl rfl (fun _ => rfl)) 0 4 rfl rfl rfl rfl hl.1 rfl (Nat.le_of_ble_eq_true rfl) dL_takeLine_1 ⟨by decide, by decide⟩ (fun E ce q9 H locs hpx hP hD hS hce hcv hcl => ?_) (fun r_1 u_1 H locs hw_1 hP hD hS => ?_)
  · --
    rcases hpx with ⟨rfl, hcond⟩
    · --
      refine vx_catch (name := "java/lang/IllegalStateException") hown [] _ _ (htab.trans rfl) (by intro z hz; cases hz) (by decide) (by decide) (hts (.classLink RL 15 "java/lang/IllegalStateException") (by decide +kernel)) (va_Nw.use rfl (hC.1 xISE (List.mem_of_getElem? (i := 0) rfl))) hce hcv hcl ?_
      refine W.eq (g2 := F0 m 5 ls [.ref q9]) rfl ?_
      have hP : va_P D vwCl (List.flatten [wTop ad, wSt cy ad 1 z f, wHb ad ct, wKb cy ad nx, wSt cy ad 20 (Zh 0) (Fh 0), wSt cy ad 27 (Zh 1) (Fh 1), wSt cy ad 34 (Zh 2) (Fh 2), wSt cy ad 41 (Zh 3) (Fh 3), wSt cy ad 48 (Zh 4) (Fh 4), wSt cy ad 55 (Zh 5) (Fh 5), wTx cy ad tn tf]) H := hP
      have hD : va_D A (List.flatten [wTop ad, wSt cy ad 1 z f, wHb ad ct, wKb cy ad nx, wSt cy ad 20 (Zh 0) (Fh 0), wSt cy ad 27 (Zh 1) (Fh 1), wSt cy ad 34 (Zh 2) (Fh 2), wSt cy ad 41 (Zh 3) (Fh 3), wSt cy ad 48 (Zh 4) (Fh 4), wSt cy ad 55 (Zh 5) (Fh 5), wTx cy ad tn tf]) := hD
      refine lv_astore_n (lv' := [(1, .ref q9), (0, .ref (ad 0))]) hx hb dL_takeLine_5 rfl hl (by decide) rfl (fun ls hl => ?_)
      refine lv_ldc (own := RL) (index := 17) (v := 90001) hx hb hown (hts (.constant RL 17 (90001)) (by decide +kernel)) dL_takeLine_6 ?_
      refine z_top (show (90001 : Int32) = iI 90001 from by decide +kernel) ?_
      refine W.widen (k := 1) (n := 6 * 1) (by decide) (by decide) ?_
      exact z_iret hx hb hr hlocks hS (z, f, nx, ct, Zh, Fh, tn) (show (((errF tx 0 = -1 ∧ (tx.length : Int) ≤ 60) ∧ (iI 90001) = iI (tx.length : Int) ∧ RS z f (mTakeL M tx) ∧ RXH nx ct Zh Fh (pushH h M)) ∧ tn = 0) ∨ ((iI 90001) = iI 90001 ∧ (¬ (errF tx 0 = -1 ∧ (tx.length : Int) ≤ 60)) ∧ z = z ∧ f = f ∧ nx = nx ∧ ct = ct ∧ Zh = Zh ∧ Fh = Fh ∧ tn = tn) from (Or.inr ⟨rfl, hcond, rfl, rfl, rfl, rfl, rfl, rfl, rfl⟩)) hP dL_takeLine_8
  · --
    obtain ⟨z1_1, f1_1, nx1_1, ct1_1, Zh1_1, Fh1_1⟩ := u_1
    have hw_1 : (errF tx 0 = -1 ∧ (tx.length : Int) ≤ 60) ∧ r_1 = iI (tx.length : Int) ∧ RS z1_1 f1_1 (mTakeL M tx) ∧ RXH nx1_1 ct1_1 Zh1_1 Fh1_1 (pushH h M) := hw_1
    have hP : va_P D vwCl (List.flatten [wTop ad, wSt cy ad 1 z1_1 f1_1, wHb ad ct1_1, wKb cy ad nx1_1, wSt cy ad 20 (Zh1_1 0) (Fh1_1 0), wSt cy ad 27 (Zh1_1 1) (Fh1_1 1), wSt cy ad 34 (Zh1_1 2) (Fh1_1 2), wSt cy ad 41 (Zh1_1 3) (Fh1_1 3), wSt cy ad 48 (Zh1_1 4) (Fh1_1 4), wSt cy ad 55 (Zh1_1 5) (Fh1_1 5), wTx cy ad 0 tf]) H := hP
    have hD : va_D A (List.flatten [wTop ad, wSt cy ad 1 z1_1 f1_1, wHb ad ct1_1, wKb cy ad nx1_1, wSt cy ad 20 (Zh1_1 0) (Fh1_1 0), wSt cy ad 27 (Zh1_1 1) (Fh1_1 1), wSt cy ad 34 (Zh1_1 2) (Fh1_1 2), wSt cy ad 41 (Zh1_1 3) (Fh1_1 3), wSt cy ad 48 (Zh1_1 4) (Fh1_1 4), wSt cy ad 55 (Zh1_1 5) (Fh1_1 5), wTx cy ad 0 tf]) := hD
    refine W.widen (k := 1) (n := 6 * 1) (by decide) (by decide) ?_
    exact z_iret hx hb hr hlocks hS (z1_1, f1_1, nx1_1, ct1_1, Zh1_1, Fh1_1, 0) (show (((errF tx 0 = -1 ∧ (tx.length : Int) ≤ 60) ∧ r_1 = iI (tx.length : Int) ∧ RS z1_1 f1_1 (mTakeL M tx) ∧ RXH nx1_1 ct1_1 Zh1_1 Fh1_1 (pushH h M)) ∧ 0 = 0) ∨ (r_1 = iI 90001 ∧ (¬ (errF tx 0 = -1 ∧ (tx.length : Int) ≤ 60)) ∧ z1_1 = z ∧ f1_1 = f ∧ nx1_1 = nx ∧ ct1_1 = ct ∧ Zh1_1 = Zh ∧ Fh1_1 = Fh ∧ 0 = tn) from (Or.inl ⟨hw_1, rfl⟩)) hP dL_takeLine_4
set_option maxHeartbeats 4000000 in
set_option maxRecDepth 100000 in
theorem c_L_takeWord (l : Launch) (hfl : l.stackTraces = false) (D : va_G) (cy : Nat → ClassId) (ad : Nat → Nat) (z : Nat → Int) (f : Nat → Nat → Int32) (M : MS) (nx : Int) (ct : Int) (Zh : Nat → Nat → Int) (Fh : Nat → Nat → Nat → Int32) (h : List MS) (tn : Int) (tf : Nat → Int32) (tx : List Int32) (hR : RS z f M) (hM : MOk M) (hH : RXH nx ct Zh Fh h) (hX : Rep tn tf tx ∧ tx.length ≤ 80) : Ni l D cy yL_takeWord wsL_takeWord 8 133 1 [.ref (ad 0)] (List.flatten [wTop ad, wSt cy ad 1 z f, wHb ad ct, wKb cy ad nx, wSt cy ad 20 (Zh 0) (Fh 0), wSt cy ad 27 (Zh 1) (Fh 1), wSt cy ad 34 (Zh 2) (Fh 2), wSt cy ad 41 (Zh 3) (Fh 3), wSt cy ad 48 (Zh 4) (Fh 4), wSt cy ad 55 (Zh 5) (Fh 5), wTx cy ad tn tf]) (fun (r : Int32) (u : (Nat → Int) × (Nat → Nat → Int32) × Int × Int × (Nat → Nat → Int) × (Nat → Nat → Nat → Int32) × Int) => (((errF tx 0 = -1 ∧ (tx.length : Int) ≤ 16) ∧ r = iI (tx.length : Int) ∧ RS u.1 u.2.1 (mTakeW M tx) ∧ RXH u.2.2.1 u.2.2.2.1 u.2.2.2.2.1 u.2.2.2.2.2.1 (pushH h M)) ∧ u.2.2.2.2.2.2 = 0) ∨ (r = iI 90001 ∧ (¬ (errF tx 0 = -1 ∧ (tx.length : Int) ≤ 16)) ∧ u.1 = z ∧ u.2.1 = f ∧ u.2.2.1 = nx ∧ u.2.2.2.1 = ct ∧ u.2.2.2.2.1 = Zh ∧ u.2.2.2.2.2.1 = Fh ∧ u.2.2.2.2.2.2 = tn)) (fun u : (Nat → Int) × (Nat → Nat → Int32) × Int × Int × (Nat → Nat → Int) × (Nat → Nat → Nat → Int32) × Int => (List.flatten [wTop ad, wSt cy ad 1 u.1 u.2.1, wHb ad u.2.2.2.1, wKb cy ad u.2.2.1, wSt cy ad 20 (u.2.2.2.2.1 0) (u.2.2.2.2.2.1 0), wSt cy ad 27 (u.2.2.2.2.1 1) (u.2.2.2.2.2.1 1), wSt cy ad 34 (u.2.2.2.2.1 2) (u.2.2.2.2.2.1 2), wSt cy ad 41 (u.2.2.2.2.1 3) (u.2.2.2.2.2.1 3), wSt cy ad 48 (u.2.2.2.2.1 4) (u.2.2.2.2.2.1 4), wSt cy ad 55 (u.2.2.2.2.1 5) (u.2.2.2.2.2.1 5), wTx cy ad u.2.2.2.2.2.2 tf])) := by
  refine Ni_of (cc := cL_takeWord) (maxL := 2) (ret := (some .int)) (hh := [(0, 4, 5, 15)]) (by decide) rfl rfl ?_
  intro p e s m args below meth c A hx hb hr hts hown hlocks hml htab hP hK hD hT hC hZ hA ls hl
  have hS : va_S A s.heap s.heap [] := va_S.rf
  have hl : lv_has ls 2 [(0, .ref (ad 0))] := hl
  have hP : va_P D vwCl (List.flatten [wTop ad, wSt cy ad 1 z f, wHb ad ct, wKb cy ad nx, wSt cy ad 20 (Zh 0) (Fh 0), wSt cy ad 27 (Zh 1) (Fh 1), wSt cy ad 34 (Zh 2) (Fh 2), wSt cy ad 41 (Zh 3) (Fh 3), wSt cy ad 48 (Zh 4) (Fh 4), wSt cy ad 55 (Zh 5) (Fh 5), wTx cy ad tn tf]) s.heap := hP
  have hD : va_D A (List.flatten [wTop ad, wSt cy ad 1 z f, wHb ad ct, wKb cy ad nx, wSt cy ad 20 (Zh 0) (Fh 0), wSt cy ad 27 (Zh 1) (Fh 1), wSt cy ad 34 (Zh 2) (Fh 2), wSt cy ad 41 (Zh 3) (Fh 3), wSt cy ad 48 (Zh 4) (Fh 4), wSt cy ad 55 (Zh 5) (Fh 5), wTx cy ad tn tf]) := hD
  refine lv_aload_n hx hb dL_takeWord_0 rfl (lv_at hl 0 rfl) ?_
  refine h_gVi (n := 0) (b := ad 0) (As := []) (rest := []) ⟨hx, hb, hml, hown, hts⟩ (c_X4_takeWord l hfl D cy ad z f M nx ct Zh Fh h tn tf tx (by first | assumption | omega) (by first | assumption | omega) (by first | assumption | omega) (by first | assumption | omega)) gL_takeWord_X4_takeWord rfl (by decide +kernel) ⟨Nat.le_of_ble_eq_true rfl, Nat.le_of_ble_eq_true rfl⟩ hK hT hC hZ hP hS (Fp.blocks hP hD hS hA (cs := [wTop ad, wSt cy ad 1 z f, wHb ad ct, wKb cy ad nx, wSt cy ad 20 (Zh 0) (Fh 0), wSt cy ad 27 (Zh 1) (Fh 1), wSt cy ad 34 (Zh 2) (Fh 2), wSt cy ad 41 (Zh 3) (Fh 3), wSt cy ad 48 (Zh 4) (Fh 4), wSt cy ad 55 (Zh 5) (Fh 5), wTx cy ad tn tf]) (nb := fun (u : (Nat → Int) × (Nat → Nat → Int32) × Int × Int × (Nat → Nat → Int) × (Nat → Nat → Nat → Int32)) => [wTop ad, wSt cy ad 1 u.1 u.2.1, wHb ad u.2.2.2.1, wKb cy ad u.2.2.1, wSt cy ad 20 (u.2.2.2.2.1 0) (u.2.2.2.2.2 0), wSt cy ad 27 (u.2.2.2.2.1 1) (u.2.2.2.2.2 1), wSt cy ad 34 (u.2.2.2.2.1 2) (u.2.2.2.2.2 2), wSt cy ad 41 (u.2.2.2.2.1 3) (u.2.2.2.2.2 3), wSt cy ad 48 (u.2.2.2.2.1 4) (u.2.2.2.2.2 4), wSt cy ad 55 (u.2.2.2.2.1 5) (u.2.2.2.2.2 5), wTx cy ad 0 tf]) (nbs := fun (u : (Nat → Int) × (Nat → Nat → Int32) × Int × Int × (Nat → Nat → Int) × (Nat → Nat → Nat → Int32)) => [wTop ad, wSt cy ad 1 u.1 u.2.1, wHb ad u.2.2.2.1, wKb cy ad u.2.2.1, wSt cy ad 20 (u.2.2.2.2.1 0) (u.2.2.2.2.2 0), wSt cy ad 27 (u.2.2.2.2.1 1) (u.2.2.2.2.2 1), wSt cy ad 34 (u.2.2.2.2.1 2) (u.2.2.2.2.2 2), wSt cy ad 41 (u.2.2.2.2.1 3) (u.2.2.2.2.2 3), wSt cy ad 48 (u.2.2.2.2.1 4) (u.2.2.2.2.2 4), wSt cy ad 55 (u.2.2.2.2.1 5) (u.2.2.2.2.2 5), wTx cy ad 0 tf]) [0, 1, 2, 3, 4, 5, 6, 7, 8, 9, 10] rfl rfl rfl (fun _ => rfl) (fun _ => rfl) (fun _ => rfl)) (Fp.same hP hD hS hA [0, 1, 2, 3, 4, 5, 6, 7, 8, 9, 10, 11, 12, 13, 14, 15, 16, 17, 18, 19, 20, 21, 22, 23, 24, 25, 26, 27, 28, 29, 30, 31, 32, 33, 34, 35, 36, 37, 38, 39, 40, 41, 42, 43, 44, 45, 46, 47, 48, 49, 50, 51, 52, 53] rfl rfl (fun _ => rfl)) 0 4 rfl rfl rfl rfl hl.1 rfl (Nat.le_of_ble_eq_true rfl) dL_takeWord_1 ⟨by decide, by decide⟩ (fun E ce q9 H locs hpx hP hD hS hce hcv hcl => ?_) (fun r_1 u_1 H locs hw_1 hP hD hS => ?_)
  · --
    rcases hpx with ⟨rfl, hcond⟩
    · --
      refine vx_catch (name := "java/lang/IllegalStateException") hown [] _ _ (htab.trans rfl) (by intro z hz; cases hz) (by decide) (by decide) (hts (.classLink RL 15 "java/lang/IllegalStateException") (by decide +kernel)) (va_Nw.use rfl (hC.1 xISE (List.mem_of_getElem? (i := 0) rfl))) hce hcv hcl ?_
      refine W.eq (g2 := F0 m 5 ls [.ref q9]) rfl ?_
      have hP : va_P D vwCl (List.flatten [wTop ad, wSt cy ad 1 z f, wHb ad ct, wKb cy ad nx, wSt cy ad 20 (Zh 0) (Fh 0), wSt cy ad 27 (Zh 1) (Fh 1), wSt cy ad 34 (Zh 2) (Fh 2), wSt cy ad 41 (Zh 3) (Fh 3), wSt cy ad 48 (Zh 4) (Fh 4), wSt cy ad 55 (Zh 5) (Fh 5), wTx cy ad tn tf]) H := hP
      have hD : va_D A (List.flatten [wTop ad, wSt cy ad 1 z f, wHb ad ct, wKb cy ad nx, wSt cy ad 20 (Zh 0) (Fh 0), wSt cy ad 27 (Zh 1) (Fh 1), wSt cy ad 34 (Zh 2) (Fh 2), wSt cy ad 41 (Zh 3) (Fh 3), wSt cy ad 48 (Zh 4) (Fh 4), wSt cy ad 55 (Zh 5) (Fh 5), wTx cy ad tn tf]) := hD
      refine lv_astore_n (lv' := [(1, .ref q9), (0, .ref (ad 0))]) hx hb dL_takeWord_5 rfl hl (by decide) rfl (fun ls hl => ?_)
      refine lv_ldc (own := RL) (index := 17) (v := 90001) hx hb hown (hts (.constant RL 17 (90001)) (by decide +kernel)) dL_takeWord_6 ?_
      refine z_top (show (90001 : Int32) = iI 90001 from by decide +kernel) ?_
      refine W.widen (k := 1) (n := 6 * 1) (by decide) (by decide) ?_
      exact z_iret hx hb hr hlocks hS (z, f, nx, ct, Zh, Fh, tn) (show (((errF tx 0 = -1 ∧ (tx.length : Int) ≤ 16) ∧ (iI 90001) = iI (tx.length : Int) ∧ RS z f (mTakeW M tx) ∧ RXH nx ct Zh Fh (pushH h M)) ∧ tn = 0) ∨ ((iI 90001) = iI 90001 ∧ (¬ (errF tx 0 = -1 ∧ (tx.length : Int) ≤ 16)) ∧ z = z ∧ f = f ∧ nx = nx ∧ ct = ct ∧ Zh = Zh ∧ Fh = Fh ∧ tn = tn) from (Or.inr ⟨rfl, hcond, rfl, rfl, rfl, rfl, rfl, rfl, rfl⟩)) hP dL_takeWord_8
  · --
    obtain ⟨z1_1, f1_1, nx1_1, ct1_1, Zh1_1, Fh1_1⟩ := u_1
    have hw_1 : (errF tx 0 = -1 ∧ (tx.length : Int) ≤ 16) ∧ r_1 = iI (tx.length : Int) ∧ RS z1_1 f1_1 (mTakeW M tx) ∧ RXH nx1_1 ct1_1 Zh1_1 Fh1_1 (pushH h M) := hw_1
    have hP : va_P D vwCl (List.flatten [wTop ad, wSt cy ad 1 z1_1 f1_1, wHb ad ct1_1, wKb cy ad nx1_1, wSt cy ad 20 (Zh1_1 0) (Fh1_1 0), wSt cy ad 27 (Zh1_1 1) (Fh1_1 1), wSt cy ad 34 (Zh1_1 2) (Fh1_1 2), wSt cy ad 41 (Zh1_1 3) (Fh1_1 3), wSt cy ad 48 (Zh1_1 4) (Fh1_1 4), wSt cy ad 55 (Zh1_1 5) (Fh1_1 5), wTx cy ad 0 tf]) H := hP
    have hD : va_D A (List.flatten [wTop ad, wSt cy ad 1 z1_1 f1_1, wHb ad ct1_1, wKb cy ad nx1_1, wSt cy ad 20 (Zh1_1 0) (Fh1_1 0), wSt cy ad 27 (Zh1_1 1) (Fh1_1 1), wSt cy ad 34 (Zh1_1 2) (Fh1_1 2), wSt cy ad 41 (Zh1_1 3) (Fh1_1 3), wSt cy ad 48 (Zh1_1 4) (Fh1_1 4), wSt cy ad 55 (Zh1_1 5) (Fh1_1 5), wTx cy ad 0 tf]) := hD
    refine W.widen (k := 1) (n := 6 * 1) (by decide) (by decide) ?_
    exact z_iret hx hb hr hlocks hS (z1_1, f1_1, nx1_1, ct1_1, Zh1_1, Fh1_1, 0) (show (((errF tx 0 = -1 ∧ (tx.length : Int) ≤ 16) ∧ r_1 = iI (tx.length : Int) ∧ RS z1_1 f1_1 (mTakeW M tx) ∧ RXH nx1_1 ct1_1 Zh1_1 Fh1_1 (pushH h M)) ∧ 0 = 0) ∨ (r_1 = iI 90001 ∧ (¬ (errF tx 0 = -1 ∧ (tx.length : Int) ≤ 16)) ∧ z1_1 = z ∧ f1_1 = f ∧ nx1_1 = nx ∧ ct1_1 = ct ∧ Zh1_1 = Zh ∧ Fh1_1 = Fh ∧ 0 = tn) from (Or.inl ⟨hw_1, rfl⟩)) hP dL_takeWord_4
set_option maxHeartbeats 4000000 in
set_option maxRecDepth 100000 in
theorem c_L_look (l : Launch) (hfl : l.stackTraces = false) (D : va_G) (cy : Nat → ClassId) (ad : Nat → Nat) (z : Nat → Int) (f : Nat → Nat → Int32) (M : MS) (nx : Int) (ct : Int) (Zh : Nat → Nat → Int) (Fh : Nat → Nat → Nat → Int32) (h : List MS) (en : Int) (B : Nat → Int) (Kf : Nat → Int) (hR : RS z f M) (hM : MOk M) (hH : RXH nx ct Zh Fh h) (hk : ∀ j : Nat, 0 ≤ Kf j ∧ Kf j ≤ 17) : Ni l D cy yL_look wsL_look 7 132 1 [.ref (ad 0)] (List.flatten [wTop ad, wSt cy ad 1 z f, wHb ad ct, wKb cy ad nx, wSt cy ad 20 (Zh 0) (Fh 0), wSt cy ad 27 (Zh 1) (Fh 1), wSt cy ad 34 (Zh 2) (Fh 2), wSt cy ad 41 (Zh 3) (Fh 3), wSt cy ad 48 (Zh 4) (Fh 4), wSt cy ad 55 (Zh 5) (Fh 5), wEn cy ad en B Kf]) (fun (r : Int32) (u : (Nat → Int) × (Nat → Nat → Int32) × Int × Int × (Nat → Nat → Int) × (Nat → Nat → Nat → Int32) × Int × (Nat → Int) × (Nat → Int)) => ((¬ mOver M ∧ r = iI (mSk M M.2.2.2.2.2.1 (mD M M.2.2.2.2.2.1)) ∧ RS u.1 u.2.1 (mLook M) ∧ RXH u.2.2.1 u.2.2.2.1 u.2.2.2.2.1 u.2.2.2.2.2.1 (pushH h M) ∧ ∀ j : Nat, 0 ≤ u.2.2.2.2.2.2.2.2 j ∧ u.2.2.2.2.2.2.2.2 j ≤ 17)) ∨ (r = iI 90001 ∧ (mOver M) ∧ u.1 = z ∧ u.2.1 = f ∧ u.2.2.1 = nx ∧ u.2.2.2.1 = ct ∧ u.2.2.2.2.1 = Zh ∧ u.2.2.2.2.2.1 = Fh ∧ u.2.2.2.2.2.2.1 = en ∧ u.2.2.2.2.2.2.2.1 = B ∧ u.2.2.2.2.2.2.2.2 = Kf)) (fun u : (Nat → Int) × (Nat → Nat → Int32) × Int × Int × (Nat → Nat → Int) × (Nat → Nat → Nat → Int32) × Int × (Nat → Int) × (Nat → Int) => (List.flatten [wTop ad, wSt cy ad 1 u.1 u.2.1, wHb ad u.2.2.2.1, wKb cy ad u.2.2.1, wSt cy ad 20 (u.2.2.2.2.1 0) (u.2.2.2.2.2.1 0), wSt cy ad 27 (u.2.2.2.2.1 1) (u.2.2.2.2.2.1 1), wSt cy ad 34 (u.2.2.2.2.1 2) (u.2.2.2.2.2.1 2), wSt cy ad 41 (u.2.2.2.2.1 3) (u.2.2.2.2.2.1 3), wSt cy ad 48 (u.2.2.2.2.1 4) (u.2.2.2.2.2.1 4), wSt cy ad 55 (u.2.2.2.2.1 5) (u.2.2.2.2.2.1 5), wEn cy ad u.2.2.2.2.2.2.1 u.2.2.2.2.2.2.2.1 u.2.2.2.2.2.2.2.2])) := by
  refine Ni_of (cc := cL_look) (maxL := 2) (ret := (some .int)) (hh := [(0, 4, 5, 15)]) (by decide) rfl rfl ?_
  intro p e s m args below meth c A hx hb hr hts hown hlocks hml htab hP hK hD hT hC hZ hA ls hl
  have hS : va_S A s.heap s.heap [] := va_S.rf
  have hl : lv_has ls 2 [(0, .ref (ad 0))] := hl
  have hP : va_P D vwCl (List.flatten [wTop ad, wSt cy ad 1 z f, wHb ad ct, wKb cy ad nx, wSt cy ad 20 (Zh 0) (Fh 0), wSt cy ad 27 (Zh 1) (Fh 1), wSt cy ad 34 (Zh 2) (Fh 2), wSt cy ad 41 (Zh 3) (Fh 3), wSt cy ad 48 (Zh 4) (Fh 4), wSt cy ad 55 (Zh 5) (Fh 5), wEn cy ad en B Kf]) s.heap := hP
  have hD : va_D A (List.flatten [wTop ad, wSt cy ad 1 z f, wHb ad ct, wKb cy ad nx, wSt cy ad 20 (Zh 0) (Fh 0), wSt cy ad 27 (Zh 1) (Fh 1), wSt cy ad 34 (Zh 2) (Fh 2), wSt cy ad 41 (Zh 3) (Fh 3), wSt cy ad 48 (Zh 4) (Fh 4), wSt cy ad 55 (Zh 5) (Fh 5), wEn cy ad en B Kf]) := hD
  refine lv_aload_n hx hb dL_look_0 rfl (lv_at hl 0 rfl) ?_
  refine h_gVi (n := 0) (b := ad 0) (As := []) (rest := []) ⟨hx, hb, hml, hown, hts⟩ (c_X4_look l hfl D cy ad z f M nx ct Zh Fh h en B Kf (by first | assumption | omega) (by first | assumption | omega) (by first | assumption | omega) (by first | assumption | omega)) gL_look_X4_look rfl (by decide +kernel) ⟨Nat.le_of_ble_eq_true rfl, Nat.le_of_ble_eq_true rfl⟩ hK hT hC hZ hP hS (Fp.blocks hP hD hS hA (cs := [wTop ad, wSt cy ad 1 z f, wHb ad ct, wKb cy ad nx, wSt cy ad 20 (Zh 0) (Fh 0), wSt cy ad 27 (Zh 1) (Fh 1), wSt cy ad 34 (Zh 2) (Fh 2), wSt cy ad 41 (Zh 3) (Fh 3), wSt cy ad 48 (Zh 4) (Fh 4), wSt cy ad 55 (Zh 5) (Fh 5), wEn cy ad en B Kf]) (nb := fun (u : (Nat → Int) × (Nat → Nat → Int32) × Int × Int × (Nat → Nat → Int) × (Nat → Nat → Nat → Int32) × Int × (Nat → Int) × (Nat → Int)) => [wTop ad, wSt cy ad 1 u.1 u.2.1, wHb ad u.2.2.2.1, wKb cy ad u.2.2.1, wSt cy ad 20 (u.2.2.2.2.1 0) (u.2.2.2.2.2.1 0), wSt cy ad 27 (u.2.2.2.2.1 1) (u.2.2.2.2.2.1 1), wSt cy ad 34 (u.2.2.2.2.1 2) (u.2.2.2.2.2.1 2), wSt cy ad 41 (u.2.2.2.2.1 3) (u.2.2.2.2.2.1 3), wSt cy ad 48 (u.2.2.2.2.1 4) (u.2.2.2.2.2.1 4), wSt cy ad 55 (u.2.2.2.2.1 5) (u.2.2.2.2.2.1 5), wEn cy ad u.2.2.2.2.2.2.1 u.2.2.2.2.2.2.2.1 u.2.2.2.2.2.2.2.2]) (nbs := fun (u : (Nat → Int) × (Nat → Nat → Int32) × Int × Int × (Nat → Nat → Int) × (Nat → Nat → Nat → Int32) × Int × (Nat → Int) × (Nat → Int)) => [wTop ad, wSt cy ad 1 u.1 u.2.1, wHb ad u.2.2.2.1, wKb cy ad u.2.2.1, wSt cy ad 20 (u.2.2.2.2.1 0) (u.2.2.2.2.2.1 0), wSt cy ad 27 (u.2.2.2.2.1 1) (u.2.2.2.2.2.1 1), wSt cy ad 34 (u.2.2.2.2.1 2) (u.2.2.2.2.2.1 2), wSt cy ad 41 (u.2.2.2.2.1 3) (u.2.2.2.2.2.1 3), wSt cy ad 48 (u.2.2.2.2.1 4) (u.2.2.2.2.2.1 4), wSt cy ad 55 (u.2.2.2.2.1 5) (u.2.2.2.2.2.1 5), wEn cy ad u.2.2.2.2.2.2.1 u.2.2.2.2.2.2.2.1 u.2.2.2.2.2.2.2.2]) [0, 1, 2, 3, 4, 5, 6, 7, 8, 9, 10] rfl rfl rfl (fun _ => rfl) (fun _ => rfl) (fun _ => rfl)) (Fp.same hP hD hS hA [0, 1, 2, 3, 4, 5, 6, 7, 8, 9, 10, 11, 12, 13, 14, 15, 16, 17, 18, 19, 20, 21, 22, 23, 24, 25, 26, 27, 28, 29, 30, 31, 32, 33, 34, 35, 36, 37, 38, 39, 40, 41, 42, 43, 44, 45, 46, 47, 48, 49, 50, 51, 52, 53, 54] rfl rfl (fun _ => rfl)) 0 4 rfl rfl rfl rfl hl.1 rfl (Nat.le_of_ble_eq_true rfl) dL_look_1 ⟨by decide, by decide⟩ (fun E ce q9 H locs hpx hP hD hS hce hcv hcl => ?_) (fun r_1 u_1 H locs hw_1 hP hD hS => ?_)
  · --
    rcases hpx with ⟨rfl, hcond⟩
    · --
      refine vx_catch (name := "java/lang/IllegalStateException") hown [] _ _ (htab.trans rfl) (by intro z hz; cases hz) (by decide) (by decide) (hts (.classLink RL 15 "java/lang/IllegalStateException") (by decide +kernel)) (va_Nw.use rfl (hC.1 xISE (List.mem_of_getElem? (i := 0) rfl))) hce hcv hcl ?_
      refine W.eq (g2 := F0 m 5 ls [.ref q9]) rfl ?_
      have hP : va_P D vwCl (List.flatten [wTop ad, wSt cy ad 1 z f, wHb ad ct, wKb cy ad nx, wSt cy ad 20 (Zh 0) (Fh 0), wSt cy ad 27 (Zh 1) (Fh 1), wSt cy ad 34 (Zh 2) (Fh 2), wSt cy ad 41 (Zh 3) (Fh 3), wSt cy ad 48 (Zh 4) (Fh 4), wSt cy ad 55 (Zh 5) (Fh 5), wEn cy ad en B Kf]) H := hP
      have hD : va_D A (List.flatten [wTop ad, wSt cy ad 1 z f, wHb ad ct, wKb cy ad nx, wSt cy ad 20 (Zh 0) (Fh 0), wSt cy ad 27 (Zh 1) (Fh 1), wSt cy ad 34 (Zh 2) (Fh 2), wSt cy ad 41 (Zh 3) (Fh 3), wSt cy ad 48 (Zh 4) (Fh 4), wSt cy ad 55 (Zh 5) (Fh 5), wEn cy ad en B Kf]) := hD
      refine lv_astore_n (lv' := [(1, .ref q9), (0, .ref (ad 0))]) hx hb dL_look_5 rfl hl (by decide) rfl (fun ls hl => ?_)
      refine lv_ldc (own := RL) (index := 17) (v := 90001) hx hb hown (hts (.constant RL 17 (90001)) (by decide +kernel)) dL_look_6 ?_
      refine z_top (show (90001 : Int32) = iI 90001 from by decide +kernel) ?_
      refine W.widen (k := 1) (n := 6 * 1) (by decide) (by decide) ?_
      exact z_iret hx hb hr hlocks hS (z, f, nx, ct, Zh, Fh, en, B, Kf) (show ((¬ mOver M ∧ (iI 90001) = iI (mSk M M.2.2.2.2.2.1 (mD M M.2.2.2.2.2.1)) ∧ RS z f (mLook M) ∧ RXH nx ct Zh Fh (pushH h M) ∧ ∀ j : Nat, 0 ≤ Kf j ∧ Kf j ≤ 17)) ∨ ((iI 90001) = iI 90001 ∧ (mOver M) ∧ z = z ∧ f = f ∧ nx = nx ∧ ct = ct ∧ Zh = Zh ∧ Fh = Fh ∧ en = en ∧ B = B ∧ Kf = Kf) from (Or.inr ⟨rfl, hcond, rfl, rfl, rfl, rfl, rfl, rfl, rfl, rfl, rfl⟩)) hP dL_look_8
  · --
    obtain ⟨z1_1, f1_1, nx1_1, ct1_1, Zh1_1, Fh1_1, en1_1, B1_1, K1_1⟩ := u_1
    have hw_1 : ¬ mOver M ∧ r_1 = iI (mSk M M.2.2.2.2.2.1 (mD M M.2.2.2.2.2.1)) ∧ RS z1_1 f1_1 (mLook M) ∧ RXH nx1_1 ct1_1 Zh1_1 Fh1_1 (pushH h M) ∧ ∀ j : Nat, 0 ≤ K1_1 j ∧ K1_1 j ≤ 17 := hw_1
    have hP : va_P D vwCl (List.flatten [wTop ad, wSt cy ad 1 z1_1 f1_1, wHb ad ct1_1, wKb cy ad nx1_1, wSt cy ad 20 (Zh1_1 0) (Fh1_1 0), wSt cy ad 27 (Zh1_1 1) (Fh1_1 1), wSt cy ad 34 (Zh1_1 2) (Fh1_1 2), wSt cy ad 41 (Zh1_1 3) (Fh1_1 3), wSt cy ad 48 (Zh1_1 4) (Fh1_1 4), wSt cy ad 55 (Zh1_1 5) (Fh1_1 5), wEn cy ad en1_1 B1_1 K1_1]) H := hP
    have hD : va_D A (List.flatten [wTop ad, wSt cy ad 1 z1_1 f1_1, wHb ad ct1_1, wKb cy ad nx1_1, wSt cy ad 20 (Zh1_1 0) (Fh1_1 0), wSt cy ad 27 (Zh1_1 1) (Fh1_1 1), wSt cy ad 34 (Zh1_1 2) (Fh1_1 2), wSt cy ad 41 (Zh1_1 3) (Fh1_1 3), wSt cy ad 48 (Zh1_1 4) (Fh1_1 4), wSt cy ad 55 (Zh1_1 5) (Fh1_1 5), wEn cy ad en1_1 B1_1 K1_1]) := hD
    refine W.widen (k := 1) (n := 6 * 1) (by decide) (by decide) ?_
    exact z_iret hx hb hr hlocks hS (z1_1, f1_1, nx1_1, ct1_1, Zh1_1, Fh1_1, en1_1, B1_1, K1_1) (show ((¬ mOver M ∧ r_1 = iI (mSk M M.2.2.2.2.2.1 (mD M M.2.2.2.2.2.1)) ∧ RS z1_1 f1_1 (mLook M) ∧ RXH nx1_1 ct1_1 Zh1_1 Fh1_1 (pushH h M) ∧ ∀ j : Nat, 0 ≤ K1_1 j ∧ K1_1 j ≤ 17)) ∨ (r_1 = iI 90001 ∧ (mOver M) ∧ z1_1 = z ∧ f1_1 = f ∧ nx1_1 = nx ∧ ct1_1 = ct ∧ Zh1_1 = Zh ∧ Fh1_1 = Fh ∧ en1_1 = en ∧ B1_1 = B ∧ K1_1 = Kf) from (Or.inl hw_1)) hP dL_look_4
set_option maxHeartbeats 4000000 in
set_option maxRecDepth 100000 in
theorem c_L_setLetter (l : Launch) (hfl : l.stackTraces = false) (D : va_G) (cy : Nat → ClassId) (ad : Nat → Nat) (z : Nat → Int) (f : Nat → Nat → Int32) (M : MS) (nx : Int) (ct : Int) (Zh : Nat → Nat → Int) (Fh : Nat → Nat → Nat → Int32) (h : List MS) (x : Int) (y : Int) (hR : RS z f M) (hM : MOk M) (hH : RXH nx ct Zh Fh h) (hx1 : -2147483648 ≤ x ∧ x < 2147483648) (hy1 : -2147483648 ≤ y ∧ y < 2147483648) : Ni l D cy yL_setLetter wsL_setLetter 8 136 2 [.ref (ad 0), .int (iI x), .int (iI y)] (List.flatten [wTop ad, wSt cy ad 1 z f, wHb ad ct, wKb cy ad nx, wSt cy ad 20 (Zh 0) (Fh 0), wSt cy ad 27 (Zh 1) (Fh 1), wSt cy ad 34 (Zh 2) (Fh 2), wSt cy ad 41 (Zh 3) (Fh 3), wSt cy ad 48 (Zh 4) (Fh 4), wSt cy ad 55 (Zh 5) (Fh 5)]) (fun (r : Int32) (u : (Nat → Int) × (Nat → Nat → Int32) × Int × Int × (Nat → Nat → Int) × (Nat → Nat → Nat → Int32)) => (((0 ≤ x ∧ x < (M.1.length : Int)) ∧ (0 ≤ y ∧ y ≤ 25) ∧ r = gl M.1 x.toNat ∧ RS u.1 u.2.1 (mSet M x.toNat (iI y)) ∧ RXH u.2.2.1 u.2.2.2.1 u.2.2.2.2.1 u.2.2.2.2.2 (pushH h M))) ∨ (r = iI 90001 ∧ (¬ (0 ≤ x ∧ x < (M.1.length : Int))) ∧ u.1 = z ∧ u.2.1 = f ∧ u.2.2.1 = nx ∧ u.2.2.2.1 = ct ∧ u.2.2.2.2.1 = Zh ∧ u.2.2.2.2.2 = Fh) ∨ (r = iI 90002 ∧ ((0 ≤ x ∧ x < (M.1.length : Int)) ∧ ¬ (0 ≤ y ∧ y ≤ 25)) ∧ u.1 = z ∧ u.2.1 = f ∧ u.2.2.1 = nx ∧ u.2.2.2.1 = ct ∧ u.2.2.2.2.1 = Zh ∧ u.2.2.2.2.2 = Fh)) (fun u : (Nat → Int) × (Nat → Nat → Int32) × Int × Int × (Nat → Nat → Int) × (Nat → Nat → Nat → Int32) => (List.flatten [wTop ad, wSt cy ad 1 u.1 u.2.1, wHb ad u.2.2.2.1, wKb cy ad u.2.2.1, wSt cy ad 20 (u.2.2.2.2.1 0) (u.2.2.2.2.2 0), wSt cy ad 27 (u.2.2.2.2.1 1) (u.2.2.2.2.2 1), wSt cy ad 34 (u.2.2.2.2.1 2) (u.2.2.2.2.2 2), wSt cy ad 41 (u.2.2.2.2.1 3) (u.2.2.2.2.2 3), wSt cy ad 48 (u.2.2.2.2.1 4) (u.2.2.2.2.2 4), wSt cy ad 55 (u.2.2.2.2.1 5) (u.2.2.2.2.2 5)])) := by
  refine Ni_of (cc := cL_setLetter) (maxL := 4) (ret := (some .int)) (hh := [(0, 6, 7, 28), (0, 6, 11, 30)]) (by decide) rfl rfl ?_
  intro p e s m args below meth c A hx hb hr hts hown hlocks hml htab hP hK hD hT hC hZ hA ls hl
  have hS : va_S A s.heap s.heap [] := va_S.rf
  have hl : lv_has ls 4 [(0, .ref (ad 0)), (1, .int (iI x)), (2, .int (iI y))] := hl
  have hP : va_P D vwCl (List.flatten [wTop ad, wSt cy ad 1 z f, wHb ad ct, wKb cy ad nx, wSt cy ad 20 (Zh 0) (Fh 0), wSt cy ad 27 (Zh 1) (Fh 1), wSt cy ad 34 (Zh 2) (Fh 2), wSt cy ad 41 (Zh 3) (Fh 3), wSt cy ad 48 (Zh 4) (Fh 4), wSt cy ad 55 (Zh 5) (Fh 5)]) s.heap := hP
  have hD : va_D A (List.flatten [wTop ad, wSt cy ad 1 z f, wHb ad ct, wKb cy ad nx, wSt cy ad 20 (Zh 0) (Fh 0), wSt cy ad 27 (Zh 1) (Fh 1), wSt cy ad 34 (Zh 2) (Fh 2), wSt cy ad 41 (Zh 3) (Fh 3), wSt cy ad 48 (Zh 4) (Fh 4), wSt cy ad 55 (Zh 5) (Fh 5)]) := hD
  refine lv_aload_n hx hb dL_setLetter_0 rfl (lv_at hl 0 rfl) ?_
  refine lv_iload_n hx hb dL_setLetter_1 rfl (lv_at hl 1 rfl) ?_
  refine lv_iload_n hx hb dL_setLetter_2 rfl (lv_at hl 2 rfl) ?_
  refine h_gVi (n := 2) (b := ad 0) (As := [.int (iI x), .int (iI y)]) (rest := []) ⟨hx, hb, hml, hown, hts⟩ (c_X4_setLetter l hfl D cy ad z f M nx ct Zh Fh h x y (by first | assumption | omega) (by first | assumption | omega) (by first | assumption | omega) (by first | assumption | omega) (by first | assumption | omega)) gL_setLetter_X4_setLetter rfl (by decide +kernel) ⟨Nat.le_of_ble_eq_true rfl, Nat.le_of_ble_eq_true rfl⟩ hK hT hC hZ hP hS (Fp.blocks hP hD hS hA (cs := [wTop ad, wSt cy ad 1 z f, wHb ad ct, wKb cy ad nx, wSt cy ad 20 (Zh 0) (Fh 0), wSt cy ad 27 (Zh 1) (Fh 1), wSt cy ad 34 (Zh 2) (Fh 2), wSt cy ad 41 (Zh 3) (Fh 3), wSt cy ad 48 (Zh 4) (Fh 4), wSt cy ad 55 (Zh 5) (Fh 5)]) (nb := fun (u : (Nat → Int) × (Nat → Nat → Int32) × Int × Int × (Nat → Nat → Int) × (Nat → Nat → Nat → Int32)) => [wTop ad, wSt cy ad 1 u.1 u.2.1, wHb ad u.2.2.2.1, wKb cy ad u.2.2.1, wSt cy ad 20 (u.2.2.2.2.1 0) (u.2.2.2.2.2 0), wSt cy ad 27 (u.2.2.2.2.1 1) (u.2.2.2.2.2 1), wSt cy ad 34 (u.2.2.2.2.1 2) (u.2.2.2.2.2 2), wSt cy ad 41 (u.2.2.2.2.1 3) (u.2.2.2.2.2 3), wSt cy ad 48 (u.2.2.2.2.1 4) (u.2.2.2.2.2 4), wSt cy ad 55 (u.2.2.2.2.1 5) (u.2.2.2.2.2 5)]) (nbs := fun (u : (Nat → Int) × (Nat → Nat → Int32) × Int × Int × (Nat → Nat → Int) × (Nat → Nat → Nat → Int32)) => [wTop ad, wSt cy ad 1 u.1 u.2.1, wHb ad u.2.2.2.1, wKb cy ad u.2.2.1, wSt cy ad 20 (u.2.2.2.2.1 0) (u.2.2.2.2.2 0), wSt cy ad 27 (u.2.2.2.2.1 1) (u.2.2.2.2.2 1), wSt cy ad 34 (u.2.2.2.2.1 2) (u.2.2.2.2.2 2), wSt cy ad 41 (u.2.2.2.2.1 3) (u.2.2.2.2.2 3), wSt cy ad 48 (u.2.2.2.2.1 4) (u.2.2.2.2.2 4), wSt cy ad 55 (u.2.2.2.2.1 5) (u.2.2.2.2.2 5)]) [0, 1, 2, 3, 4, 5, 6, 7, 8, 9] rfl rfl rfl (fun _ => rfl) (fun _ => rfl) (fun _ => rfl)) (Fp.same hP hD hS hA [0, 1, 2, 3, 4, 5, 6, 7, 8, 9, 10, 11, 12, 13, 14, 15, 16, 17, 18, 19, 20, 21, 22, 23, 24, 25, 26, 27, 28, 29, 30, 31, 32, 33, 34, 35, 36, 37, 38, 39, 40, 41, 42, 43, 44, 45, 46, 47, 48, 49, 50, 51] rfl rfl (fun _ => rfl)) 0 4 rfl rfl rfl rfl hl.1 rfl (Nat.le_of_ble_eq_true rfl) dL_setLetter_3 ⟨by decide, by decide⟩ (fun E ce q9 H locs hpx hP hD hS hce hcv hcl => ?_) (fun r_1 u_1 H locs hw_1 hP hD hS => ?_)
  · --
    rcases hpx with ⟨rfl, hcond⟩ | ⟨rfl, hcond⟩
    · --
      refine vx_catch (name := "java/lang/IndexOutOfBoundsException") hown [] _ _ (htab.trans rfl) (by intro z hz; cases hz) (by decide) (by decide) (hts (.classLink RL 28 "java/lang/IndexOutOfBoundsException") (by decide +kernel)) (va_Nw.use rfl (hC.1 xIOB (List.mem_of_getElem? (i := 2) rfl))) hce hcv hcl ?_
      refine W.eq (g2 := F0 m 7 ls [.ref q9]) rfl ?_
      have hP : va_P D vwCl (List.flatten [wTop ad, wSt cy ad 1 z f, wHb ad ct, wKb cy ad nx, wSt cy ad 20 (Zh 0) (Fh 0), wSt cy ad 27 (Zh 1) (Fh 1), wSt cy ad 34 (Zh 2) (Fh 2), wSt cy ad 41 (Zh 3) (Fh 3), wSt cy ad 48 (Zh 4) (Fh 4), wSt cy ad 55 (Zh 5) (Fh 5)]) H := hP
      have hD : va_D A (List.flatten [wTop ad, wSt cy ad 1 z f, wHb ad ct, wKb cy ad nx, wSt cy ad 20 (Zh 0) (Fh 0), wSt cy ad 27 (Zh 1) (Fh 1), wSt cy ad 34 (Zh 2) (Fh 2), wSt cy ad 41 (Zh 3) (Fh 3), wSt cy ad 48 (Zh 4) (Fh 4), wSt cy ad 55 (Zh 5) (Fh 5)]) := hD
      refine lv_astore_n (lv' := [(3, .ref q9), (0, .ref (ad 0)), (1, .int (iI x)), (2, .int (iI y))]) hx hb dL_setLetter_7 rfl hl (by decide) rfl (fun ls hl => ?_)
      refine lv_ldc (own := RL) (index := 17) (v := 90001) hx hb hown (hts (.constant RL 17 (90001)) (by decide +kernel)) dL_setLetter_8 ?_
      refine z_top (show (90001 : Int32) = iI 90001 from by decide +kernel) ?_
      refine W.widen (k := 2) (n := 6 * 2) (by decide) (by decide) ?_
      exact z_iret hx hb hr hlocks hS (z, f, nx, ct, Zh, Fh) (show (((0 ≤ x ∧ x < (M.1.length : Int)) ∧ (0 ≤ y ∧ y ≤ 25) ∧ (iI 90001) = gl M.1 x.toNat ∧ RS z f (mSet M x.toNat (iI y)) ∧ RXH nx ct Zh Fh (pushH h M))) ∨ ((iI 90001) = iI 90001 ∧ (¬ (0 ≤ x ∧ x < (M.1.length : Int))) ∧ z = z ∧ f = f ∧ nx = nx ∧ ct = ct ∧ Zh = Zh ∧ Fh = Fh) ∨ ((iI 90001) = iI 90002 ∧ ((0 ≤ x ∧ x < (M.1.length : Int)) ∧ ¬ (0 ≤ y ∧ y ≤ 25)) ∧ z = z ∧ f = f ∧ nx = nx ∧ ct = ct ∧ Zh = Zh ∧ Fh = Fh) from (Or.inr (Or.inl ⟨rfl, hcond, rfl, rfl, rfl, rfl, rfl, rfl⟩))) hP dL_setLetter_10
    · --
      refine vx_catch (name := "java/lang/IllegalArgumentException") hown [_] _ _ (htab.trans rfl) (by
          intro z hz
          rcases List.mem_singleton.mp hz with rfl
          exact Or.inr ⟨by decide, "java/lang/IndexOutOfBoundsException", hts (.classLink RL 28 "java/lang/IndexOutOfBoundsException") (by decide +kernel), hC.2.1⟩) (by decide) (by decide) (hts (.classLink RL 30 "java/lang/IllegalArgumentException") (by decide +kernel)) (va_Nw.use rfl (hC.1 xIAE (List.mem_of_getElem? (i := 1) rfl))) hce hcv hcl ?_
      refine W.eq (g2 := F0 m 11 ls [.ref q9]) rfl ?_
      have hP : va_P D vwCl (List.flatten [wTop ad, wSt cy ad 1 z f, wHb ad ct, wKb cy ad nx, wSt cy ad 20 (Zh 0) (Fh 0), wSt cy ad 27 (Zh 1) (Fh 1), wSt cy ad 34 (Zh 2) (Fh 2), wSt cy ad 41 (Zh 3) (Fh 3), wSt cy ad 48 (Zh 4) (Fh 4), wSt cy ad 55 (Zh 5) (Fh 5)]) H := hP
      have hD : va_D A (List.flatten [wTop ad, wSt cy ad 1 z f, wHb ad ct, wKb cy ad nx, wSt cy ad 20 (Zh 0) (Fh 0), wSt cy ad 27 (Zh 1) (Fh 1), wSt cy ad 34 (Zh 2) (Fh 2), wSt cy ad 41 (Zh 3) (Fh 3), wSt cy ad 48 (Zh 4) (Fh 4), wSt cy ad 55 (Zh 5) (Fh 5)]) := hD
      refine lv_astore_n (lv' := [(3, .ref q9), (0, .ref (ad 0)), (1, .int (iI x)), (2, .int (iI y))]) hx hb dL_setLetter_11 rfl hl (by decide) rfl (fun ls hl => ?_)
      refine lv_ldc (own := RL) (index := 32) (v := 90002) hx hb hown (hts (.constant RL 32 (90002)) (by decide +kernel)) dL_setLetter_12 ?_
      refine z_top (show (90002 : Int32) = iI 90002 from by decide +kernel) ?_
      refine W.widen (k := 2) (n := 6 * 2) (by decide) (by decide) ?_
      exact z_iret hx hb hr hlocks hS (z, f, nx, ct, Zh, Fh) (show (((0 ≤ x ∧ x < (M.1.length : Int)) ∧ (0 ≤ y ∧ y ≤ 25) ∧ (iI 90002) = gl M.1 x.toNat ∧ RS z f (mSet M x.toNat (iI y)) ∧ RXH nx ct Zh Fh (pushH h M))) ∨ ((iI 90002) = iI 90001 ∧ (¬ (0 ≤ x ∧ x < (M.1.length : Int))) ∧ z = z ∧ f = f ∧ nx = nx ∧ ct = ct ∧ Zh = Zh ∧ Fh = Fh) ∨ ((iI 90002) = iI 90002 ∧ ((0 ≤ x ∧ x < (M.1.length : Int)) ∧ ¬ (0 ≤ y ∧ y ≤ 25)) ∧ z = z ∧ f = f ∧ nx = nx ∧ ct = ct ∧ Zh = Zh ∧ Fh = Fh) from (Or.inr (Or.inr ⟨rfl, hcond, rfl, rfl, rfl, rfl, rfl, rfl⟩))) hP dL_setLetter_14
  · --
    obtain ⟨z1_1, f1_1, nx1_1, ct1_1, Zh1_1, Fh1_1⟩ := u_1
    have hw_1 : (0 ≤ x ∧ x < (M.1.length : Int)) ∧ (0 ≤ y ∧ y ≤ 25) ∧ r_1 = gl M.1 x.toNat ∧ RS z1_1 f1_1 (mSet M x.toNat (iI y)) ∧ RXH nx1_1 ct1_1 Zh1_1 Fh1_1 (pushH h M) := hw_1
    have hP : va_P D vwCl (List.flatten [wTop ad, wSt cy ad 1 z1_1 f1_1, wHb ad ct1_1, wKb cy ad nx1_1, wSt cy ad 20 (Zh1_1 0) (Fh1_1 0), wSt cy ad 27 (Zh1_1 1) (Fh1_1 1), wSt cy ad 34 (Zh1_1 2) (Fh1_1 2), wSt cy ad 41 (Zh1_1 3) (Fh1_1 3), wSt cy ad 48 (Zh1_1 4) (Fh1_1 4), wSt cy ad 55 (Zh1_1 5) (Fh1_1 5)]) H := hP
    have hD : va_D A (List.flatten [wTop ad, wSt cy ad 1 z1_1 f1_1, wHb ad ct1_1, wKb cy ad nx1_1, wSt cy ad 20 (Zh1_1 0) (Fh1_1 0), wSt cy ad 27 (Zh1_1 1) (Fh1_1 1), wSt cy ad 34 (Zh1_1 2) (Fh1_1 2), wSt cy ad 41 (Zh1_1 3) (Fh1_1 3), wSt cy ad 48 (Zh1_1 4) (Fh1_1 4), wSt cy ad 55 (Zh1_1 5) (Fh1_1 5)]) := hD
    refine W.widen (k := 2) (n := 6 * 2) (by decide) (by decide) ?_
    exact z_iret hx hb hr hlocks hS (z1_1, f1_1, nx1_1, ct1_1, Zh1_1, Fh1_1) (show (((0 ≤ x ∧ x < (M.1.length : Int)) ∧ (0 ≤ y ∧ y ≤ 25) ∧ r_1 = gl M.1 x.toNat ∧ RS z1_1 f1_1 (mSet M x.toNat (iI y)) ∧ RXH nx1_1 ct1_1 Zh1_1 Fh1_1 (pushH h M))) ∨ (r_1 = iI 90001 ∧ (¬ (0 ≤ x ∧ x < (M.1.length : Int))) ∧ z1_1 = z ∧ f1_1 = f ∧ nx1_1 = nx ∧ ct1_1 = ct ∧ Zh1_1 = Zh ∧ Fh1_1 = Fh) ∨ (r_1 = iI 90002 ∧ ((0 ≤ x ∧ x < (M.1.length : Int)) ∧ ¬ (0 ≤ y ∧ y ≤ 25)) ∧ z1_1 = z ∧ f1_1 = f ∧ nx1_1 = nx ∧ ct1_1 = ct ∧ Zh1_1 = Zh ∧ Fh1_1 = Fh) from (Or.inl hw_1)) hP dL_setLetter_6
set_option maxHeartbeats 4000000 in
set_option maxRecDepth 100000 in
theorem c_L_lineLetter (l : Launch) (hfl : l.stackTraces = false) (D : va_G) (cy : Nat → ClassId) (ad : Nat → Nat) (z : Nat → Int) (f : Nat → Nat → Int32) (M : MS) (x : Int) (hR : RS z f M) (hM : MOk M) (hx1 : -2147483648 ≤ x ∧ x < 2147483648) : Ni l D cy yL_lineLetter wsL_lineLetter 8 134 1 [.ref (ad 0), .int (iI x)] (List.flatten [wTop ad, wSt cy ad 1 z f]) (fun (r : Int32) (u : Unit) => (((0 ≤ x ∧ x < (M.1.length : Int)) ∧ r = gl M.1 x.toNat)) ∨ (r = iI 90001 ∧ (¬ (0 ≤ x ∧ x < (M.1.length : Int))))) (fun u : Unit => (List.flatten [wTop ad, wSt cy ad 1 z f])) := by
  refine Ni_of (cc := cL_lineLetter) (maxL := 3) (ret := (some .int)) (hh := [(0, 5, 6, 28)]) (by decide) rfl rfl ?_
  intro p e s m args below meth c A hx hb hr hts hown hlocks hml htab hP hK hD hT hC hZ hA ls hl
  have hS : va_S A s.heap s.heap [] := va_S.rf
  have hl : lv_has ls 3 [(0, .ref (ad 0)), (1, .int (iI x))] := hl
  have hP : va_P D vwCl (List.flatten [wTop ad, wSt cy ad 1 z f]) s.heap := hP
  have hD : va_D A (List.flatten [wTop ad, wSt cy ad 1 z f]) := hD
  refine lv_aload_n hx hb dL_lineLetter_0 rfl (lv_at hl 0 rfl) ?_
  refine lv_iload_n hx hb dL_lineLetter_1 rfl (lv_at hl 1 rfl) ?_
  refine h_gVi (n := 1) (b := ad 0) (As := [.int (iI x)]) (rest := []) ⟨hx, hb, hml, hown, hts⟩ (c_X4_lineLetter l hfl D cy ad z f M x (by first | assumption | omega) (by first | assumption | omega) (by first | assumption | omega)) gL_lineLetter_X4_lineLetter rfl (by decide +kernel) ⟨Nat.le_of_ble_eq_true rfl, Nat.le_of_ble_eq_true rfl⟩ hK hT hC hZ hP hS (Fp.same hP hD hS hA [0, 1, 2, 3, 4, 5, 6, 7] rfl rfl (fun _ => rfl)) (Fp.same hP hD hS hA [0, 1, 2, 3, 4, 5, 6, 7] rfl rfl (fun _ => rfl)) 0 4 rfl rfl rfl rfl hl.1 rfl (Nat.le_of_ble_eq_true rfl) dL_lineLetter_2 ⟨by decide, by decide⟩ (fun E ce q9 H locs hpx hP hD hS hce hcv hcl => ?_) (fun r_1 u_1 H locs hw_1 hP hD hS => ?_)
  · --
    rcases hpx with ⟨rfl, hcond⟩
    · --
      refine vx_catch (name := "java/lang/IndexOutOfBoundsException") hown [] _ _ (htab.trans rfl) (by intro z hz; cases hz) (by decide) (by decide) (hts (.classLink RL 28 "java/lang/IndexOutOfBoundsException") (by decide +kernel)) (va_Nw.use rfl (hC.1 xIOB (List.mem_of_getElem? (i := 2) rfl))) hce hcv hcl ?_
      refine W.eq (g2 := F0 m 6 ls [.ref q9]) rfl ?_
      have hP : va_P D vwCl (List.flatten [wTop ad, wSt cy ad 1 z f]) H := hP
      have hD : va_D A (List.flatten [wTop ad, wSt cy ad 1 z f]) := hD
      refine lv_astore_n (lv' := [(2, .ref q9), (0, .ref (ad 0)), (1, .int (iI x))]) hx hb dL_lineLetter_6 rfl hl (by decide) rfl (fun ls hl => ?_)
      refine lv_ldc (own := RL) (index := 17) (v := 90001) hx hb hown (hts (.constant RL 17 (90001)) (by decide +kernel)) dL_lineLetter_7 ?_
      refine z_top (show (90001 : Int32) = iI 90001 from by decide +kernel) ?_
      refine W.widen (k := 1) (n := 6 * 1) (by decide) (by decide) ?_
      exact z_iret hx hb hr hlocks hS () (show (((0 ≤ x ∧ x < (M.1.length : Int)) ∧ (iI 90001) = gl M.1 x.toNat)) ∨ ((iI 90001) = iI 90001 ∧ (¬ (0 ≤ x ∧ x < (M.1.length : Int)))) from (Or.inr ⟨rfl, hcond⟩)) hP dL_lineLetter_9
  · --
    have hw_1 : (0 ≤ x ∧ x < (M.1.length : Int)) ∧ r_1 = gl M.1 x.toNat := hw_1
    have hP : va_P D vwCl (List.flatten [wTop ad, wSt cy ad 1 z f]) H := hP
    have hD : va_D A (List.flatten [wTop ad, wSt cy ad 1 z f]) := hD
    refine W.widen (k := 1) (n := 6 * 1) (by decide) (by decide) ?_
    exact z_iret hx hb hr hlocks hS () (show (((0 ≤ x ∧ x < (M.1.length : Int)) ∧ r_1 = gl M.1 x.toNat)) ∨ (r_1 = iI 90001 ∧ (¬ (0 ≤ x ∧ x < (M.1.length : Int)))) from (Or.inl hw_1)) hP dL_lineLetter_5
set_option maxHeartbeats 4000000 in
set_option maxRecDepth 100000 in
theorem c_L_wordLetter (l : Launch) (hfl : l.stackTraces = false) (D : va_G) (cy : Nat → ClassId) (ad : Nat → Nat) (z : Nat → Int) (f : Nat → Nat → Int32) (M : MS) (x : Int) (hR : RS z f M) (hM : MOk M) (hx1 : -2147483648 ≤ x ∧ x < 2147483648) : Ni l D cy yL_wordLetter wsL_wordLetter 8 134 1 [.ref (ad 0), .int (iI x)] (List.flatten [wTop ad, wSt cy ad 1 z f]) (fun (r : Int32) (u : Unit) => (((0 ≤ x ∧ x < (M.2.1.length : Int)) ∧ r = gl M.2.1 x.toNat)) ∨ (r = iI 90001 ∧ (¬ (0 ≤ x ∧ x < (M.2.1.length : Int))))) (fun u : Unit => (List.flatten [wTop ad, wSt cy ad 1 z f])) := by
  refine Ni_of (cc := cL_wordLetter) (maxL := 3) (ret := (some .int)) (hh := [(0, 5, 6, 28)]) (by decide) rfl rfl ?_
  intro p e s m args below meth c A hx hb hr hts hown hlocks hml htab hP hK hD hT hC hZ hA ls hl
  have hS : va_S A s.heap s.heap [] := va_S.rf
  have hl : lv_has ls 3 [(0, .ref (ad 0)), (1, .int (iI x))] := hl
  have hP : va_P D vwCl (List.flatten [wTop ad, wSt cy ad 1 z f]) s.heap := hP
  have hD : va_D A (List.flatten [wTop ad, wSt cy ad 1 z f]) := hD
  refine lv_aload_n hx hb dL_wordLetter_0 rfl (lv_at hl 0 rfl) ?_
  refine lv_iload_n hx hb dL_wordLetter_1 rfl (lv_at hl 1 rfl) ?_
  refine h_gVi (n := 1) (b := ad 0) (As := [.int (iI x)]) (rest := []) ⟨hx, hb, hml, hown, hts⟩ (c_X4_wordLetter l hfl D cy ad z f M x (by first | assumption | omega) (by first | assumption | omega) (by first | assumption | omega)) gL_wordLetter_X4_wordLetter rfl (by decide +kernel) ⟨Nat.le_of_ble_eq_true rfl, Nat.le_of_ble_eq_true rfl⟩ hK hT hC hZ hP hS (Fp.same hP hD hS hA [0, 1, 2, 3, 4, 5, 6, 7] rfl rfl (fun _ => rfl)) (Fp.same hP hD hS hA [0, 1, 2, 3, 4, 5, 6, 7] rfl rfl (fun _ => rfl)) 0 4 rfl rfl rfl rfl hl.1 rfl (Nat.le_of_ble_eq_true rfl) dL_wordLetter_2 ⟨by decide, by decide⟩ (fun E ce q9 H locs hpx hP hD hS hce hcv hcl => ?_) (fun r_1 u_1 H locs hw_1 hP hD hS => ?_)
  · --
    rcases hpx with ⟨rfl, hcond⟩
    · --
      refine vx_catch (name := "java/lang/IndexOutOfBoundsException") hown [] _ _ (htab.trans rfl) (by intro z hz; cases hz) (by decide) (by decide) (hts (.classLink RL 28 "java/lang/IndexOutOfBoundsException") (by decide +kernel)) (va_Nw.use rfl (hC.1 xIOB (List.mem_of_getElem? (i := 2) rfl))) hce hcv hcl ?_
      refine W.eq (g2 := F0 m 6 ls [.ref q9]) rfl ?_
      have hP : va_P D vwCl (List.flatten [wTop ad, wSt cy ad 1 z f]) H := hP
      have hD : va_D A (List.flatten [wTop ad, wSt cy ad 1 z f]) := hD
      refine lv_astore_n (lv' := [(2, .ref q9), (0, .ref (ad 0)), (1, .int (iI x))]) hx hb dL_wordLetter_6 rfl hl (by decide) rfl (fun ls hl => ?_)
      refine lv_ldc (own := RL) (index := 17) (v := 90001) hx hb hown (hts (.constant RL 17 (90001)) (by decide +kernel)) dL_wordLetter_7 ?_
      refine z_top (show (90001 : Int32) = iI 90001 from by decide +kernel) ?_
      refine W.widen (k := 1) (n := 6 * 1) (by decide) (by decide) ?_
      exact z_iret hx hb hr hlocks hS () (show (((0 ≤ x ∧ x < (M.2.1.length : Int)) ∧ (iI 90001) = gl M.2.1 x.toNat)) ∨ ((iI 90001) = iI 90001 ∧ (¬ (0 ≤ x ∧ x < (M.2.1.length : Int)))) from (Or.inr ⟨rfl, hcond⟩)) hP dL_wordLetter_9
  · --
    have hw_1 : (0 ≤ x ∧ x < (M.2.1.length : Int)) ∧ r_1 = gl M.2.1 x.toNat := hw_1
    have hP : va_P D vwCl (List.flatten [wTop ad, wSt cy ad 1 z f]) H := hP
    have hD : va_D A (List.flatten [wTop ad, wSt cy ad 1 z f]) := hD
    refine W.widen (k := 1) (n := 6 * 1) (by decide) (by decide) ?_
    exact z_iret hx hb hr hlocks hS () (show (((0 ≤ x ∧ x < (M.2.1.length : Int)) ∧ r_1 = gl M.2.1 x.toNat)) ∨ (r_1 = iI 90001 ∧ (¬ (0 ≤ x ∧ x < (M.2.1.length : Int)))) from (Or.inl hw_1)) hP dL_wordLetter_5
set_option maxHeartbeats 4000000 in
set_option maxRecDepth 100000 in
theorem c_L_found (l : Launch) (hfl : l.stackTraces = false) (D : va_G) (cy : Nat → ClassId) (ad : Nat → Nat) (z : Nat → Int) (f : Nat → Nat → Int32) (M : MS) (x : Int) (hR : RS z f M) (hM : MOk M) (hx1 : -2147483648 ≤ x ∧ x < 2147483648) : Ni l D cy yL_found wsL_found 8 134 1 [.ref (ad 0), .int (iI x)] (List.flatten [wTop ad, wSt cy ad 1 z f]) (fun (r : Int32) (u : Unit) => (((0 ≤ x ∧ x < (M.2.2.1.length : Int)) ∧ r = gl M.2.2.1 x.toNat)) ∨ (r = iI 90001 ∧ (¬ (0 ≤ x ∧ x < (M.2.2.1.length : Int))))) (fun u : Unit => (List.flatten [wTop ad, wSt cy ad 1 z f])) := by
  refine Ni_of (cc := cL_found) (maxL := 3) (ret := (some .int)) (hh := [(0, 5, 6, 28)]) (by decide) rfl rfl ?_
  intro p e s m args below meth c A hx hb hr hts hown hlocks hml htab hP hK hD hT hC hZ hA ls hl
  have hS : va_S A s.heap s.heap [] := va_S.rf
  have hl : lv_has ls 3 [(0, .ref (ad 0)), (1, .int (iI x))] := hl
  have hP : va_P D vwCl (List.flatten [wTop ad, wSt cy ad 1 z f]) s.heap := hP
  have hD : va_D A (List.flatten [wTop ad, wSt cy ad 1 z f]) := hD
  refine lv_aload_n hx hb dL_found_0 rfl (lv_at hl 0 rfl) ?_
  refine lv_iload_n hx hb dL_found_1 rfl (lv_at hl 1 rfl) ?_
  refine h_gVi (n := 1) (b := ad 0) (As := [.int (iI x)]) (rest := []) ⟨hx, hb, hml, hown, hts⟩ (c_X4_foundPlace l hfl D cy ad z f M x (by first | assumption | omega) (by first | assumption | omega) (by first | assumption | omega)) gL_found_X4_foundPlace rfl (by decide +kernel) ⟨Nat.le_of_ble_eq_true rfl, Nat.le_of_ble_eq_true rfl⟩ hK hT hC hZ hP hS (Fp.same hP hD hS hA [0, 1, 2, 3, 4, 5, 6, 7] rfl rfl (fun _ => rfl)) (Fp.same hP hD hS hA [0, 1, 2, 3, 4, 5, 6, 7] rfl rfl (fun _ => rfl)) 0 4 rfl rfl rfl rfl hl.1 rfl (Nat.le_of_ble_eq_true rfl) dL_found_2 ⟨by decide, by decide⟩ (fun E ce q9 H locs hpx hP hD hS hce hcv hcl => ?_) (fun r_1 u_1 H locs hw_1 hP hD hS => ?_)
  · --
    rcases hpx with ⟨rfl, hcond⟩
    · --
      refine vx_catch (name := "java/lang/IndexOutOfBoundsException") hown [] _ _ (htab.trans rfl) (by intro z hz; cases hz) (by decide) (by decide) (hts (.classLink RL 28 "java/lang/IndexOutOfBoundsException") (by decide +kernel)) (va_Nw.use rfl (hC.1 xIOB (List.mem_of_getElem? (i := 2) rfl))) hce hcv hcl ?_
      refine W.eq (g2 := F0 m 6 ls [.ref q9]) rfl ?_
      have hP : va_P D vwCl (List.flatten [wTop ad, wSt cy ad 1 z f]) H := hP
      have hD : va_D A (List.flatten [wTop ad, wSt cy ad 1 z f]) := hD
      refine lv_astore_n (lv' := [(2, .ref q9), (0, .ref (ad 0)), (1, .int (iI x))]) hx hb dL_found_6 rfl hl (by decide) rfl (fun ls hl => ?_)
      refine lv_ldc (own := RL) (index := 17) (v := 90001) hx hb hown (hts (.constant RL 17 (90001)) (by decide +kernel)) dL_found_7 ?_
      refine z_top (show (90001 : Int32) = iI 90001 from by decide +kernel) ?_
      refine W.widen (k := 1) (n := 6 * 1) (by decide) (by decide) ?_
      exact z_iret hx hb hr hlocks hS () (show (((0 ≤ x ∧ x < (M.2.2.1.length : Int)) ∧ (iI 90001) = gl M.2.2.1 x.toNat)) ∨ ((iI 90001) = iI 90001 ∧ (¬ (0 ≤ x ∧ x < (M.2.2.1.length : Int)))) from (Or.inr ⟨rfl, hcond⟩)) hP dL_found_9
  · --
    have hw_1 : (0 ≤ x ∧ x < (M.2.2.1.length : Int)) ∧ r_1 = gl M.2.2.1 x.toNat := hw_1
    have hP : va_P D vwCl (List.flatten [wTop ad, wSt cy ad 1 z f]) H := hP
    have hD : va_D A (List.flatten [wTop ad, wSt cy ad 1 z f]) := hD
    refine W.widen (k := 1) (n := 6 * 1) (by decide) (by decide) ?_
    exact z_iret hx hb hr hlocks hS () (show (((0 ≤ x ∧ x < (M.2.2.1.length : Int)) ∧ r_1 = gl M.2.2.1 x.toNat)) ∨ (r_1 = iI 90001 ∧ (¬ (0 ≤ x ∧ x < (M.2.2.1.length : Int)))) from (Or.inl hw_1)) hP dL_found_5
set_option maxHeartbeats 4000000 in
set_option maxRecDepth 100000 in
theorem c_L_last (l : Launch) (hfl : l.stackTraces = false) (D : va_G) (cy : Nat → ClassId) (ad : Nat → Nat) (z : Nat → Int) (f : Nat → Nat → Int32) (M : MS) (x : Int) (hR : RS z f M) (hM : MOk M) (hx1 : -2147483648 ≤ x ∧ x < 2147483648) : Ni l D cy yL_last wsL_last 8 133 1 [.ref (ad 0), .int (iI x)] (List.flatten [wTop ad, wSt cy ad 1 z f]) (fun (r : Int32) (u : Unit) => (((0 ≤ x ∧ x ≤ 25) ∧ r = iI (lastF M.2.1.length (gl M.2.1) (iI x)))) ∨ (r = iI 90001 ∧ (¬ (0 ≤ x ∧ x ≤ 25)))) (fun u : Unit => (List.flatten [wTop ad, wSt cy ad 1 z f])) := by
  refine Ni_of (cc := cL_last) (maxL := 3) (ret := (some .int)) (hh := [(0, 5, 6, 30)]) (by decide) rfl rfl ?_
  intro p e s m args below meth c A hx hb hr hts hown hlocks hml htab hP hK hD hT hC hZ hA ls hl
  have hS : va_S A s.heap s.heap [] := va_S.rf
  have hl : lv_has ls 3 [(0, .ref (ad 0)), (1, .int (iI x))] := hl
  have hP : va_P D vwCl (List.flatten [wTop ad, wSt cy ad 1 z f]) s.heap := hP
  have hD : va_D A (List.flatten [wTop ad, wSt cy ad 1 z f]) := hD
  refine lv_aload_n hx hb dL_last_0 rfl (lv_at hl 0 rfl) ?_
  refine lv_iload_n hx hb dL_last_1 rfl (lv_at hl 1 rfl) ?_
  refine h_gVi (n := 1) (b := ad 0) (As := [.int (iI x)]) (rest := []) ⟨hx, hb, hml, hown, hts⟩ (c_X4_lastPlaceOf l hfl D cy ad z f M x (by first | assumption | omega) (by first | assumption | omega) (by first | assumption | omega)) gL_last_X4_lastPlaceOf rfl (by decide +kernel) ⟨Nat.le_of_ble_eq_true rfl, Nat.le_of_ble_eq_true rfl⟩ hK hT hC hZ hP hS (Fp.same hP hD hS hA [0, 1, 2, 3, 4, 5, 6, 7] rfl rfl (fun _ => rfl)) (Fp.same hP hD hS hA [0, 1, 2, 3, 4, 5, 6, 7] rfl rfl (fun _ => rfl)) 0 4 rfl rfl rfl rfl hl.1 rfl (Nat.le_of_ble_eq_true rfl) dL_last_2 ⟨by decide, by decide⟩ (fun E ce q9 H locs hpx hP hD hS hce hcv hcl => ?_) (fun r_1 u_1 H locs hw_1 hP hD hS => ?_)
  · --
    rcases hpx with ⟨rfl, hcond⟩
    · --
      refine vx_catch (name := "java/lang/IllegalArgumentException") hown [] _ _ (htab.trans rfl) (by intro z hz; cases hz) (by decide) (by decide) (hts (.classLink RL 30 "java/lang/IllegalArgumentException") (by decide +kernel)) (va_Nw.use rfl (hC.1 xIAE (List.mem_of_getElem? (i := 1) rfl))) hce hcv hcl ?_
      refine W.eq (g2 := F0 m 6 ls [.ref q9]) rfl ?_
      have hP : va_P D vwCl (List.flatten [wTop ad, wSt cy ad 1 z f]) H := hP
      have hD : va_D A (List.flatten [wTop ad, wSt cy ad 1 z f]) := hD
      refine lv_astore_n (lv' := [(2, .ref q9), (0, .ref (ad 0)), (1, .int (iI x))]) hx hb dL_last_6 rfl hl (by decide) rfl (fun ls hl => ?_)
      refine lv_ldc (own := RL) (index := 17) (v := 90001) hx hb hown (hts (.constant RL 17 (90001)) (by decide +kernel)) dL_last_7 ?_
      refine z_top (show (90001 : Int32) = iI 90001 from by decide +kernel) ?_
      refine W.widen (k := 1) (n := 6 * 1) (by decide) (by decide) ?_
      exact z_iret hx hb hr hlocks hS () (show (((0 ≤ x ∧ x ≤ 25) ∧ (iI 90001) = iI (lastF M.2.1.length (gl M.2.1) (iI x)))) ∨ ((iI 90001) = iI 90001 ∧ (¬ (0 ≤ x ∧ x ≤ 25))) from (Or.inr ⟨rfl, hcond⟩)) hP dL_last_9
  · --
    have hw_1 : (0 ≤ x ∧ x ≤ 25) ∧ r_1 = iI (lastF M.2.1.length (gl M.2.1) (iI x)) := hw_1
    have hP : va_P D vwCl (List.flatten [wTop ad, wSt cy ad 1 z f]) H := hP
    have hD : va_D A (List.flatten [wTop ad, wSt cy ad 1 z f]) := hD
    refine W.widen (k := 1) (n := 6 * 1) (by decide) (by decide) ?_
    exact z_iret hx hb hr hlocks hS () (show (((0 ≤ x ∧ x ≤ 25) ∧ r_1 = iI (lastF M.2.1.length (gl M.2.1) (iI x)))) ∨ (r_1 = iI 90001 ∧ (¬ (0 ≤ x ∧ x ≤ 25))) from (Or.inl hw_1)) hP dL_last_5
set_option maxHeartbeats 4000000 in
set_option maxRecDepth 100000 in
theorem c_L_letterSkip (l : Launch) (hfl : l.stackTraces = false) (D : va_G) (cy : Nat → ClassId) (ad : Nat → Nat) (z : Nat → Int) (f : Nat → Nat → Int32) (M : MS) (x : Int) (y : Int) (hR : RS z f M) (hM : MOk M) (hx1 : -2147483648 ≤ x ∧ x < 2147483648) (hy1 : -2147483648 ≤ y ∧ y < 2147483648) : Ni l D cy yL_letterSkip wsL_letterSkip 8 135 2 [.ref (ad 0), .int (iI x), .int (iI y)] (List.flatten [wTop ad, wSt cy ad 1 z f]) (fun (r : Int32) (u : Unit) => (((0 ≤ x ∧ x < (M.2.1.length : Int)) ∧ (0 ≤ y ∧ y ≤ 25) ∧ r = iI (x - lastF M.2.1.length (gl M.2.1) (iI y)))) ∨ (r = iI 90001 ∧ (¬ (0 ≤ x ∧ x < (M.2.1.length : Int)))) ∨ (r = iI 90002 ∧ ((0 ≤ x ∧ x < (M.2.1.length : Int)) ∧ ¬ (0 ≤ y ∧ y ≤ 25)))) (fun u : Unit => (List.flatten [wTop ad, wSt cy ad 1 z f])) := by
  refine Ni_of (cc := cL_letterSkip) (maxL := 4) (ret := (some .int)) (hh := [(0, 6, 7, 28), (0, 6, 11, 30)]) (by decide) rfl rfl ?_
  intro p e s m args below meth c A hx hb hr hts hown hlocks hml htab hP hK hD hT hC hZ hA ls hl
  have hS : va_S A s.heap s.heap [] := va_S.rf
  have hl : lv_has ls 4 [(0, .ref (ad 0)), (1, .int (iI x)), (2, .int (iI y))] := hl
  have hP : va_P D vwCl (List.flatten [wTop ad, wSt cy ad 1 z f]) s.heap := hP
  have hD : va_D A (List.flatten [wTop ad, wSt cy ad 1 z f]) := hD
  refine lv_aload_n hx hb dL_letterSkip_0 rfl (lv_at hl 0 rfl) ?_
  refine lv_iload_n hx hb dL_letterSkip_1 rfl (lv_at hl 1 rfl) ?_
  refine lv_iload_n hx hb dL_letterSkip_2 rfl (lv_at hl 2 rfl) ?_
  refine h_gVi (n := 2) (b := ad 0) (As := [.int (iI x), .int (iI y)]) (rest := []) ⟨hx, hb, hml, hown, hts⟩ (c_X4_letterSkip l hfl D cy ad z f M x y (by first | assumption | omega) (by first | assumption | omega) (by first | assumption | omega) (by first | assumption | omega)) gL_letterSkip_X4_letterSkip rfl (by decide +kernel) ⟨Nat.le_of_ble_eq_true rfl, Nat.le_of_ble_eq_true rfl⟩ hK hT hC hZ hP hS (Fp.same hP hD hS hA [0, 1, 2, 3, 4, 5, 6, 7] rfl rfl (fun _ => rfl)) (Fp.same hP hD hS hA [0, 1, 2, 3, 4, 5, 6, 7] rfl rfl (fun _ => rfl)) 0 4 rfl rfl rfl rfl hl.1 rfl (Nat.le_of_ble_eq_true rfl) dL_letterSkip_3 ⟨by decide, by decide⟩ (fun E ce q9 H locs hpx hP hD hS hce hcv hcl => ?_) (fun r_1 u_1 H locs hw_1 hP hD hS => ?_)
  · --
    rcases hpx with ⟨rfl, hcond⟩ | ⟨rfl, hcond⟩
    · --
      refine vx_catch (name := "java/lang/IndexOutOfBoundsException") hown [] _ _ (htab.trans rfl) (by intro z hz; cases hz) (by decide) (by decide) (hts (.classLink RL 28 "java/lang/IndexOutOfBoundsException") (by decide +kernel)) (va_Nw.use rfl (hC.1 xIOB (List.mem_of_getElem? (i := 2) rfl))) hce hcv hcl ?_
      refine W.eq (g2 := F0 m 7 ls [.ref q9]) rfl ?_
      have hP : va_P D vwCl (List.flatten [wTop ad, wSt cy ad 1 z f]) H := hP
      have hD : va_D A (List.flatten [wTop ad, wSt cy ad 1 z f]) := hD
      refine lv_astore_n (lv' := [(3, .ref q9), (0, .ref (ad 0)), (1, .int (iI x)), (2, .int (iI y))]) hx hb dL_letterSkip_7 rfl hl (by decide) rfl (fun ls hl => ?_)
      refine lv_ldc (own := RL) (index := 17) (v := 90001) hx hb hown (hts (.constant RL 17 (90001)) (by decide +kernel)) dL_letterSkip_8 ?_
      refine z_top (show (90001 : Int32) = iI 90001 from by decide +kernel) ?_
      refine W.widen (k := 2) (n := 6 * 2) (by decide) (by decide) ?_
      exact z_iret hx hb hr hlocks hS () (show (((0 ≤ x ∧ x < (M.2.1.length : Int)) ∧ (0 ≤ y ∧ y ≤ 25) ∧ (iI 90001) = iI (x - lastF M.2.1.length (gl M.2.1) (iI y)))) ∨ ((iI 90001) = iI 90001 ∧ (¬ (0 ≤ x ∧ x < (M.2.1.length : Int)))) ∨ ((iI 90001) = iI 90002 ∧ ((0 ≤ x ∧ x < (M.2.1.length : Int)) ∧ ¬ (0 ≤ y ∧ y ≤ 25))) from (Or.inr (Or.inl ⟨rfl, hcond⟩))) hP dL_letterSkip_10
    · --
      refine vx_catch (name := "java/lang/IllegalArgumentException") hown [_] _ _ (htab.trans rfl) (by
          intro z hz
          rcases List.mem_singleton.mp hz with rfl
          exact Or.inr ⟨by decide, "java/lang/IndexOutOfBoundsException", hts (.classLink RL 28 "java/lang/IndexOutOfBoundsException") (by decide +kernel), hC.2.1⟩) (by decide) (by decide) (hts (.classLink RL 30 "java/lang/IllegalArgumentException") (by decide +kernel)) (va_Nw.use rfl (hC.1 xIAE (List.mem_of_getElem? (i := 1) rfl))) hce hcv hcl ?_
      refine W.eq (g2 := F0 m 11 ls [.ref q9]) rfl ?_
      have hP : va_P D vwCl (List.flatten [wTop ad, wSt cy ad 1 z f]) H := hP
      have hD : va_D A (List.flatten [wTop ad, wSt cy ad 1 z f]) := hD
      refine lv_astore_n (lv' := [(3, .ref q9), (0, .ref (ad 0)), (1, .int (iI x)), (2, .int (iI y))]) hx hb dL_letterSkip_11 rfl hl (by decide) rfl (fun ls hl => ?_)
      refine lv_ldc (own := RL) (index := 32) (v := 90002) hx hb hown (hts (.constant RL 32 (90002)) (by decide +kernel)) dL_letterSkip_12 ?_
      refine z_top (show (90002 : Int32) = iI 90002 from by decide +kernel) ?_
      refine W.widen (k := 2) (n := 6 * 2) (by decide) (by decide) ?_
      exact z_iret hx hb hr hlocks hS () (show (((0 ≤ x ∧ x < (M.2.1.length : Int)) ∧ (0 ≤ y ∧ y ≤ 25) ∧ (iI 90002) = iI (x - lastF M.2.1.length (gl M.2.1) (iI y)))) ∨ ((iI 90002) = iI 90001 ∧ (¬ (0 ≤ x ∧ x < (M.2.1.length : Int)))) ∨ ((iI 90002) = iI 90002 ∧ ((0 ≤ x ∧ x < (M.2.1.length : Int)) ∧ ¬ (0 ≤ y ∧ y ≤ 25))) from (Or.inr (Or.inr ⟨rfl, hcond⟩))) hP dL_letterSkip_14
  · --
    have hw_1 : (0 ≤ x ∧ x < (M.2.1.length : Int)) ∧ (0 ≤ y ∧ y ≤ 25) ∧ r_1 = iI (x - lastF M.2.1.length (gl M.2.1) (iI y)) := hw_1
    have hP : va_P D vwCl (List.flatten [wTop ad, wSt cy ad 1 z f]) H := hP
    have hD : va_D A (List.flatten [wTop ad, wSt cy ad 1 z f]) := hD
    refine W.widen (k := 2) (n := 6 * 2) (by decide) (by decide) ?_
    exact z_iret hx hb hr hlocks hS () (show (((0 ≤ x ∧ x < (M.2.1.length : Int)) ∧ (0 ≤ y ∧ y ≤ 25) ∧ r_1 = iI (x - lastF M.2.1.length (gl M.2.1) (iI y)))) ∨ (r_1 = iI 90001 ∧ (¬ (0 ≤ x ∧ x < (M.2.1.length : Int)))) ∨ (r_1 = iI 90002 ∧ ((0 ≤ x ∧ x < (M.2.1.length : Int)) ∧ ¬ (0 ≤ y ∧ y ≤ 25))) from (Or.inl hw_1)) hP dL_letterSkip_6
set_option maxHeartbeats 4000000 in
set_option maxRecDepth 100000 in
theorem c_L_endSkip (l : Launch) (hfl : l.stackTraces = false) (D : va_G) (cy : Nat → ClassId) (ad : Nat → Nat) (z : Nat → Int) (f : Nat → Nat → Int32) (M : MS) (en : Int) (B : Nat → Int) (Kf : Nat → Int) (x : Int) (hR : RS z f M) (hM : MOk M) (hk : ∀ j : Nat, 0 ≤ Kf j ∧ Kf j ≤ 17) (hx1 : -2147483648 ≤ x ∧ x < 2147483648) : Ni l D cy yL_endSkip wsL_endSkip 8 134 1 [.ref (ad 0), .int (iI x)] (List.flatten [wTop ad, wSt cy ad 1 z f, wEn cy ad en B Kf]) (fun (r : Int32) (u : Int × (Nat → Int) × (Nat → Int)) => ((((0 ≤ x ∧ x < (M.2.1.length : Int)) ∧ r = iI (endF M.2.1.length (gl M.2.1) x.toNat : Int)) ∧ ∀ j : Nat, 0 ≤ u.2.2 j ∧ u.2.2 j ≤ 17)) ∨ (r = iI 90001 ∧ (¬ (0 ≤ x ∧ x < (M.2.1.length : Int))) ∧ u.1 = en ∧ u.2.1 = B ∧ u.2.2 = Kf)) (fun u : Int × (Nat → Int) × (Nat → Int) => (List.flatten [wTop ad, wSt cy ad 1 z f, wEn cy ad u.1 u.2.1 u.2.2])) := by
  refine Ni_of (cc := cL_endSkip) (maxL := 3) (ret := (some .int)) (hh := [(0, 5, 6, 28)]) (by decide) rfl rfl ?_
  intro p e s m args below meth c A hx hb hr hts hown hlocks hml htab hP hK hD hT hC hZ hA ls hl
  have hS : va_S A s.heap s.heap [] := va_S.rf
  have hl : lv_has ls 3 [(0, .ref (ad 0)), (1, .int (iI x))] := hl
  have hP : va_P D vwCl (List.flatten [wTop ad, wSt cy ad 1 z f, wEn cy ad en B Kf]) s.heap := hP
  have hD : va_D A (List.flatten [wTop ad, wSt cy ad 1 z f, wEn cy ad en B Kf]) := hD
  refine lv_aload_n hx hb dL_endSkip_0 rfl (lv_at hl 0 rfl) ?_
  refine lv_iload_n hx hb dL_endSkip_1 rfl (lv_at hl 1 rfl) ?_
  refine h_gVi (n := 1) (b := ad 0) (As := [.int (iI x)]) (rest := []) ⟨hx, hb, hml, hown, hts⟩ (c_X4_endSkip l hfl D cy ad z f M en B Kf x (by first | assumption | omega) (by first | assumption | omega) (by first | assumption | omega) (by first | assumption | omega)) gL_endSkip_X4_endSkip rfl (by decide +kernel) ⟨Nat.le_of_ble_eq_true rfl, Nat.le_of_ble_eq_true rfl⟩ hK hT hC hZ hP hS (Fp.blocks hP hD hS hA (cs := [wTop ad, wSt cy ad 1 z f, wEn cy ad en B Kf]) (nb := fun (u : Int × (Nat → Int) × (Nat → Int)) => [wTop ad, wSt cy ad 1 z f, wEn cy ad u.1 u.2.1 u.2.2]) (nbs := fun (u : Int × (Nat → Int) × (Nat → Int)) => [wTop ad, wSt cy ad 1 z f, wEn cy ad u.1 u.2.1 u.2.2]) [0, 1, 2] rfl rfl rfl (fun _ => rfl) (fun _ => rfl) (fun _ => rfl)) (Fp.same hP hD hS hA [0, 1, 2, 3, 4, 5, 6, 7, 8, 9, 10] rfl rfl (fun _ => rfl)) 0 4 rfl rfl rfl rfl hl.1 rfl (Nat.le_of_ble_eq_true rfl) dL_endSkip_2 ⟨by decide, by decide⟩ (fun E ce q9 H locs hpx hP hD hS hce hcv hcl => ?_) (fun r_1 u_1 H locs hw_1 hP hD hS => ?_)
  · --
    rcases hpx with ⟨rfl, hcond⟩
    · --
      refine vx_catch (name := "java/lang/IndexOutOfBoundsException") hown [] _ _ (htab.trans rfl) (by intro z hz; cases hz) (by decide) (by decide) (hts (.classLink RL 28 "java/lang/IndexOutOfBoundsException") (by decide +kernel)) (va_Nw.use rfl (hC.1 xIOB (List.mem_of_getElem? (i := 2) rfl))) hce hcv hcl ?_
      refine W.eq (g2 := F0 m 6 ls [.ref q9]) rfl ?_
      have hP : va_P D vwCl (List.flatten [wTop ad, wSt cy ad 1 z f, wEn cy ad en B Kf]) H := hP
      have hD : va_D A (List.flatten [wTop ad, wSt cy ad 1 z f, wEn cy ad en B Kf]) := hD
      refine lv_astore_n (lv' := [(2, .ref q9), (0, .ref (ad 0)), (1, .int (iI x))]) hx hb dL_endSkip_6 rfl hl (by decide) rfl (fun ls hl => ?_)
      refine lv_ldc (own := RL) (index := 17) (v := 90001) hx hb hown (hts (.constant RL 17 (90001)) (by decide +kernel)) dL_endSkip_7 ?_
      refine z_top (show (90001 : Int32) = iI 90001 from by decide +kernel) ?_
      refine W.widen (k := 1) (n := 6 * 1) (by decide) (by decide) ?_
      exact z_iret hx hb hr hlocks hS (en, B, Kf) (show ((((0 ≤ x ∧ x < (M.2.1.length : Int)) ∧ (iI 90001) = iI (endF M.2.1.length (gl M.2.1) x.toNat : Int)) ∧ ∀ j : Nat, 0 ≤ Kf j ∧ Kf j ≤ 17)) ∨ ((iI 90001) = iI 90001 ∧ (¬ (0 ≤ x ∧ x < (M.2.1.length : Int))) ∧ en = en ∧ B = B ∧ Kf = Kf) from (Or.inr ⟨rfl, hcond, rfl, rfl, rfl⟩)) hP dL_endSkip_9
  · --
    obtain ⟨en1_1, B1_1, K1_1⟩ := u_1
    have hw_1 : ((0 ≤ x ∧ x < (M.2.1.length : Int)) ∧ r_1 = iI (endF M.2.1.length (gl M.2.1) x.toNat : Int)) ∧ ∀ j : Nat, 0 ≤ K1_1 j ∧ K1_1 j ≤ 17 := hw_1
    have hP : va_P D vwCl (List.flatten [wTop ad, wSt cy ad 1 z f, wEn cy ad en1_1 B1_1 K1_1]) H := hP
    have hD : va_D A (List.flatten [wTop ad, wSt cy ad 1 z f, wEn cy ad en1_1 B1_1 K1_1]) := hD
    refine W.widen (k := 1) (n := 6 * 1) (by decide) (by decide) ?_
    exact z_iret hx hb hr hlocks hS (en1_1, B1_1, K1_1) (show ((((0 ≤ x ∧ x < (M.2.1.length : Int)) ∧ r_1 = iI (endF M.2.1.length (gl M.2.1) x.toNat : Int)) ∧ ∀ j : Nat, 0 ≤ K1_1 j ∧ K1_1 j ≤ 17)) ∨ (r_1 = iI 90001 ∧ (¬ (0 ≤ x ∧ x < (M.2.1.length : Int))) ∧ en1_1 = en ∧ B1_1 = B ∧ K1_1 = Kf) from (Or.inl hw_1)) hP dL_endSkip_5
set_option maxHeartbeats 4000000 in
set_option maxRecDepth 100000 in
theorem c_L_endTried (l : Launch) (hfl : l.stackTraces = false) (D : va_G) (cy : Nat → ClassId) (ad : Nat → Nat) (z : Nat → Int) (f : Nat → Nat → Int32) (M : MS) (x : Int) (hR : RS z f M) (hM : MOk M) (hx1 : -2147483648 ≤ x ∧ x < 2147483648) : Ni l D cy yL_endTried wsL_endTried 8 136 1 [.ref (ad 0), .int (iI x)] (List.flatten [wTop ad, wSt cy ad 1 z f]) (fun (r : Int32) (u : Unit) => (((0 ≤ x ∧ x < (M.2.1.length : Int)) ∧ r = iI (endF M.2.1.length (gl M.2.1) x.toNat : Int))) ∨ (r = iI 90001 ∧ (¬ (0 ≤ x ∧ x < (M.2.1.length : Int))))) (fun u : Unit => (List.flatten [wTop ad, wSt cy ad 1 z f])) := by
  refine Ni_of (cc := cL_endTried) (maxL := 3) (ret := (some .int)) (hh := [(0, 5, 6, 28)]) (by decide) rfl rfl ?_
  intro p e s m args below meth c A hx hb hr hts hown hlocks hml htab hP hK hD hT hC hZ hA ls hl
  have hS : va_S A s.heap s.heap [] := va_S.rf
  have hl : lv_has ls 3 [(0, .ref (ad 0)), (1, .int (iI x))] := hl
  have hP : va_P D vwCl (List.flatten [wTop ad, wSt cy ad 1 z f]) s.heap := hP
  have hD : va_D A (List.flatten [wTop ad, wSt cy ad 1 z f]) := hD
  refine lv_aload_n hx hb dL_endTried_0 rfl (lv_at hl 0 rfl) ?_
  refine lv_iload_n hx hb dL_endTried_1 rfl (lv_at hl 1 rfl) ?_
  refine h_gVi (n := 1) (b := ad 0) (As := [.int (iI x)]) (rest := []) ⟨hx, hb, hml, hown, hts⟩ (c_X4_endSkipByTrying l hfl D cy ad z f M x (by first | assumption | omega) (by first | assumption | omega) (by first | assumption | omega)) gL_endTried_X4_endSkipByTrying rfl (by decide +kernel) ⟨Nat.le_of_ble_eq_true rfl, Nat.le_of_ble_eq_true rfl⟩ hK hT hC hZ hP hS (Fp.same hP hD hS hA [0, 1, 2, 3, 4, 5, 6, 7] rfl rfl (fun _ => rfl)) (Fp.same hP hD hS hA [0, 1, 2, 3, 4, 5, 6, 7] rfl rfl (fun _ => rfl)) 0 4 rfl rfl rfl rfl hl.1 rfl (Nat.le_of_ble_eq_true rfl) dL_endTried_2 ⟨by decide, by decide⟩ (fun E ce q9 H locs hpx hP hD hS hce hcv hcl => ?_) (fun r_1 u_1 H locs hw_1 hP hD hS => ?_)
  · --
    rcases hpx with ⟨rfl, hcond⟩
    · --
      refine vx_catch (name := "java/lang/IndexOutOfBoundsException") hown [] _ _ (htab.trans rfl) (by intro z hz; cases hz) (by decide) (by decide) (hts (.classLink RL 28 "java/lang/IndexOutOfBoundsException") (by decide +kernel)) (va_Nw.use rfl (hC.1 xIOB (List.mem_of_getElem? (i := 2) rfl))) hce hcv hcl ?_
      refine W.eq (g2 := F0 m 6 ls [.ref q9]) rfl ?_
      have hP : va_P D vwCl (List.flatten [wTop ad, wSt cy ad 1 z f]) H := hP
      have hD : va_D A (List.flatten [wTop ad, wSt cy ad 1 z f]) := hD
      refine lv_astore_n (lv' := [(2, .ref q9), (0, .ref (ad 0)), (1, .int (iI x))]) hx hb dL_endTried_6 rfl hl (by decide) rfl (fun ls hl => ?_)
      refine lv_ldc (own := RL) (index := 17) (v := 90001) hx hb hown (hts (.constant RL 17 (90001)) (by decide +kernel)) dL_endTried_7 ?_
      refine z_top (show (90001 : Int32) = iI 90001 from by decide +kernel) ?_
      refine W.widen (k := 1) (n := 6 * 1) (by decide) (by decide) ?_
      exact z_iret hx hb hr hlocks hS () (show (((0 ≤ x ∧ x < (M.2.1.length : Int)) ∧ (iI 90001) = iI (endF M.2.1.length (gl M.2.1) x.toNat : Int))) ∨ ((iI 90001) = iI 90001 ∧ (¬ (0 ≤ x ∧ x < (M.2.1.length : Int)))) from (Or.inr ⟨rfl, hcond⟩)) hP dL_endTried_9
  · --
    have hw_1 : (0 ≤ x ∧ x < (M.2.1.length : Int)) ∧ r_1 = iI (endF M.2.1.length (gl M.2.1) x.toNat : Int) := hw_1
    have hP : va_P D vwCl (List.flatten [wTop ad, wSt cy ad 1 z f]) H := hP
    have hD : va_D A (List.flatten [wTop ad, wSt cy ad 1 z f]) := hD
    refine W.widen (k := 1) (n := 6 * 1) (by decide) (by decide) ?_
    exact z_iret hx hb hr hlocks hS () (show (((0 ≤ x ∧ x < (M.2.1.length : Int)) ∧ r_1 = iI (endF M.2.1.length (gl M.2.1) x.toNat : Int))) ∨ (r_1 = iI 90001 ∧ (¬ (0 ≤ x ∧ x < (M.2.1.length : Int)))) from (Or.inl hw_1)) hP dL_endTried_5
set_option maxHeartbeats 4000000 in
set_option maxRecDepth 100000 in
theorem c_L_difference (l : Launch) (hfl : l.stackTraces = false) (D : va_G) (cy : Nat → ClassId) (ad : Nat → Nat) (z : Nat → Int) (f : Nat → Nat → Int32) (M : MS) (x : Int) (hR : RS z f M) (hM : MOk M) (hx1 : -2147483648 ≤ x ∧ x < 2147483648) : Ni l D cy yL_difference wsL_difference 7 113 1 [.ref (ad 0), .int (iI x)] (List.flatten [wTop ad, wSt cy ad 1 z f]) (fun (r : Int32) (u : Unit) => (((0 ≤ x ∧ x + (M.2.1.length : Int) ≤ (M.1.length : Int)) ∧ ¬ (M.2.1.length : Int) = 0 ∧ r = iI (mD M x))) ∨ (r = iI 90001 ∧ ((x < 0 ∨ (M.1.length : Int) < x + (M.2.1.length : Int)))) ∨ (r = iI 90002 ∧ (¬ (x < 0 ∨ (M.1.length : Int) < x + (M.2.1.length : Int)) ∧ (M.2.1.length : Int) = 0))) (fun u : Unit => (List.flatten [wTop ad, wSt cy ad 1 z f])) := by
  refine Ni_of (cc := cL_difference) (maxL := 3) (ret := (some .int)) (hh := [(0, 5, 6, 28), (0, 5, 10, 15)]) (by decide) rfl rfl ?_
  intro p e s m args below meth c A hx hb hr hts hown hlocks hml htab hP hK hD hT hC hZ hA ls hl
  have hS : va_S A s.heap s.heap [] := va_S.rf
  have hl : lv_has ls 3 [(0, .ref (ad 0)), (1, .int (iI x))] := hl
  have hP : va_P D vwCl (List.flatten [wTop ad, wSt cy ad 1 z f]) s.heap := hP
  have hD : va_D A (List.flatten [wTop ad, wSt cy ad 1 z f]) := hD
  refine lv_aload_n hx hb dL_difference_0 rfl (lv_at hl 0 rfl) ?_
  refine lv_iload_n hx hb dL_difference_1 rfl (lv_at hl 1 rfl) ?_
  refine h_gVi (n := 1) (b := ad 0) (As := [.int (iI x)]) (rest := []) ⟨hx, hb, hml, hown, hts⟩ (c_X4_differenceAt l hfl D cy ad z f M x (by first | assumption | omega) (by first | assumption | omega) (by first | assumption | omega)) gL_difference_X4_differenceAt rfl (by decide +kernel) ⟨Nat.le_of_ble_eq_true rfl, Nat.le_of_ble_eq_true rfl⟩ hK hT hC hZ hP hS (Fp.same hP hD hS hA [0, 1, 2, 3, 4, 5, 6, 7] rfl rfl (fun _ => rfl)) (Fp.same hP hD hS hA [0, 1, 2, 3, 4, 5, 6, 7] rfl rfl (fun _ => rfl)) 0 4 rfl rfl rfl rfl hl.1 rfl (Nat.le_of_ble_eq_true rfl) dL_difference_2 ⟨by decide, by decide⟩ (fun E ce q9 H locs hpx hP hD hS hce hcv hcl => ?_) (fun r_1 u_1 H locs hw_1 hP hD hS => ?_)
  · --
    rcases hpx with ⟨rfl, hcond⟩ | ⟨rfl, hcond⟩
    · --
      refine vx_catch (name := "java/lang/IndexOutOfBoundsException") hown [] _ _ (htab.trans rfl) (by intro z hz; cases hz) (by decide) (by decide) (hts (.classLink RL 28 "java/lang/IndexOutOfBoundsException") (by decide +kernel)) (va_Nw.use rfl (hC.1 xIOB (List.mem_of_getElem? (i := 2) rfl))) hce hcv hcl ?_
      refine W.eq (g2 := F0 m 6 ls [.ref q9]) rfl ?_
      have hP : va_P D vwCl (List.flatten [wTop ad, wSt cy ad 1 z f]) H := hP
      have hD : va_D A (List.flatten [wTop ad, wSt cy ad 1 z f]) := hD
      refine lv_astore_n (lv' := [(2, .ref q9), (0, .ref (ad 0)), (1, .int (iI x))]) hx hb dL_difference_6 rfl hl (by decide) rfl (fun ls hl => ?_)
      refine lv_ldc (own := RL) (index := 17) (v := 90001) hx hb hown (hts (.constant RL 17 (90001)) (by decide +kernel)) dL_difference_7 ?_
      refine z_top (show (90001 : Int32) = iI 90001 from by decide +kernel) ?_
      refine W.widen (k := 1) (n := 6 * 1) (by decide) (by decide) ?_
      exact z_iret hx hb hr hlocks hS () (show (((0 ≤ x ∧ x + (M.2.1.length : Int) ≤ (M.1.length : Int)) ∧ ¬ (M.2.1.length : Int) = 0 ∧ (iI 90001) = iI (mD M x))) ∨ ((iI 90001) = iI 90001 ∧ ((x < 0 ∨ (M.1.length : Int) < x + (M.2.1.length : Int)))) ∨ ((iI 90001) = iI 90002 ∧ (¬ (x < 0 ∨ (M.1.length : Int) < x + (M.2.1.length : Int)) ∧ (M.2.1.length : Int) = 0)) from (Or.inr (Or.inl ⟨rfl, hcond⟩))) hP dL_difference_9
    · --
      refine vx_catch (name := "java/lang/IllegalStateException") hown [_] _ _ (htab.trans rfl) (by
          intro z hz
          rcases List.mem_singleton.mp hz with rfl
          exact Or.inr ⟨by decide, "java/lang/IndexOutOfBoundsException", hts (.classLink RL 28 "java/lang/IndexOutOfBoundsException") (by decide +kernel), hC.2.2.1⟩) (by decide) (by decide) (hts (.classLink RL 15 "java/lang/IllegalStateException") (by decide +kernel)) (va_Nw.use rfl (hC.1 xISE (List.mem_of_getElem? (i := 0) rfl))) hce hcv hcl ?_
      refine W.eq (g2 := F0 m 10 ls [.ref q9]) rfl ?_
      have hP : va_P D vwCl (List.flatten [wTop ad, wSt cy ad 1 z f]) H := hP
      have hD : va_D A (List.flatten [wTop ad, wSt cy ad 1 z f]) := hD
      refine lv_astore_n (lv' := [(2, .ref q9), (0, .ref (ad 0)), (1, .int (iI x))]) hx hb dL_difference_10 rfl hl (by decide) rfl (fun ls hl => ?_)
      refine lv_ldc (own := RL) (index := 32) (v := 90002) hx hb hown (hts (.constant RL 32 (90002)) (by decide +kernel)) dL_difference_11 ?_
      refine z_top (show (90002 : Int32) = iI 90002 from by decide +kernel) ?_
      refine W.widen (k := 1) (n := 6 * 1) (by decide) (by decide) ?_
      exact z_iret hx hb hr hlocks hS () (show (((0 ≤ x ∧ x + (M.2.1.length : Int) ≤ (M.1.length : Int)) ∧ ¬ (M.2.1.length : Int) = 0 ∧ (iI 90002) = iI (mD M x))) ∨ ((iI 90002) = iI 90001 ∧ ((x < 0 ∨ (M.1.length : Int) < x + (M.2.1.length : Int)))) ∨ ((iI 90002) = iI 90002 ∧ (¬ (x < 0 ∨ (M.1.length : Int) < x + (M.2.1.length : Int)) ∧ (M.2.1.length : Int) = 0)) from (Or.inr (Or.inr ⟨rfl, hcond⟩))) hP dL_difference_13
  · --
    have hw_1 : (0 ≤ x ∧ x + (M.2.1.length : Int) ≤ (M.1.length : Int)) ∧ ¬ (M.2.1.length : Int) = 0 ∧ r_1 = iI (mD M x) := hw_1
    have hP : va_P D vwCl (List.flatten [wTop ad, wSt cy ad 1 z f]) H := hP
    have hD : va_D A (List.flatten [wTop ad, wSt cy ad 1 z f]) := hD
    refine W.widen (k := 1) (n := 6 * 1) (by decide) (by decide) ?_
    exact z_iret hx hb hr hlocks hS () (show (((0 ≤ x ∧ x + (M.2.1.length : Int) ≤ (M.1.length : Int)) ∧ ¬ (M.2.1.length : Int) = 0 ∧ r_1 = iI (mD M x))) ∨ (r_1 = iI 90001 ∧ ((x < 0 ∨ (M.1.length : Int) < x + (M.2.1.length : Int)))) ∨ (r_1 = iI 90002 ∧ (¬ (x < 0 ∨ (M.1.length : Int) < x + (M.2.1.length : Int)) ∧ (M.2.1.length : Int) = 0)) from (Or.inl hw_1)) hP dL_difference_5
set_option maxHeartbeats 4000000 in
set_option maxRecDepth 100000 in
theorem c_L_append (l : Launch) (hfl : l.stackTraces = false) (D : va_G) (cy : Nat → ClassId) (ad : Nat → Nat) (tn : Int) (tf : Nat → Int32) (tx : List Int32) (cv : Int64) (hX : Rep tn tf tx ∧ tx.length ≤ 80) : Ni l D cy yL_append wsL_append 7 116 1 [.ref (ad 0), .long cv] (List.flatten [wTop ad, wTx cy ad tn tf]) (fun (r : Int32) (u : Int × (Nat → Int32)) => ((∃ n : Nat, 1 ≤ n ∧ cntOk cv n ∧ (tx.length : Int) + n ≤ 80 ∧ r = iI ((tx.length : Int) + n) ∧ Rep u.1 u.2 (tx ++ chF cv n))) ∨ (r = iI 90001 ∧ (¬ ∃ n : Nat, 1 ≤ n ∧ cntOk cv n) ∧ u.1 = tn ∧ u.2 = tf) ∨ (r = iI 90002 ∧ (∃ n : Nat, 1 ≤ n ∧ cntOk cv n ∧ 80 < (tx.length : Int) + n) ∧ u.1 = tn ∧ u.2 = tf)) (fun u : Int × (Nat → Int32) => (List.flatten [wTop ad, wTx cy ad u.1 u.2])) := by
  refine Ni_of (cc := cL_append) (maxL := 4) (ret := (some .int)) (hh := [(0, 5, 6, 30), (0, 5, 10, 15)]) (by decide) rfl rfl ?_
  intro p e s m args below meth c A hx hb hr hts hown hlocks hml htab hP hK hD hT hC hZ hA ls hl
  have hS : va_S A s.heap s.heap [] := va_S.rf
  have hl : lv_has ls 4 [(0, .ref (ad 0)), (1, .long cv)] := hl
  have hP : va_P D vwCl (List.flatten [wTop ad, wTx cy ad tn tf]) s.heap := hP
  have hD : va_D A (List.flatten [wTop ad, wTx cy ad tn tf]) := hD
  refine lv_aload_n hx hb dL_append_0 rfl (lv_at hl 0 rfl) ?_
  refine lv_lload_n hx hb dL_append_1 rfl (lv_at hl 1 rfl) ?_
  refine h_gVi (n := 1) (b := ad 0) (As := [.long cv]) (rest := []) ⟨hx, hb, hml, hown, hts⟩ (c_X4_appendText l hfl D cy ad tn tf tx cv (by first | assumption | omega)) gL_append_X4_appendText rfl (by decide +kernel) ⟨Nat.le_of_ble_eq_true rfl, Nat.le_of_ble_eq_true rfl⟩ hK hT hC hZ hP hS (Fp.blocks hP hD hS hA (cs := [wTop ad, wTx cy ad tn tf]) (nb := fun (u : Int × (Nat → Int32)) => [wTop ad, wTx cy ad u.1 u.2]) (nbs := fun (u : Int × (Nat → Int32)) => [wTop ad, wTx cy ad u.1 u.2]) [0, 1] rfl rfl rfl (fun _ => rfl) (fun _ => rfl) (fun _ => rfl)) (Fp.same hP hD hS hA [0, 1, 2] rfl rfl (fun _ => rfl)) 0 4 rfl rfl rfl rfl hl.1 rfl (Nat.le_of_ble_eq_true rfl) dL_append_2 ⟨by decide, by decide⟩ (fun E ce q9 H locs hpx hP hD hS hce hcv hcl => ?_) (fun r_1 u_1 H locs hw_1 hP hD hS => ?_)
  · --
    rcases hpx with ⟨rfl, hcond⟩ | ⟨rfl, hcond⟩
    · --
      refine vx_catch (name := "java/lang/IllegalArgumentException") hown [] _ _ (htab.trans rfl) (by intro z hz; cases hz) (by decide) (by decide) (hts (.classLink RL 30 "java/lang/IllegalArgumentException") (by decide +kernel)) (va_Nw.use rfl (hC.1 xIAE (List.mem_of_getElem? (i := 1) rfl))) hce hcv hcl ?_
      refine W.eq (g2 := F0 m 6 ls [.ref q9]) rfl ?_
      have hP : va_P D vwCl (List.flatten [wTop ad, wTx cy ad tn tf]) H := hP
      have hD : va_D A (List.flatten [wTop ad, wTx cy ad tn tf]) := hD
      refine lv_astore_n (lv' := [(3, .ref q9), (0, .ref (ad 0)), (1, .long cv)]) hx hb dL_append_6 rfl hl (by decide) rfl (fun ls hl => ?_)
      refine lv_ldc (own := RL) (index := 17) (v := 90001) hx hb hown (hts (.constant RL 17 (90001)) (by decide +kernel)) dL_append_7 ?_
      refine z_top (show (90001 : Int32) = iI 90001 from by decide +kernel) ?_
      refine W.widen (k := 1) (n := 6 * 1) (by decide) (by decide) ?_
      exact z_iret hx hb hr hlocks hS (tn, tf) (show ((∃ n : Nat, 1 ≤ n ∧ cntOk cv n ∧ (tx.length : Int) + n ≤ 80 ∧ (iI 90001) = iI ((tx.length : Int) + n) ∧ Rep tn tf (tx ++ chF cv n))) ∨ ((iI 90001) = iI 90001 ∧ (¬ ∃ n : Nat, 1 ≤ n ∧ cntOk cv n) ∧ tn = tn ∧ tf = tf) ∨ ((iI 90001) = iI 90002 ∧ (∃ n : Nat, 1 ≤ n ∧ cntOk cv n ∧ 80 < (tx.length : Int) + n) ∧ tn = tn ∧ tf = tf) from (Or.inr (Or.inl ⟨rfl, hcond, rfl, rfl⟩))) hP dL_append_9
    · --
      refine vx_catch (name := "java/lang/IllegalStateException") hown [_] _ _ (htab.trans rfl) (by
          intro z hz
          rcases List.mem_singleton.mp hz with rfl
          exact Or.inr ⟨by decide, "java/lang/IllegalArgumentException", hts (.classLink RL 30 "java/lang/IllegalArgumentException") (by decide +kernel), hC.2.2.2.1⟩) (by decide) (by decide) (hts (.classLink RL 15 "java/lang/IllegalStateException") (by decide +kernel)) (va_Nw.use rfl (hC.1 xISE (List.mem_of_getElem? (i := 0) rfl))) hce hcv hcl ?_
      refine W.eq (g2 := F0 m 10 ls [.ref q9]) rfl ?_
      have hP : va_P D vwCl (List.flatten [wTop ad, wTx cy ad tn tf]) H := hP
      have hD : va_D A (List.flatten [wTop ad, wTx cy ad tn tf]) := hD
      refine lv_astore_n (lv' := [(3, .ref q9), (0, .ref (ad 0)), (1, .long cv)]) hx hb dL_append_10 rfl hl (by decide) rfl (fun ls hl => ?_)
      refine lv_ldc (own := RL) (index := 32) (v := 90002) hx hb hown (hts (.constant RL 32 (90002)) (by decide +kernel)) dL_append_11 ?_
      refine z_top (show (90002 : Int32) = iI 90002 from by decide +kernel) ?_
      refine W.widen (k := 1) (n := 6 * 1) (by decide) (by decide) ?_
      exact z_iret hx hb hr hlocks hS (tn, tf) (show ((∃ n : Nat, 1 ≤ n ∧ cntOk cv n ∧ (tx.length : Int) + n ≤ 80 ∧ (iI 90002) = iI ((tx.length : Int) + n) ∧ Rep tn tf (tx ++ chF cv n))) ∨ ((iI 90002) = iI 90001 ∧ (¬ ∃ n : Nat, 1 ≤ n ∧ cntOk cv n) ∧ tn = tn ∧ tf = tf) ∨ ((iI 90002) = iI 90002 ∧ (∃ n : Nat, 1 ≤ n ∧ cntOk cv n ∧ 80 < (tx.length : Int) + n) ∧ tn = tn ∧ tf = tf) from (Or.inr (Or.inr ⟨rfl, hcond, rfl, rfl⟩))) hP dL_append_13
  · --
    obtain ⟨tn1_1, tf1_1⟩ := u_1
    have hw_1 : ∃ n : Nat, 1 ≤ n ∧ cntOk cv n ∧ (tx.length : Int) + n ≤ 80 ∧ r_1 = iI ((tx.length : Int) + n) ∧ Rep tn1_1 tf1_1 (tx ++ chF cv n) := hw_1
    have hP : va_P D vwCl (List.flatten [wTop ad, wTx cy ad tn1_1 tf1_1]) H := hP
    have hD : va_D A (List.flatten [wTop ad, wTx cy ad tn1_1 tf1_1]) := hD
    refine W.widen (k := 1) (n := 6 * 1) (by decide) (by decide) ?_
    exact z_iret hx hb hr hlocks hS (tn1_1, tf1_1) (show ((∃ n : Nat, 1 ≤ n ∧ cntOk cv n ∧ (tx.length : Int) + n ≤ 80 ∧ r_1 = iI ((tx.length : Int) + n) ∧ Rep tn1_1 tf1_1 (tx ++ chF cv n))) ∨ (r_1 = iI 90001 ∧ (¬ ∃ n : Nat, 1 ≤ n ∧ cntOk cv n) ∧ tn1_1 = tn ∧ tf1_1 = tf) ∨ (r_1 = iI 90002 ∧ (∃ n : Nat, 1 ≤ n ∧ cntOk cv n ∧ 80 < (tx.length : Int) + n) ∧ tn1_1 = tn ∧ tf1_1 = tf) from (Or.inl hw_1)) hP dL_append_5
set_option maxHeartbeats 4000000 in
set_option maxRecDepth 100000 in
theorem c_L_undo (l : Launch) (hfl : l.stackTraces = false) (D : va_G) (cy : Nat → ClassId) (ad : Nat → Nat) (z : Nat → Int) (f : Nat → Nat → Int32) (M : MS) (nx : Int) (ct : Int) (Zh : Nat → Nat → Int) (Fh : Nat → Nat → Nat → Int32) (h : List MS) (hH : RXH nx ct Zh Fh h) : Ni l D cy yL_undo wsL_undo 7 112 1 [.ref (ad 0)] (List.flatten [wTop ad, wSt cy ad 1 z f, wHb ad ct, wKb cy ad nx, wSt cy ad 20 (Zh 0) (Fh 0), wSt cy ad 27 (Zh 1) (Fh 1), wSt cy ad 34 (Zh 2) (Fh 2), wSt cy ad 41 (Zh 3) (Fh 3), wSt cy ad 48 (Zh 4) (Fh 4), wSt cy ad 55 (Zh 5) (Fh 5)]) (fun (r : Int32) (u : (Nat → Int) × (Nat → Nat → Int32) × Int × Int) => ((¬ h.length = 0 ∧ r = iI ((h.length : Int) - 1) ∧ RXH u.2.2.1 u.2.2.2 Zh Fh (h.take (h.length - 1)) ∧ ∀ M2 : MS, h[h.length - 1]? = some M2 → RS u.1 u.2.1 M2)) ∨ (r = iI 90001 ∧ (h.length = 0) ∧ u.1 = z ∧ u.2.1 = f ∧ u.2.2.1 = nx ∧ u.2.2.2 = ct)) (fun u : (Nat → Int) × (Nat → Nat → Int32) × Int × Int => (List.flatten [wTop ad, wSt cy ad 1 u.1 u.2.1, wHb ad u.2.2.2, wKb cy ad u.2.2.1, wSt cy ad 20 (Zh 0) (Fh 0), wSt cy ad 27 (Zh 1) (Fh 1), wSt cy ad 34 (Zh 2) (Fh 2), wSt cy ad 41 (Zh 3) (Fh 3), wSt cy ad 48 (Zh 4) (Fh 4), wSt cy ad 55 (Zh 5) (Fh 5)])) := by
  refine Ni_of (cc := cL_undo) (maxL := 2) (ret := (some .int)) (hh := [(0, 4, 5, 15)]) (by decide) rfl rfl ?_
  intro p e s m args below meth c A hx hb hr hts hown hlocks hml htab hP hK hD hT hC hZ hA ls hl
  have hS : va_S A s.heap s.heap [] := va_S.rf
  have hl : lv_has ls 2 [(0, .ref (ad 0))] := hl
  have hP : va_P D vwCl (List.flatten [wTop ad, wSt cy ad 1 z f, wHb ad ct, wKb cy ad nx, wSt cy ad 20 (Zh 0) (Fh 0), wSt cy ad 27 (Zh 1) (Fh 1), wSt cy ad 34 (Zh 2) (Fh 2), wSt cy ad 41 (Zh 3) (Fh 3), wSt cy ad 48 (Zh 4) (Fh 4), wSt cy ad 55 (Zh 5) (Fh 5)]) s.heap := hP
  have hD : va_D A (List.flatten [wTop ad, wSt cy ad 1 z f, wHb ad ct, wKb cy ad nx, wSt cy ad 20 (Zh 0) (Fh 0), wSt cy ad 27 (Zh 1) (Fh 1), wSt cy ad 34 (Zh 2) (Fh 2), wSt cy ad 41 (Zh 3) (Fh 3), wSt cy ad 48 (Zh 4) (Fh 4), wSt cy ad 55 (Zh 5) (Fh 5)]) := hD
  refine lv_aload_n hx hb dL_undo_0 rfl (lv_at hl 0 rfl) ?_
  refine h_gVi (n := 0) (b := ad 0) (As := []) (rest := []) ⟨hx, hb, hml, hown, hts⟩ (c_X4_undo l hfl D cy ad z f M nx ct Zh Fh h (by first | assumption | omega)) gL_undo_X4_undo rfl (by decide +kernel) ⟨Nat.le_of_ble_eq_true rfl, Nat.le_of_ble_eq_true rfl⟩ hK hT hC hZ hP hS (Fp.blocks hP hD hS hA (cs := [wTop ad, wSt cy ad 1 z f, wHb ad ct, wKb cy ad nx, wSt cy ad 20 (Zh 0) (Fh 0), wSt cy ad 27 (Zh 1) (Fh 1), wSt cy ad 34 (Zh 2) (Fh 2), wSt cy ad 41 (Zh 3) (Fh 3), wSt cy ad 48 (Zh 4) (Fh 4), wSt cy ad 55 (Zh 5) (Fh 5)]) (nb := fun (u : (Nat → Int) × (Nat → Nat → Int32) × Int × Int) => [wTop ad, wSt cy ad 1 u.1 u.2.1, wHb ad u.2.2.2, wKb cy ad u.2.2.1, wSt cy ad 20 (Zh 0) (Fh 0), wSt cy ad 27 (Zh 1) (Fh 1), wSt cy ad 34 (Zh 2) (Fh 2), wSt cy ad 41 (Zh 3) (Fh 3), wSt cy ad 48 (Zh 4) (Fh 4), wSt cy ad 55 (Zh 5) (Fh 5)]) (nbs := fun (u : (Nat → Int) × (Nat → Nat → Int32) × Int × Int) => [wTop ad, wSt cy ad 1 u.1 u.2.1, wHb ad u.2.2.2, wKb cy ad u.2.2.1, wSt cy ad 20 (Zh 0) (Fh 0), wSt cy ad 27 (Zh 1) (Fh 1), wSt cy ad 34 (Zh 2) (Fh 2), wSt cy ad 41 (Zh 3) (Fh 3), wSt cy ad 48 (Zh 4) (Fh 4), wSt cy ad 55 (Zh 5) (Fh 5)]) [0, 1, 2, 3, 4, 5, 6, 7, 8, 9] rfl rfl rfl (fun _ => rfl) (fun _ => rfl) (fun _ => rfl)) (Fp.same hP hD hS hA [0, 1, 2, 3, 4, 5, 6, 7, 8, 9, 10, 11, 12, 13, 14, 15, 16, 17, 18, 19, 20, 21, 22, 23, 24, 25, 26, 27, 28, 29, 30, 31, 32, 33, 34, 35, 36, 37, 38, 39, 40, 41, 42, 43, 44, 45, 46, 47, 48, 49, 50, 51] rfl rfl (fun _ => rfl)) 0 4 rfl rfl rfl rfl hl.1 rfl (Nat.le_of_ble_eq_true rfl) dL_undo_1 ⟨by decide, by decide⟩ (fun E ce q9 H locs hpx hP hD hS hce hcv hcl => ?_) (fun r_1 u_1 H locs hw_1 hP hD hS => ?_)
  · --
    rcases hpx with ⟨rfl, hcond⟩
    · --
      refine vx_catch (name := "java/lang/IllegalStateException") hown [] _ _ (htab.trans rfl) (by intro z hz; cases hz) (by decide) (by decide) (hts (.classLink RL 15 "java/lang/IllegalStateException") (by decide +kernel)) (va_Nw.use rfl (hC.1 xISE (List.mem_of_getElem? (i := 0) rfl))) hce hcv hcl ?_
      refine W.eq (g2 := F0 m 5 ls [.ref q9]) rfl ?_
      have hP : va_P D vwCl (List.flatten [wTop ad, wSt cy ad 1 z f, wHb ad ct, wKb cy ad nx, wSt cy ad 20 (Zh 0) (Fh 0), wSt cy ad 27 (Zh 1) (Fh 1), wSt cy ad 34 (Zh 2) (Fh 2), wSt cy ad 41 (Zh 3) (Fh 3), wSt cy ad 48 (Zh 4) (Fh 4), wSt cy ad 55 (Zh 5) (Fh 5)]) H := hP
      have hD : va_D A (List.flatten [wTop ad, wSt cy ad 1 z f, wHb ad ct, wKb cy ad nx, wSt cy ad 20 (Zh 0) (Fh 0), wSt cy ad 27 (Zh 1) (Fh 1), wSt cy ad 34 (Zh 2) (Fh 2), wSt cy ad 41 (Zh 3) (Fh 3), wSt cy ad 48 (Zh 4) (Fh 4), wSt cy ad 55 (Zh 5) (Fh 5)]) := hD
      refine lv_astore_n (lv' := [(1, .ref q9), (0, .ref (ad 0))]) hx hb dL_undo_5 rfl hl (by decide) rfl (fun ls hl => ?_)
      refine lv_ldc (own := RL) (index := 17) (v := 90001) hx hb hown (hts (.constant RL 17 (90001)) (by decide +kernel)) dL_undo_6 ?_
      refine z_top (show (90001 : Int32) = iI 90001 from by decide +kernel) ?_
      refine W.widen (k := 1) (n := 6 * 1) (by decide) (by decide) ?_
      exact z_iret hx hb hr hlocks hS (z, f, nx, ct) (show ((¬ h.length = 0 ∧ (iI 90001) = iI ((h.length : Int) - 1) ∧ RXH nx ct Zh Fh (h.take (h.length - 1)) ∧ ∀ M2 : MS, h[h.length - 1]? = some M2 → RS z f M2)) ∨ ((iI 90001) = iI 90001 ∧ (h.length = 0) ∧ z = z ∧ f = f ∧ nx = nx ∧ ct = ct) from (Or.inr ⟨rfl, hcond, rfl, rfl, rfl, rfl⟩)) hP dL_undo_8
  · --
    obtain ⟨z1_1, f1_1, nx1_1, ct1_1⟩ := u_1
    have hw_1 : ¬ h.length = 0 ∧ r_1 = iI ((h.length : Int) - 1) ∧ RXH nx1_1 ct1_1 Zh Fh (h.take (h.length - 1)) ∧ ∀ M2 : MS, h[h.length - 1]? = some M2 → RS z1_1 f1_1 M2 := hw_1
    have hP : va_P D vwCl (List.flatten [wTop ad, wSt cy ad 1 z1_1 f1_1, wHb ad ct1_1, wKb cy ad nx1_1, wSt cy ad 20 (Zh 0) (Fh 0), wSt cy ad 27 (Zh 1) (Fh 1), wSt cy ad 34 (Zh 2) (Fh 2), wSt cy ad 41 (Zh 3) (Fh 3), wSt cy ad 48 (Zh 4) (Fh 4), wSt cy ad 55 (Zh 5) (Fh 5)]) H := hP
    have hD : va_D A (List.flatten [wTop ad, wSt cy ad 1 z1_1 f1_1, wHb ad ct1_1, wKb cy ad nx1_1, wSt cy ad 20 (Zh 0) (Fh 0), wSt cy ad 27 (Zh 1) (Fh 1), wSt cy ad 34 (Zh 2) (Fh 2), wSt cy ad 41 (Zh 3) (Fh 3), wSt cy ad 48 (Zh 4) (Fh 4), wSt cy ad 55 (Zh 5) (Fh 5)]) := hD
    refine W.widen (k := 1) (n := 6 * 1) (by decide) (by decide) ?_
    exact z_iret hx hb hr hlocks hS (z1_1, f1_1, nx1_1, ct1_1) (show ((¬ h.length = 0 ∧ r_1 = iI ((h.length : Int) - 1) ∧ RXH nx1_1 ct1_1 Zh Fh (h.take (h.length - 1)) ∧ ∀ M2 : MS, h[h.length - 1]? = some M2 → RS z1_1 f1_1 M2)) ∨ (r_1 = iI 90001 ∧ (h.length = 0) ∧ z1_1 = z ∧ f1_1 = f ∧ nx1_1 = nx ∧ ct1_1 = ct) from (Or.inl hw_1)) hP dL_undo_4
set_option maxHeartbeats 4000000 in
set_option maxRecDepth 100000 in
theorem c_L_save (l : Launch) (hfl : l.stackTraces = false) (D : va_G) (cy : Nat → ClassId) (ad : Nat → Nat) (z : Nat → Int) (f : Nat → Nat → Int32) (M : MS) (Zs : Nat → Nat → Int) (Fs : Nat → Nat → Nat → Int32) (sv : Nat → Int32) (sl : Nat → Option MS) (x : Int) (hR : RS z f M) (hM : MOk M) (hSl : RXS sv Zs Fs sl) (hx1 : -2147483648 ≤ x ∧ x < 2147483648) : Ni l D cy yL_save wsL_save 8 133 1 [.ref (ad 0), .int (iI x)] (List.flatten [wTop ad, wSt cy ad 1 z f, wSa cy ad, wSt cy ad 63 (Zs 0) (Fs 0), wSt cy ad 70 (Zs 1) (Fs 1), wSv cy ad sv]) (fun (r : Int32) (u : (Nat → Nat → Int) × (Nat → Nat → Nat → Int32) × (Nat → Int32)) => (((x = 0 ∨ x = 1) ∧ r = iI (M.1.length : Int) ∧ RXS u.2.2 u.1 u.2.1 (fun j => if j = x.toNat then some M else sl j))) ∨ (r = iI 90001 ∧ (¬ (x = 0 ∨ x = 1)) ∧ u.1 = Zs ∧ u.2.1 = Fs ∧ u.2.2 = sv)) (fun u : (Nat → Nat → Int) × (Nat → Nat → Nat → Int32) × (Nat → Int32) => (List.flatten [wTop ad, wSt cy ad 1 z f, wSa cy ad, wSt cy ad 63 (u.1 0) (u.2.1 0), wSt cy ad 70 (u.1 1) (u.2.1 1), wSv cy ad u.2.2])) := by
  refine Ni_of (cc := cL_save) (maxL := 3) (ret := (some .int)) (hh := [(0, 5, 6, 28)]) (by decide) rfl rfl ?_
  intro p e s m args below meth c A hx hb hr hts hown hlocks hml htab hP hK hD hT hC hZ hA ls hl
  have hS : va_S A s.heap s.heap [] := va_S.rf
  have hl : lv_has ls 3 [(0, .ref (ad 0)), (1, .int (iI x))] := hl
  have hP : va_P D vwCl (List.flatten [wTop ad, wSt cy ad 1 z f, wSa cy ad, wSt cy ad 63 (Zs 0) (Fs 0), wSt cy ad 70 (Zs 1) (Fs 1), wSv cy ad sv]) s.heap := hP
  have hD : va_D A (List.flatten [wTop ad, wSt cy ad 1 z f, wSa cy ad, wSt cy ad 63 (Zs 0) (Fs 0), wSt cy ad 70 (Zs 1) (Fs 1), wSv cy ad sv]) := hD
  refine lv_aload_n hx hb dL_save_0 rfl (lv_at hl 0 rfl) ?_
  refine lv_iload_n hx hb dL_save_1 rfl (lv_at hl 1 rfl) ?_
  refine h_gVi (n := 1) (b := ad 0) (As := [.int (iI x)]) (rest := []) ⟨hx, hb, hml, hown, hts⟩ (c_X4_saveState l hfl D cy ad z f M Zs Fs sv sl x (by first | assumption | omega) (by first | assumption | omega) (by first | assumption | omega) (by first | assumption | omega)) gL_save_X4_saveState rfl (by decide +kernel) ⟨Nat.le_of_ble_eq_true rfl, Nat.le_of_ble_eq_true rfl⟩ hK hT hC hZ hP hS (Fp.blocks hP hD hS hA (cs := [wTop ad, wSt cy ad 1 z f, wSa cy ad, wSt cy ad 63 (Zs 0) (Fs 0), wSt cy ad 70 (Zs 1) (Fs 1), wSv cy ad sv]) (nb := fun (u : (Nat → Nat → Int) × (Nat → Nat → Nat → Int32) × (Nat → Int32)) => [wTop ad, wSt cy ad 1 z f, wSa cy ad, wSt cy ad 63 (u.1 0) (u.2.1 0), wSt cy ad 70 (u.1 1) (u.2.1 1), wSv cy ad u.2.2]) (nbs := fun (u : (Nat → Nat → Int) × (Nat → Nat → Nat → Int32) × (Nat → Int32)) => [wTop ad, wSt cy ad 1 z f, wSa cy ad, wSt cy ad 63 (u.1 0) (u.2.1 0), wSt cy ad 70 (u.1 1) (u.2.1 1), wSv cy ad u.2.2]) [0, 1, 2, 3, 4, 5] rfl rfl rfl (fun _ => rfl) (fun _ => rfl) (fun _ => rfl)) (Fp.same hP hD hS hA [0, 1, 2, 3, 4, 5, 6, 7, 8, 9, 10, 11, 12, 13, 14, 15, 16, 17, 18, 19, 20, 21, 22, 23] rfl rfl (fun _ => rfl)) 0 4 rfl rfl rfl rfl hl.1 rfl (Nat.le_of_ble_eq_true rfl) dL_save_2 ⟨by decide, by decide⟩ (fun E ce q9 H locs hpx hP hD hS hce hcv hcl => ?_) (fun r_1 u_1 H locs hw_1 hP hD hS => ?_)
  · --
    rcases hpx with ⟨rfl, hcond⟩
    · --
      refine vx_catch (name := "java/lang/IndexOutOfBoundsException") hown [] _ _ (htab.trans rfl) (by intro z hz; cases hz) (by decide) (by decide) (hts (.classLink RL 28 "java/lang/IndexOutOfBoundsException") (by decide +kernel)) (va_Nw.use rfl (hC.1 xIOB (List.mem_of_getElem? (i := 2) rfl))) hce hcv hcl ?_
      refine W.eq (g2 := F0 m 6 ls [.ref q9]) rfl ?_
      have hP : va_P D vwCl (List.flatten [wTop ad, wSt cy ad 1 z f, wSa cy ad, wSt cy ad 63 (Zs 0) (Fs 0), wSt cy ad 70 (Zs 1) (Fs 1), wSv cy ad sv]) H := hP
      have hD : va_D A (List.flatten [wTop ad, wSt cy ad 1 z f, wSa cy ad, wSt cy ad 63 (Zs 0) (Fs 0), wSt cy ad 70 (Zs 1) (Fs 1), wSv cy ad sv]) := hD
      refine lv_astore_n (lv' := [(2, .ref q9), (0, .ref (ad 0)), (1, .int (iI x))]) hx hb dL_save_6 rfl hl (by decide) rfl (fun ls hl => ?_)
      refine lv_ldc (own := RL) (index := 17) (v := 90001) hx hb hown (hts (.constant RL 17 (90001)) (by decide +kernel)) dL_save_7 ?_
      refine z_top (show (90001 : Int32) = iI 90001 from by decide +kernel) ?_
      refine W.widen (k := 1) (n := 6 * 1) (by decide) (by decide) ?_
      exact z_iret hx hb hr hlocks hS (Zs, Fs, sv) (show (((x = 0 ∨ x = 1) ∧ (iI 90001) = iI (M.1.length : Int) ∧ RXS sv Zs Fs (fun j => if j = x.toNat then some M else sl j))) ∨ ((iI 90001) = iI 90001 ∧ (¬ (x = 0 ∨ x = 1)) ∧ Zs = Zs ∧ Fs = Fs ∧ sv = sv) from (Or.inr ⟨rfl, hcond, rfl, rfl, rfl⟩)) hP dL_save_9
  · --
    obtain ⟨Zs1_1, Fs1_1, sv1_1⟩ := u_1
    have hw_1 : (x = 0 ∨ x = 1) ∧ r_1 = iI (M.1.length : Int) ∧ RXS sv1_1 Zs1_1 Fs1_1 (fun j => if j = x.toNat then some M else sl j) := hw_1
    have hP : va_P D vwCl (List.flatten [wTop ad, wSt cy ad 1 z f, wSa cy ad, wSt cy ad 63 (Zs1_1 0) (Fs1_1 0), wSt cy ad 70 (Zs1_1 1) (Fs1_1 1), wSv cy ad sv1_1]) H := hP
    have hD : va_D A (List.flatten [wTop ad, wSt cy ad 1 z f, wSa cy ad, wSt cy ad 63 (Zs1_1 0) (Fs1_1 0), wSt cy ad 70 (Zs1_1 1) (Fs1_1 1), wSv cy ad sv1_1]) := hD
    refine W.widen (k := 1) (n := 6 * 1) (by decide) (by decide) ?_
    exact z_iret hx hb hr hlocks hS (Zs1_1, Fs1_1, sv1_1) (show (((x = 0 ∨ x = 1) ∧ r_1 = iI (M.1.length : Int) ∧ RXS sv1_1 Zs1_1 Fs1_1 (fun j => if j = x.toNat then some M else sl j))) ∨ (r_1 = iI 90001 ∧ (¬ (x = 0 ∨ x = 1)) ∧ Zs1_1 = Zs ∧ Fs1_1 = Fs ∧ sv1_1 = sv) from (Or.inl hw_1)) hP dL_save_5
set_option maxHeartbeats 4000000 in
set_option maxRecDepth 100000 in
theorem c_L_load (l : Launch) (hfl : l.stackTraces = false) (D : va_G) (cy : Nat → ClassId) (ad : Nat → Nat) (z : Nat → Int) (f : Nat → Nat → Int32) (M : MS) (nx : Int) (ct : Int) (Zh : Nat → Nat → Int) (Fh : Nat → Nat → Nat → Int32) (h : List MS) (Zs : Nat → Nat → Int) (Fs : Nat → Nat → Nat → Int32) (sv : Nat → Int32) (sl : Nat → Option MS) (x : Int) (hR : RS z f M) (hM : MOk M) (hH : RXH nx ct Zh Fh h) (hSl : RXS sv Zs Fs sl) (hx1 : -2147483648 ≤ x ∧ x < 2147483648) : Ni l D cy yL_load wsL_load 8 133 2 [.ref (ad 0), .int (iI x)] (List.flatten [wTop ad, wSt cy ad 1 z f, wHb ad ct, wKb cy ad nx, wSt cy ad 20 (Zh 0) (Fh 0), wSt cy ad 27 (Zh 1) (Fh 1), wSt cy ad 34 (Zh 2) (Fh 2), wSt cy ad 41 (Zh 3) (Fh 3), wSt cy ad 48 (Zh 4) (Fh 4), wSt cy ad 55 (Zh 5) (Fh 5), wSa cy ad, wSt cy ad 63 (Zs 0) (Fs 0), wSt cy ad 70 (Zs 1) (Fs 1), wSv cy ad sv]) (fun (r : Int32) (u : (Nat → Int) × (Nat → Nat → Int32) × Int × Int × (Nat → Nat → Int) × (Nat → Nat → Nat → Int32)) => (((x = 0 ∨ x = 1) ∧ (∃ M2 : MS, sl x.toNat = some M2 ∧ r = iI (M2.1.length : Int) ∧ RS u.1 u.2.1 M2) ∧ RXH u.2.2.1 u.2.2.2.1 u.2.2.2.2.1 u.2.2.2.2.2 (pushH h M))) ∨ (r = iI 90001 ∧ (¬ (x = 0 ∨ x = 1)) ∧ u.1 = z ∧ u.2.1 = f ∧ u.2.2.1 = nx ∧ u.2.2.2.1 = ct ∧ u.2.2.2.2.1 = Zh ∧ u.2.2.2.2.2 = Fh) ∨ (r = iI 90002 ∧ ((x = 0 ∨ x = 1) ∧ sl x.toNat = none) ∧ u.1 = z ∧ u.2.1 = f ∧ u.2.2.1 = nx ∧ u.2.2.2.1 = ct ∧ u.2.2.2.2.1 = Zh ∧ u.2.2.2.2.2 = Fh)) (fun u : (Nat → Int) × (Nat → Nat → Int32) × Int × Int × (Nat → Nat → Int) × (Nat → Nat → Nat → Int32) => (List.flatten [wTop ad, wSt cy ad 1 u.1 u.2.1, wHb ad u.2.2.2.1, wKb cy ad u.2.2.1, wSt cy ad 20 (u.2.2.2.2.1 0) (u.2.2.2.2.2 0), wSt cy ad 27 (u.2.2.2.2.1 1) (u.2.2.2.2.2 1), wSt cy ad 34 (u.2.2.2.2.1 2) (u.2.2.2.2.2 2), wSt cy ad 41 (u.2.2.2.2.1 3) (u.2.2.2.2.2 3), wSt cy ad 48 (u.2.2.2.2.1 4) (u.2.2.2.2.2 4), wSt cy ad 55 (u.2.2.2.2.1 5) (u.2.2.2.2.2 5), wSa cy ad, wSt cy ad 63 (Zs 0) (Fs 0), wSt cy ad 70 (Zs 1) (Fs 1), wSv cy ad sv])) := by
  refine Ni_of (cc := cL_load) (maxL := 3) (ret := (some .int)) (hh := [(0, 5, 6, 28), (0, 5, 10, 15)]) (by decide) rfl rfl ?_
  intro p e s m args below meth c A hx hb hr hts hown hlocks hml htab hP hK hD hT hC hZ hA ls hl
  have hS : va_S A s.heap s.heap [] := va_S.rf
  have hl : lv_has ls 3 [(0, .ref (ad 0)), (1, .int (iI x))] := hl
  have hP : va_P D vwCl (List.flatten [wTop ad, wSt cy ad 1 z f, wHb ad ct, wKb cy ad nx, wSt cy ad 20 (Zh 0) (Fh 0), wSt cy ad 27 (Zh 1) (Fh 1), wSt cy ad 34 (Zh 2) (Fh 2), wSt cy ad 41 (Zh 3) (Fh 3), wSt cy ad 48 (Zh 4) (Fh 4), wSt cy ad 55 (Zh 5) (Fh 5), wSa cy ad, wSt cy ad 63 (Zs 0) (Fs 0), wSt cy ad 70 (Zs 1) (Fs 1), wSv cy ad sv]) s.heap := hP
  have hD : va_D A (List.flatten [wTop ad, wSt cy ad 1 z f, wHb ad ct, wKb cy ad nx, wSt cy ad 20 (Zh 0) (Fh 0), wSt cy ad 27 (Zh 1) (Fh 1), wSt cy ad 34 (Zh 2) (Fh 2), wSt cy ad 41 (Zh 3) (Fh 3), wSt cy ad 48 (Zh 4) (Fh 4), wSt cy ad 55 (Zh 5) (Fh 5), wSa cy ad, wSt cy ad 63 (Zs 0) (Fs 0), wSt cy ad 70 (Zs 1) (Fs 1), wSv cy ad sv]) := hD
  refine lv_aload_n hx hb dL_load_0 rfl (lv_at hl 0 rfl) ?_
  refine lv_iload_n hx hb dL_load_1 rfl (lv_at hl 1 rfl) ?_
  refine h_gVi (n := 1) (b := ad 0) (As := [.int (iI x)]) (rest := []) ⟨hx, hb, hml, hown, hts⟩ (c_X4_loadState l hfl D cy ad z f M nx ct Zh Fh h Zs Fs sv sl x (by first | assumption | omega) (by first | assumption | omega) (by first | assumption | omega) (by first | assumption | omega) (by first | assumption | omega)) gL_load_X4_loadState rfl (by decide +kernel) ⟨Nat.le_of_ble_eq_true rfl, Nat.le_of_ble_eq_true rfl⟩ hK hT hC hZ hP hS (Fp.blocks hP hD hS hA (cs := [wTop ad, wSt cy ad 1 z f, wHb ad ct, wKb cy ad nx, wSt cy ad 20 (Zh 0) (Fh 0), wSt cy ad 27 (Zh 1) (Fh 1), wSt cy ad 34 (Zh 2) (Fh 2), wSt cy ad 41 (Zh 3) (Fh 3), wSt cy ad 48 (Zh 4) (Fh 4), wSt cy ad 55 (Zh 5) (Fh 5), wSa cy ad, wSt cy ad 63 (Zs 0) (Fs 0), wSt cy ad 70 (Zs 1) (Fs 1), wSv cy ad sv]) (nb := fun (u : (Nat → Int) × (Nat → Nat → Int32) × Int × Int × (Nat → Nat → Int) × (Nat → Nat → Nat → Int32)) => [wTop ad, wSt cy ad 1 u.1 u.2.1, wHb ad u.2.2.2.1, wKb cy ad u.2.2.1, wSt cy ad 20 (u.2.2.2.2.1 0) (u.2.2.2.2.2 0), wSt cy ad 27 (u.2.2.2.2.1 1) (u.2.2.2.2.2 1), wSt cy ad 34 (u.2.2.2.2.1 2) (u.2.2.2.2.2 2), wSt cy ad 41 (u.2.2.2.2.1 3) (u.2.2.2.2.2 3), wSt cy ad 48 (u.2.2.2.2.1 4) (u.2.2.2.2.2 4), wSt cy ad 55 (u.2.2.2.2.1 5) (u.2.2.2.2.2 5), wSa cy ad, wSt cy ad 63 (Zs 0) (Fs 0), wSt cy ad 70 (Zs 1) (Fs 1), wSv cy ad sv]) (nbs := fun (u : (Nat → Int) × (Nat → Nat → Int32) × Int × Int × (Nat → Nat → Int) × (Nat → Nat → Nat → Int32)) => [wTop ad, wSt cy ad 1 u.1 u.2.1, wHb ad u.2.2.2.1, wKb cy ad u.2.2.1, wSt cy ad 20 (u.2.2.2.2.1 0) (u.2.2.2.2.2 0), wSt cy ad 27 (u.2.2.2.2.1 1) (u.2.2.2.2.2 1), wSt cy ad 34 (u.2.2.2.2.1 2) (u.2.2.2.2.2 2), wSt cy ad 41 (u.2.2.2.2.1 3) (u.2.2.2.2.2 3), wSt cy ad 48 (u.2.2.2.2.1 4) (u.2.2.2.2.2 4), wSt cy ad 55 (u.2.2.2.2.1 5) (u.2.2.2.2.2 5), wSa cy ad, wSt cy ad 63 (Zs 0) (Fs 0), wSt cy ad 70 (Zs 1) (Fs 1), wSv cy ad sv]) [0, 1, 2, 3, 4, 5, 6, 7, 8, 9, 10, 11, 12, 13] rfl rfl rfl (fun _ => rfl) (fun _ => rfl) (fun _ => rfl)) (Fp.same hP hD hS hA [0, 1, 2, 3, 4, 5, 6, 7, 8, 9, 10, 11, 12, 13, 14, 15, 16, 17, 18, 19, 20, 21, 22, 23, 24, 25, 26, 27, 28, 29, 30, 31, 32, 33, 34, 35, 36, 37, 38, 39, 40, 41, 42, 43, 44, 45, 46, 47, 48, 49, 50, 51, 52, 53, 54, 55, 56, 57, 58, 59, 60, 61, 62, 63, 64, 65, 66, 67] rfl rfl (fun _ => rfl)) 0 4 rfl rfl rfl rfl hl.1 rfl (Nat.le_of_ble_eq_true rfl) dL_load_2 ⟨by decide, by decide⟩ (fun E ce q9 H locs hpx hP hD hS hce hcv hcl => ?_) (fun r_1 u_1 H locs hw_1 hP hD hS => ?_)
  · --
    rcases hpx with ⟨rfl, hcond⟩ | ⟨rfl, hcond⟩
    · --
      refine vx_catch (name := "java/lang/IndexOutOfBoundsException") hown [] _ _ (htab.trans rfl) (by intro z hz; cases hz) (by decide) (by decide) (hts (.classLink RL 28 "java/lang/IndexOutOfBoundsException") (by decide +kernel)) (va_Nw.use rfl (hC.1 xIOB (List.mem_of_getElem? (i := 2) rfl))) hce hcv hcl ?_
      refine W.eq (g2 := F0 m 6 ls [.ref q9]) rfl ?_
      have hP : va_P D vwCl (List.flatten [wTop ad, wSt cy ad 1 z f, wHb ad ct, wKb cy ad nx, wSt cy ad 20 (Zh 0) (Fh 0), wSt cy ad 27 (Zh 1) (Fh 1), wSt cy ad 34 (Zh 2) (Fh 2), wSt cy ad 41 (Zh 3) (Fh 3), wSt cy ad 48 (Zh 4) (Fh 4), wSt cy ad 55 (Zh 5) (Fh 5), wSa cy ad, wSt cy ad 63 (Zs 0) (Fs 0), wSt cy ad 70 (Zs 1) (Fs 1), wSv cy ad sv]) H := hP
      have hD : va_D A (List.flatten [wTop ad, wSt cy ad 1 z f, wHb ad ct, wKb cy ad nx, wSt cy ad 20 (Zh 0) (Fh 0), wSt cy ad 27 (Zh 1) (Fh 1), wSt cy ad 34 (Zh 2) (Fh 2), wSt cy ad 41 (Zh 3) (Fh 3), wSt cy ad 48 (Zh 4) (Fh 4), wSt cy ad 55 (Zh 5) (Fh 5), wSa cy ad, wSt cy ad 63 (Zs 0) (Fs 0), wSt cy ad 70 (Zs 1) (Fs 1), wSv cy ad sv]) := hD
      refine lv_astore_n (lv' := [(2, .ref q9), (0, .ref (ad 0)), (1, .int (iI x))]) hx hb dL_load_6 rfl hl (by decide) rfl (fun ls hl => ?_)
      refine lv_ldc (own := RL) (index := 17) (v := 90001) hx hb hown (hts (.constant RL 17 (90001)) (by decide +kernel)) dL_load_7 ?_
      refine z_top (show (90001 : Int32) = iI 90001 from by decide +kernel) ?_
      refine W.widen (k := 2) (n := 6 * 2) (by decide) (by decide) ?_
      exact z_iret hx hb hr hlocks hS (z, f, nx, ct, Zh, Fh) (show (((x = 0 ∨ x = 1) ∧ (∃ M2 : MS, sl x.toNat = some M2 ∧ (iI 90001) = iI (M2.1.length : Int) ∧ RS z f M2) ∧ RXH nx ct Zh Fh (pushH h M))) ∨ ((iI 90001) = iI 90001 ∧ (¬ (x = 0 ∨ x = 1)) ∧ z = z ∧ f = f ∧ nx = nx ∧ ct = ct ∧ Zh = Zh ∧ Fh = Fh) ∨ ((iI 90001) = iI 90002 ∧ ((x = 0 ∨ x = 1) ∧ sl x.toNat = none) ∧ z = z ∧ f = f ∧ nx = nx ∧ ct = ct ∧ Zh = Zh ∧ Fh = Fh) from (Or.inr (Or.inl ⟨rfl, hcond, rfl, rfl, rfl, rfl, rfl, rfl⟩))) hP dL_load_9
    · --
      refine vx_catch (name := "java/lang/IllegalStateException") hown [_] _ _ (htab.trans rfl) (by
          intro z hz
          rcases List.mem_singleton.mp hz with rfl
          exact Or.inr ⟨by decide, "java/lang/IndexOutOfBoundsException", hts (.classLink RL 28 "java/lang/IndexOutOfBoundsException") (by decide +kernel), hC.2.2.1⟩) (by decide) (by decide) (hts (.classLink RL 15 "java/lang/IllegalStateException") (by decide +kernel)) (va_Nw.use rfl (hC.1 xISE (List.mem_of_getElem? (i := 0) rfl))) hce hcv hcl ?_
      refine W.eq (g2 := F0 m 10 ls [.ref q9]) rfl ?_
      have hP : va_P D vwCl (List.flatten [wTop ad, wSt cy ad 1 z f, wHb ad ct, wKb cy ad nx, wSt cy ad 20 (Zh 0) (Fh 0), wSt cy ad 27 (Zh 1) (Fh 1), wSt cy ad 34 (Zh 2) (Fh 2), wSt cy ad 41 (Zh 3) (Fh 3), wSt cy ad 48 (Zh 4) (Fh 4), wSt cy ad 55 (Zh 5) (Fh 5), wSa cy ad, wSt cy ad 63 (Zs 0) (Fs 0), wSt cy ad 70 (Zs 1) (Fs 1), wSv cy ad sv]) H := hP
      have hD : va_D A (List.flatten [wTop ad, wSt cy ad 1 z f, wHb ad ct, wKb cy ad nx, wSt cy ad 20 (Zh 0) (Fh 0), wSt cy ad 27 (Zh 1) (Fh 1), wSt cy ad 34 (Zh 2) (Fh 2), wSt cy ad 41 (Zh 3) (Fh 3), wSt cy ad 48 (Zh 4) (Fh 4), wSt cy ad 55 (Zh 5) (Fh 5), wSa cy ad, wSt cy ad 63 (Zs 0) (Fs 0), wSt cy ad 70 (Zs 1) (Fs 1), wSv cy ad sv]) := hD
      refine lv_astore_n (lv' := [(2, .ref q9), (0, .ref (ad 0)), (1, .int (iI x))]) hx hb dL_load_10 rfl hl (by decide) rfl (fun ls hl => ?_)
      refine lv_ldc (own := RL) (index := 32) (v := 90002) hx hb hown (hts (.constant RL 32 (90002)) (by decide +kernel)) dL_load_11 ?_
      refine z_top (show (90002 : Int32) = iI 90002 from by decide +kernel) ?_
      refine W.widen (k := 2) (n := 6 * 2) (by decide) (by decide) ?_
      exact z_iret hx hb hr hlocks hS (z, f, nx, ct, Zh, Fh) (show (((x = 0 ∨ x = 1) ∧ (∃ M2 : MS, sl x.toNat = some M2 ∧ (iI 90002) = iI (M2.1.length : Int) ∧ RS z f M2) ∧ RXH nx ct Zh Fh (pushH h M))) ∨ ((iI 90002) = iI 90001 ∧ (¬ (x = 0 ∨ x = 1)) ∧ z = z ∧ f = f ∧ nx = nx ∧ ct = ct ∧ Zh = Zh ∧ Fh = Fh) ∨ ((iI 90002) = iI 90002 ∧ ((x = 0 ∨ x = 1) ∧ sl x.toNat = none) ∧ z = z ∧ f = f ∧ nx = nx ∧ ct = ct ∧ Zh = Zh ∧ Fh = Fh) from (Or.inr (Or.inr ⟨rfl, hcond, rfl, rfl, rfl, rfl, rfl, rfl⟩))) hP dL_load_13
  · --
    obtain ⟨z1_1, f1_1, nx1_1, ct1_1, Zh1_1, Fh1_1⟩ := u_1
    have hw_1 : (x = 0 ∨ x = 1) ∧ (∃ M2 : MS, sl x.toNat = some M2 ∧ r_1 = iI (M2.1.length : Int) ∧ RS z1_1 f1_1 M2) ∧ RXH nx1_1 ct1_1 Zh1_1 Fh1_1 (pushH h M) := hw_1
    have hP : va_P D vwCl (List.flatten [wTop ad, wSt cy ad 1 z1_1 f1_1, wHb ad ct1_1, wKb cy ad nx1_1, wSt cy ad 20 (Zh1_1 0) (Fh1_1 0), wSt cy ad 27 (Zh1_1 1) (Fh1_1 1), wSt cy ad 34 (Zh1_1 2) (Fh1_1 2), wSt cy ad 41 (Zh1_1 3) (Fh1_1 3), wSt cy ad 48 (Zh1_1 4) (Fh1_1 4), wSt cy ad 55 (Zh1_1 5) (Fh1_1 5), wSa cy ad, wSt cy ad 63 (Zs 0) (Fs 0), wSt cy ad 70 (Zs 1) (Fs 1), wSv cy ad sv]) H := hP
    have hD : va_D A (List.flatten [wTop ad, wSt cy ad 1 z1_1 f1_1, wHb ad ct1_1, wKb cy ad nx1_1, wSt cy ad 20 (Zh1_1 0) (Fh1_1 0), wSt cy ad 27 (Zh1_1 1) (Fh1_1 1), wSt cy ad 34 (Zh1_1 2) (Fh1_1 2), wSt cy ad 41 (Zh1_1 3) (Fh1_1 3), wSt cy ad 48 (Zh1_1 4) (Fh1_1 4), wSt cy ad 55 (Zh1_1 5) (Fh1_1 5), wSa cy ad, wSt cy ad 63 (Zs 0) (Fs 0), wSt cy ad 70 (Zs 1) (Fs 1), wSv cy ad sv]) := hD
    refine W.widen (k := 2) (n := 6 * 2) (by decide) (by decide) ?_
    exact z_iret hx hb hr hlocks hS (z1_1, f1_1, nx1_1, ct1_1, Zh1_1, Fh1_1) (show (((x = 0 ∨ x = 1) ∧ (∃ M2 : MS, sl x.toNat = some M2 ∧ r_1 = iI (M2.1.length : Int) ∧ RS z1_1 f1_1 M2) ∧ RXH nx1_1 ct1_1 Zh1_1 Fh1_1 (pushH h M))) ∨ (r_1 = iI 90001 ∧ (¬ (x = 0 ∨ x = 1)) ∧ z1_1 = z ∧ f1_1 = f ∧ nx1_1 = nx ∧ ct1_1 = ct ∧ Zh1_1 = Zh ∧ Fh1_1 = Fh) ∨ (r_1 = iI 90002 ∧ ((x = 0 ∨ x = 1) ∧ sl x.toNat = none) ∧ z1_1 = z ∧ f1_1 = f ∧ nx1_1 = nx ∧ ct1_1 = ct ∧ Zh1_1 = Zh ∧ Fh1_1 = Fh) from (Or.inl hw_1)) hP dL_load_5

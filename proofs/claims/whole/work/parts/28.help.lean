theorem dL_takeLine_0 : decode cL_takeLine 0 = .ok (.aload_n 1, 1) := by decide +kernel
theorem dL_takeLine_1 : decode cL_takeLine 1 = .ok (.iconst 0, 1) := by decide +kernel
theorem dL_takeLine_2 : decode cL_takeLine 2 = .ok (.aload_n 0, 1) := by decide +kernel
theorem dL_takeLine_3 : decode cL_takeLine 3 = .ok (.invokevirtual 7, 3) := by decide +kernel
theorem dL_takeLine_6 : decode cL_takeLine 6 = .ok (.i2l, 1) := by decide +kernel
theorem dL_takeLine_7 : decode cL_takeLine 7 = .ok (.lastore, 1) := by decide +kernel
theorem dL_takeLine_8 : decode cL_takeLine 8 = .ok (.goto 6, 3) := by decide +kernel
theorem dL_takeLine_11 : decode cL_takeLine 11 = .ok (.astore_n 2, 1) := by decide +kernel
theorem dL_takeLine_12 : decode cL_takeLine 12 = .ok (.iconst 1, 1) := by decide +kernel
theorem dL_takeLine_13 : decode cL_takeLine 13 = .ok (.ireturn, 1) := by decide +kernel
theorem dL_takeLine_14 : decode cL_takeLine 14 = .ok (.iconst 0, 1) := by decide +kernel
theorem dL_takeLine_15 : decode cL_takeLine 15 = .ok (.ireturn, 1) := by decide +kernel
set_option maxRecDepth 20000 in
theorem ggL_takeLine_X4_takeLine : GoodIn wsL_takeLine wsX4_takeLine := goodIn_ca (goodIn_r _ [6, 7, 8, 9, 10, 11, 5, 12, 13, 14, 15, 16, 17, 18, 19, 20, 21, 22, 23, 24, 25, 26, 27, 28, 29, 30, 31, 32, 33, 34, 35, 36, 37, 38, 39, 40, 41, 42, 43, 44, 45, 46, 47, 48, 49, 50, 51, 52, 53, 54, 55, 56, 57, 58, 59, 60, 61, 62, 63, 64, 65, 66, 67, 68, 69, 70, 71, 72, 73, 74, 75, 76, 77, 78, 79, 80, 81, 82, 83, 84, 85, 86, 87, 88, 89, 90, 91, 92, 93, 94, 95, 96, 97, 98, 99, 100] (by decide +kernel) (by decide +kernel)) (goodIn_sub (fun _ h => List.mem_cons_of_mem _ (List.mem_append_right _ h)) (by decide +kernel))
set_option maxRecDepth 20000 in
theorem gL_takeLine_X4_takeLine : GoodIn wsL_takeLine (wsV RL 7 RX4 yX4_takeLine wsX4_takeLine) := goodIn_app (goodIn_of _ (by decide +kernel)) ggL_takeLine_X4_takeLine
theorem dL_takeWord_0 : decode cL_takeWord 0 = .ok (.aload_n 1, 1) := by decide +kernel
theorem dL_takeWord_1 : decode cL_takeWord 1 = .ok (.iconst 0, 1) := by decide +kernel
theorem dL_takeWord_2 : decode cL_takeWord 2 = .ok (.aload_n 0, 1) := by decide +kernel
theorem dL_takeWord_3 : decode cL_takeWord 3 = .ok (.invokevirtual 15, 3) := by decide +kernel
theorem dL_takeWord_6 : decode cL_takeWord 6 = .ok (.i2l, 1) := by decide +kernel
theorem dL_takeWord_7 : decode cL_takeWord 7 = .ok (.lastore, 1) := by decide +kernel
theorem dL_takeWord_8 : decode cL_takeWord 8 = .ok (.goto 6, 3) := by decide +kernel
theorem dL_takeWord_11 : decode cL_takeWord 11 = .ok (.astore_n 2, 1) := by decide +kernel
theorem dL_takeWord_12 : decode cL_takeWord 12 = .ok (.iconst 1, 1) := by decide +kernel
theorem dL_takeWord_13 : decode cL_takeWord 13 = .ok (.ireturn, 1) := by decide +kernel
theorem dL_takeWord_14 : decode cL_takeWord 14 = .ok (.iconst 0, 1) := by decide +kernel
theorem dL_takeWord_15 : decode cL_takeWord 15 = .ok (.ireturn, 1) := by decide +kernel
set_option maxRecDepth 20000 in
theorem ggL_takeWord_X4_takeWord : GoodIn wsL_takeWord wsX4_takeWord := goodIn_ca (goodIn_r _ [6, 7, 8, 9, 10, 11, 5, 12, 13, 14, 15, 16, 17, 18, 19, 20, 21, 22, 23, 24, 25, 26, 27, 28, 29, 30, 31, 32, 33, 34, 35, 36, 37, 38, 39, 40, 41, 42, 43, 44, 45, 46, 47, 48, 49, 50, 51, 52, 53, 54, 55, 56, 57, 58, 59, 60, 61, 62, 63, 64, 65, 66, 67, 68, 69, 70, 71, 72, 73, 74, 75, 76, 77, 78, 79, 80, 81, 82, 83, 84, 85, 86, 87, 88, 89, 90, 91, 92, 93, 94, 95, 96, 97, 98, 99, 100] (by decide +kernel) (by decide +kernel)) (goodIn_sub (fun _ h => List.mem_cons_of_mem _ (List.mem_append_right _ h)) (by decide +kernel))
set_option maxRecDepth 20000 in
theorem gL_takeWord_X4_takeWord : GoodIn wsL_takeWord (wsV RL 15 RX4 yX4_takeWord wsX4_takeWord) := goodIn_app (goodIn_of _ (by decide +kernel)) ggL_takeWord_X4_takeWord
theorem dL_look_0 : decode cL_look 0 = .ok (.aload_n 1, 1) := by decide +kernel
theorem dL_look_1 : decode cL_look 1 = .ok (.iconst 0, 1) := by decide +kernel
theorem dL_look_2 : decode cL_look 2 = .ok (.aload_n 0, 1) := by decide +kernel
theorem dL_look_3 : decode cL_look 3 = .ok (.invokevirtual 18, 3) := by decide +kernel
theorem dL_look_6 : decode cL_look 6 = .ok (.i2l, 1) := by decide +kernel
theorem dL_look_7 : decode cL_look 7 = .ok (.lastore, 1) := by decide +kernel
theorem dL_look_8 : decode cL_look 8 = .ok (.goto 6, 3) := by decide +kernel
theorem dL_look_11 : decode cL_look 11 = .ok (.astore_n 2, 1) := by decide +kernel
theorem dL_look_12 : decode cL_look 12 = .ok (.iconst 1, 1) := by decide +kernel
theorem dL_look_13 : decode cL_look 13 = .ok (.ireturn, 1) := by decide +kernel
theorem dL_look_14 : decode cL_look 14 = .ok (.iconst 0, 1) := by decide +kernel
theorem dL_look_15 : decode cL_look 15 = .ok (.ireturn, 1) := by decide +kernel
set_option maxRecDepth 20000 in
theorem ggL_look_X4_look : GoodIn wsL_look wsX4_look := goodIn_ca (goodIn_r _ [6, 7, 8, 9, 10, 11, 12, 13, 14, 15, 16, 17, 18, 19, 20, 21, 22, 23, 24, 25, 26, 27, 28, 29, 30, 31, 32, 33, 34, 35, 36, 37, 38, 39, 40, 41, 42, 43, 44, 45, 46, 47, 48, 49, 50, 51, 52, 53, 54, 55, 56, 57, 58, 59, 60, 61, 62, 63, 64, 65, 66, 67, 68, 69, 70, 71, 72, 73, 74, 75, 76, 77, 78, 79, 80, 81, 82, 83, 84, 85, 86, 87, 88, 89, 90, 91, 92, 93, 94, 95, 96, 97, 98, 99, 100, 101, 102, 103, 104, 105, 106, 107, 108, 109, 110, 111, 112, 113, 114, 115, 116, 117, 118, 119, 120, 121, 122, 123, 124, 125, 126, 127, 128, 129, 130, 131, 132, 133, 134, 135, 136, 137, 138, 139, 140, 141, 142, 143, 144, 145, 146, 147, 148, 149, 150, 151] (by decide +kernel) (by decide +kernel)) (goodIn_sub (fun _ h => List.mem_cons_of_mem _ (List.mem_append_right _ h)) (by decide +kernel))
set_option maxRecDepth 20000 in
theorem gL_look_X4_look : GoodIn wsL_look (wsV RL 18 RX4 yX4_look wsX4_look) := goodIn_app (goodIn_of _ (by decide +kernel)) ggL_look_X4_look
theorem dL_setLetter_0 : decode cL_setLetter 0 = .ok (.aload_n 3, 1) := by decide +kernel
theorem dL_setLetter_1 : decode cL_setLetter 1 = .ok (.iconst 0, 1) := by decide +kernel
theorem dL_setLetter_2 : decode cL_setLetter 2 = .ok (.aload_n 0, 1) := by decide +kernel
theorem dL_setLetter_3 : decode cL_setLetter 3 = .ok (.iload_n 1, 1) := by decide +kernel
theorem dL_setLetter_4 : decode cL_setLetter 4 = .ok (.iload_n 2, 1) := by decide +kernel
theorem dL_setLetter_5 : decode cL_setLetter 5 = .ok (.invokevirtual 21, 3) := by decide +kernel
theorem dL_setLetter_8 : decode cL_setLetter 8 = .ok (.i2l, 1) := by decide +kernel
theorem dL_setLetter_9 : decode cL_setLetter 9 = .ok (.lastore, 1) := by decide +kernel
theorem dL_setLetter_10 : decode cL_setLetter 10 = .ok (.goto 11, 3) := by decide +kernel
theorem dL_setLetter_13 : decode cL_setLetter 13 = .ok (.astore 4, 2) := by decide +kernel
theorem dL_setLetter_15 : decode cL_setLetter 15 = .ok (.iconst 1, 1) := by decide +kernel
theorem dL_setLetter_16 : decode cL_setLetter 16 = .ok (.ireturn, 1) := by decide +kernel
theorem dL_setLetter_17 : decode cL_setLetter 17 = .ok (.astore 4, 2) := by decide +kernel
theorem dL_setLetter_19 : decode cL_setLetter 19 = .ok (.iconst 2, 1) := by decide +kernel
theorem dL_setLetter_20 : decode cL_setLetter 20 = .ok (.ireturn, 1) := by decide +kernel
theorem dL_setLetter_21 : decode cL_setLetter 21 = .ok (.iconst 0, 1) := by decide +kernel
theorem dL_setLetter_22 : decode cL_setLetter 22 = .ok (.ireturn, 1) := by decide +kernel
set_option maxRecDepth 20000 in
theorem ggL_setLetter_X4_setLetter : GoodIn wsL_setLetter wsX4_setLetter := goodIn_ca (goodIn_ca (goodIn_r _ [7, 8, 9, 10, 11, 6, 12, 13, 14, 15, 16, 17, 18, 19, 20, 21, 22, 23, 24, 25, 26, 27, 28, 29, 30, 31, 32, 33, 34, 35, 36, 37, 38, 39, 40, 41, 42, 43, 44, 45, 46, 47, 48, 49, 50, 51, 52, 53, 54, 55, 56, 57, 58, 59, 60, 61, 62, 63, 64, 65, 66, 67, 68, 69, 70, 71, 72, 73, 74, 75, 76, 77, 78, 79, 80, 81, 82, 83, 84, 85, 86, 87, 88, 89, 90, 91, 92, 93, 94, 95] (by decide +kernel) (by decide +kernel)) (goodIn_sub (fun _ h => List.mem_cons_of_mem _ (List.mem_append_left _ (List.mem_append_right _ h))) (by decide +kernel))) (goodIn_sub (fun _ h => List.mem_cons_of_mem _ (List.mem_append_right _ h)) (by decide +kernel))
set_option maxRecDepth 20000 in
theorem gL_setLetter_X4_setLetter : GoodIn wsL_setLetter (wsV RL 21 RX4 yX4_setLetter wsX4_setLetter) := goodIn_app (goodIn_of _ (by decide +kernel)) ggL_setLetter_X4_setLetter
theorem dL_lineLetter_0 : decode cL_lineLetter 0 = .ok (.aload_n 2, 1) := by decide +kernel
theorem dL_lineLetter_1 : decode cL_lineLetter 1 = .ok (.iconst 0, 1) := by decide +kernel
theorem dL_lineLetter_2 : decode cL_lineLetter 2 = .ok (.aload_n 0, 1) := by decide +kernel
theorem dL_lineLetter_3 : decode cL_lineLetter 3 = .ok (.iload_n 1, 1) := by decide +kernel
theorem dL_lineLetter_4 : decode cL_lineLetter 4 = .ok (.invokevirtual 29, 3) := by decide +kernel
theorem dL_lineLetter_7 : decode cL_lineLetter 7 = .ok (.i2l, 1) := by decide +kernel
theorem dL_lineLetter_8 : decode cL_lineLetter 8 = .ok (.lastore, 1) := by decide +kernel
theorem dL_lineLetter_9 : decode cL_lineLetter 9 = .ok (.goto 6, 3) := by decide +kernel
theorem dL_lineLetter_12 : decode cL_lineLetter 12 = .ok (.astore_n 3, 1) := by decide +kernel
theorem dL_lineLetter_13 : decode cL_lineLetter 13 = .ok (.iconst 1, 1) := by decide +kernel
theorem dL_lineLetter_14 : decode cL_lineLetter 14 = .ok (.ireturn, 1) := by decide +kernel
theorem dL_lineLetter_15 : decode cL_lineLetter 15 = .ok (.iconst 0, 1) := by decide +kernel
theorem dL_lineLetter_16 : decode cL_lineLetter 16 = .ok (.ireturn, 1) := by decide +kernel
set_option maxRecDepth 20000 in
theorem ggL_lineLetter_X4_lineLetter : GoodIn wsL_lineLetter wsX4_lineLetter := goodIn_ca (goodIn_r _ [6, 7, 8, 9, 5, 10, 11, 12, 13, 14, 15, 16, 17, 18, 19, 20, 21, 22, 23, 24, 25, 26, 27, 28, 29, 30, 31, 32, 33, 34, 35, 36, 37, 38, 39, 40, 41] (by decide +kernel) (by decide +kernel)) (goodIn_sub (fun _ h => List.mem_cons_of_mem _ (List.mem_append_right _ h)) (by decide +kernel))
set_option maxRecDepth 20000 in
theorem gL_lineLetter_X4_lineLetter : GoodIn wsL_lineLetter (wsV RL 29 RX4 yX4_lineLetter wsX4_lineLetter) := goodIn_app (goodIn_of _ (by decide +kernel)) ggL_lineLetter_X4_lineLetter
theorem dL_wordLetter_0 : decode cL_wordLetter 0 = .ok (.aload_n 2, 1) := by decide +kernel
theorem dL_wordLetter_1 : decode cL_wordLetter 1 = .ok (.iconst 0, 1) := by decide +kernel
theorem dL_wordLetter_2 : decode cL_wordLetter 2 = .ok (.aload_n 0, 1) := by decide +kernel
theorem dL_wordLetter_3 : decode cL_wordLetter 3 = .ok (.iload_n 1, 1) := by decide +kernel
theorem dL_wordLetter_4 : decode cL_wordLetter 4 = .ok (.invokevirtual 33, 3) := by decide +kernel
theorem dL_wordLetter_7 : decode cL_wordLetter 7 = .ok (.i2l, 1) := by decide +kernel
theorem dL_wordLetter_8 : decode cL_wordLetter 8 = .ok (.lastore, 1) := by decide +kernel
theorem dL_wordLetter_9 : decode cL_wordLetter 9 = .ok (.goto 6, 3) := by decide +kernel
theorem dL_wordLetter_12 : decode cL_wordLetter 12 = .ok (.astore_n 3, 1) := by decide +kernel
theorem dL_wordLetter_13 : decode cL_wordLetter 13 = .ok (.iconst 1, 1) := by decide +kernel
theorem dL_wordLetter_14 : decode cL_wordLetter 14 = .ok (.ireturn, 1) := by decide +kernel
theorem dL_wordLetter_15 : decode cL_wordLetter 15 = .ok (.iconst 0, 1) := by decide +kernel
theorem dL_wordLetter_16 : decode cL_wordLetter 16 = .ok (.ireturn, 1) := by decide +kernel
set_option maxRecDepth 20000 in
theorem ggL_wordLetter_X4_wordLetter : GoodIn wsL_wordLetter wsX4_wordLetter := goodIn_ca (goodIn_r _ [6, 7, 8, 9, 5, 10, 11, 12, 13, 14, 15, 16, 17, 18, 19, 20, 21, 22, 23, 24, 25, 26, 27, 28, 29, 30, 31, 32, 33, 34, 35, 36, 37, 38, 39, 40, 41] (by decide +kernel) (by decide +kernel)) (goodIn_sub (fun _ h => List.mem_cons_of_mem _ (List.mem_append_right _ h)) (by decide +kernel))
set_option maxRecDepth 20000 in
theorem gL_wordLetter_X4_wordLetter : GoodIn wsL_wordLetter (wsV RL 33 RX4 yX4_wordLetter wsX4_wordLetter) := goodIn_app (goodIn_of _ (by decide +kernel)) ggL_wordLetter_X4_wordLetter
theorem dL_foundPlace_0 : decode cL_foundPlace 0 = .ok (.aload_n 2, 1) := by decide +kernel
theorem dL_foundPlace_1 : decode cL_foundPlace 1 = .ok (.iconst 0, 1) := by decide +kernel
theorem dL_foundPlace_2 : decode cL_foundPlace 2 = .ok (.aload_n 0, 1) := by decide +kernel
theorem dL_foundPlace_3 : decode cL_foundPlace 3 = .ok (.iload_n 1, 1) := by decide +kernel
theorem dL_foundPlace_4 : decode cL_foundPlace 4 = .ok (.invokevirtual 36, 3) := by decide +kernel
theorem dL_foundPlace_7 : decode cL_foundPlace 7 = .ok (.i2l, 1) := by decide +kernel
theorem dL_foundPlace_8 : decode cL_foundPlace 8 = .ok (.lastore, 1) := by decide +kernel
theorem dL_foundPlace_9 : decode cL_foundPlace 9 = .ok (.goto 6, 3) := by decide +kernel
theorem dL_foundPlace_12 : decode cL_foundPlace 12 = .ok (.astore_n 3, 1) := by decide +kernel
theorem dL_foundPlace_13 : decode cL_foundPlace 13 = .ok (.iconst 1, 1) := by decide +kernel
theorem dL_foundPlace_14 : decode cL_foundPlace 14 = .ok (.ireturn, 1) := by decide +kernel
theorem dL_foundPlace_15 : decode cL_foundPlace 15 = .ok (.iconst 0, 1) := by decide +kernel
theorem dL_foundPlace_16 : decode cL_foundPlace 16 = .ok (.ireturn, 1) := by decide +kernel
set_option maxRecDepth 20000 in
theorem ggL_foundPlace_X4_foundPlace : GoodIn wsL_foundPlace wsX4_foundPlace := goodIn_ca (goodIn_r _ [6, 7, 8, 9, 5, 10, 11, 12, 13, 14, 15, 16, 17, 18, 19, 20, 21, 22, 23, 24, 25, 26, 27, 28, 29, 30, 31, 32, 33, 34, 35, 36, 37, 38, 39, 40, 41] (by decide +kernel) (by decide +kernel)) (goodIn_sub (fun _ h => List.mem_cons_of_mem _ (List.mem_append_right _ h)) (by decide +kernel))
set_option maxRecDepth 20000 in
theorem gL_foundPlace_X4_foundPlace : GoodIn wsL_foundPlace (wsV RL 36 RX4 yX4_foundPlace wsX4_foundPlace) := goodIn_app (goodIn_of _ (by decide +kernel)) ggL_foundPlace_X4_foundPlace
theorem dL_lastPlaceOf_0 : decode cL_lastPlaceOf 0 = .ok (.aload_n 2, 1) := by decide +kernel
theorem dL_lastPlaceOf_1 : decode cL_lastPlaceOf 1 = .ok (.iconst 0, 1) := by decide +kernel
theorem dL_lastPlaceOf_2 : decode cL_lastPlaceOf 2 = .ok (.aload_n 0, 1) := by decide +kernel
theorem dL_lastPlaceOf_3 : decode cL_lastPlaceOf 3 = .ok (.iload_n 1, 1) := by decide +kernel
theorem dL_lastPlaceOf_4 : decode cL_lastPlaceOf 4 = .ok (.invokevirtual 39, 3) := by decide +kernel
theorem dL_lastPlaceOf_7 : decode cL_lastPlaceOf 7 = .ok (.i2l, 1) := by decide +kernel
theorem dL_lastPlaceOf_8 : decode cL_lastPlaceOf 8 = .ok (.lastore, 1) := by decide +kernel
theorem dL_lastPlaceOf_9 : decode cL_lastPlaceOf 9 = .ok (.goto 6, 3) := by decide +kernel
theorem dL_lastPlaceOf_12 : decode cL_lastPlaceOf 12 = .ok (.astore_n 3, 1) := by decide +kernel
theorem dL_lastPlaceOf_13 : decode cL_lastPlaceOf 13 = .ok (.iconst 1, 1) := by decide +kernel
theorem dL_lastPlaceOf_14 : decode cL_lastPlaceOf 14 = .ok (.ireturn, 1) := by decide +kernel
theorem dL_lastPlaceOf_15 : decode cL_lastPlaceOf 15 = .ok (.iconst 0, 1) := by decide +kernel
theorem dL_lastPlaceOf_16 : decode cL_lastPlaceOf 16 = .ok (.ireturn, 1) := by decide +kernel
set_option maxRecDepth 20000 in
theorem ggL_lastPlaceOf_X4_lastPlaceOf : GoodIn wsL_lastPlaceOf wsX4_lastPlaceOf := goodIn_ca (goodIn_r _ [6, 7, 8, 9, 5, 10, 11, 12, 13, 14, 15, 16, 17, 18, 19, 20, 21, 22, 23, 24, 25, 26, 27, 28, 29, 30, 31, 32, 33, 34, 35, 36] (by decide +kernel) (by decide +kernel)) (goodIn_sub (fun _ h => List.mem_cons_of_mem _ (List.mem_append_right _ h)) (by decide +kernel))
set_option maxRecDepth 20000 in
theorem gL_lastPlaceOf_X4_lastPlaceOf : GoodIn wsL_lastPlaceOf (wsV RL 39 RX4 yX4_lastPlaceOf wsX4_lastPlaceOf) := goodIn_app (goodIn_of _ (by decide +kernel)) ggL_lastPlaceOf_X4_lastPlaceOf
theorem dL_letterSkip_0 : decode cL_letterSkip 0 = .ok (.aload_n 3, 1) := by decide +kernel
theorem dL_letterSkip_1 : decode cL_letterSkip 1 = .ok (.iconst 0, 1) := by decide +kernel
theorem dL_letterSkip_2 : decode cL_letterSkip 2 = .ok (.aload_n 0, 1) := by decide +kernel
theorem dL_letterSkip_3 : decode cL_letterSkip 3 = .ok (.iload_n 1, 1) := by decide +kernel
theorem dL_letterSkip_4 : decode cL_letterSkip 4 = .ok (.iload_n 2, 1) := by decide +kernel
theorem dL_letterSkip_5 : decode cL_letterSkip 5 = .ok (.invokevirtual 42, 3) := by decide +kernel
theorem dL_letterSkip_8 : decode cL_letterSkip 8 = .ok (.i2l, 1) := by decide +kernel
theorem dL_letterSkip_9 : decode cL_letterSkip 9 = .ok (.lastore, 1) := by decide +kernel
theorem dL_letterSkip_10 : decode cL_letterSkip 10 = .ok (.goto 11, 3) := by decide +kernel
theorem dL_letterSkip_13 : decode cL_letterSkip 13 = .ok (.astore 4, 2) := by decide +kernel
theorem dL_letterSkip_15 : decode cL_letterSkip 15 = .ok (.iconst 1, 1) := by decide +kernel
theorem dL_letterSkip_16 : decode cL_letterSkip 16 = .ok (.ireturn, 1) := by decide +kernel
theorem dL_letterSkip_17 : decode cL_letterSkip 17 = .ok (.astore 4, 2) := by decide +kernel
theorem dL_letterSkip_19 : decode cL_letterSkip 19 = .ok (.iconst 2, 1) := by decide +kernel
theorem dL_letterSkip_20 : decode cL_letterSkip 20 = .ok (.ireturn, 1) := by decide +kernel
theorem dL_letterSkip_21 : decode cL_letterSkip 21 = .ok (.iconst 0, 1) := by decide +kernel
theorem dL_letterSkip_22 : decode cL_letterSkip 22 = .ok (.ireturn, 1) := by decide +kernel
set_option maxRecDepth 20000 in
theorem ggL_letterSkip_X4_letterSkip : GoodIn wsL_letterSkip wsX4_letterSkip := goodIn_ca (goodIn_ca (goodIn_r _ [7, 8, 9, 10, 6, 11, 12, 13, 14, 15, 16, 17, 18, 19, 20, 21, 22, 23, 24, 25, 26, 27, 28, 29, 30, 31, 32, 33, 34, 35, 36, 37, 38, 39, 40, 41, 42, 43, 44, 45, 46, 47, 48, 49, 50, 51, 52] (by decide +kernel) (by decide +kernel)) (goodIn_sub (fun _ h => List.mem_cons_of_mem _ (List.mem_append_left _ (List.mem_append_right _ h))) (by decide +kernel))) (goodIn_sub (fun _ h => List.mem_cons_of_mem _ (List.mem_append_right _ h)) (by decide +kernel))
set_option maxRecDepth 20000 in
theorem gL_letterSkip_X4_letterSkip : GoodIn wsL_letterSkip (wsV RL 42 RX4 yX4_letterSkip wsX4_letterSkip) := goodIn_app (goodIn_of _ (by decide +kernel)) ggL_letterSkip_X4_letterSkip
theorem dL_endSkip_0 : decode cL_endSkip 0 = .ok (.aload_n 2, 1) := by decide +kernel
theorem dL_endSkip_1 : decode cL_endSkip 1 = .ok (.iconst 0, 1) := by decide +kernel
theorem dL_endSkip_2 : decode cL_endSkip 2 = .ok (.aload_n 0, 1) := by decide +kernel
theorem dL_endSkip_3 : decode cL_endSkip 3 = .ok (.iload_n 1, 1) := by decide +kernel
theorem dL_endSkip_4 : decode cL_endSkip 4 = .ok (.invokevirtual 45, 3) := by decide +kernel
theorem dL_endSkip_7 : decode cL_endSkip 7 = .ok (.i2l, 1) := by decide +kernel
theorem dL_endSkip_8 : decode cL_endSkip 8 = .ok (.lastore, 1) := by decide +kernel
theorem dL_endSkip_9 : decode cL_endSkip 9 = .ok (.goto 6, 3) := by decide +kernel
theorem dL_endSkip_12 : decode cL_endSkip 12 = .ok (.astore_n 3, 1) := by decide +kernel
theorem dL_endSkip_13 : decode cL_endSkip 13 = .ok (.iconst 1, 1) := by decide +kernel
theorem dL_endSkip_14 : decode cL_endSkip 14 = .ok (.ireturn, 1) := by decide +kernel
theorem dL_endSkip_15 : decode cL_endSkip 15 = .ok (.iconst 0, 1) := by decide +kernel
theorem dL_endSkip_16 : decode cL_endSkip 16 = .ok (.ireturn, 1) := by decide +kernel
set_option maxRecDepth 20000 in
theorem ggL_endSkip_X4_endSkip : GoodIn wsL_endSkip wsX4_endSkip := goodIn_ca (goodIn_r _ [6, 7, 8, 9, 10, 5, 11, 12, 13, 14, 15, 16, 17, 18, 19, 20, 21, 22, 23, 24, 25, 26, 27, 28, 29, 30, 31, 32, 33, 34, 35, 36, 37, 38, 39, 40, 41, 42, 43, 44, 45, 46, 47, 48, 49, 50, 51, 52, 53, 54, 55, 56, 57, 58, 59, 60, 61, 62, 63, 64, 65, 66, 67, 68, 69, 70, 71, 72, 73, 74, 75, 76, 77] (by decide +kernel) (by decide +kernel)) (goodIn_sub (fun _ h => List.mem_cons_of_mem _ (List.mem_append_right _ h)) (by decide +kernel))
set_option maxRecDepth 20000 in
theorem gL_endSkip_X4_endSkip : GoodIn wsL_endSkip (wsV RL 45 RX4 yX4_endSkip wsX4_endSkip) := goodIn_app (goodIn_of _ (by decide +kernel)) ggL_endSkip_X4_endSkip
theorem dL_endSkipByTrying_0 : decode cL_endSkipByTrying 0 = .ok (.aload_n 2, 1) := by decide +kernel
theorem dL_endSkipByTrying_1 : decode cL_endSkipByTrying 1 = .ok (.iconst 0, 1) := by decide +kernel
theorem dL_endSkipByTrying_2 : decode cL_endSkipByTrying 2 = .ok (.aload_n 0, 1) := by decide +kernel
theorem dL_endSkipByTrying_3 : decode cL_endSkipByTrying 3 = .ok (.iload_n 1, 1) := by decide +kernel
theorem dL_endSkipByTrying_4 : decode cL_endSkipByTrying 4 = .ok (.invokevirtual 48, 3) := by decide +kernel
theorem dL_endSkipByTrying_7 : decode cL_endSkipByTrying 7 = .ok (.i2l, 1) := by decide +kernel
theorem dL_endSkipByTrying_8 : decode cL_endSkipByTrying 8 = .ok (.lastore, 1) := by decide +kernel
theorem dL_endSkipByTrying_9 : decode cL_endSkipByTrying 9 = .ok (.goto 6, 3) := by decide +kernel
theorem dL_endSkipByTrying_12 : decode cL_endSkipByTrying 12 = .ok (.astore_n 3, 1) := by decide +kernel
theorem dL_endSkipByTrying_13 : decode cL_endSkipByTrying 13 = .ok (.iconst 1, 1) := by decide +kernel
theorem dL_endSkipByTrying_14 : decode cL_endSkipByTrying 14 = .ok (.ireturn, 1) := by decide +kernel
theorem dL_endSkipByTrying_15 : decode cL_endSkipByTrying 15 = .ok (.iconst 0, 1) := by decide +kernel
theorem dL_endSkipByTrying_16 : decode cL_endSkipByTrying 16 = .ok (.ireturn, 1) := by decide +kernel
set_option maxRecDepth 20000 in
theorem ggL_endSkipByTrying_X4_endSkipByTrying : GoodIn wsL_endSkipByTrying wsX4_endSkipByTrying := goodIn_ca (goodIn_r _ [6, 7, 8, 9, 5, 10, 11, 12, 13, 14, 15, 16, 17, 18, 19, 20, 21, 22, 23, 24, 25, 26, 27, 28, 29, 30, 31, 32, 33, 34, 35, 36, 37, 38, 39, 40, 41, 42, 43, 44, 45, 46, 47, 48, 49, 50, 51, 52] (by decide +kernel) (by decide +kernel)) (goodIn_sub (fun _ h => List.mem_cons_of_mem _ (List.mem_append_right _ h)) (by decide +kernel))
set_option maxRecDepth 20000 in
theorem gL_endSkipByTrying_X4_endSkipByTrying : GoodIn wsL_endSkipByTrying (wsV RL 48 RX4 yX4_endSkipByTrying wsX4_endSkipByTrying) := goodIn_app (goodIn_of _ (by decide +kernel)) ggL_endSkipByTrying_X4_endSkipByTrying
theorem dL_differenceAt_0 : decode cL_differenceAt 0 = .ok (.aload_n 2, 1) := by decide +kernel
theorem dL_differenceAt_1 : decode cL_differenceAt 1 = .ok (.iconst 0, 1) := by decide +kernel
theorem dL_differenceAt_2 : decode cL_differenceAt 2 = .ok (.aload_n 0, 1) := by decide +kernel
theorem dL_differenceAt_3 : decode cL_differenceAt 3 = .ok (.iload_n 1, 1) := by decide +kernel
theorem dL_differenceAt_4 : decode cL_differenceAt 4 = .ok (.invokevirtual 51, 3) := by decide +kernel
theorem dL_differenceAt_7 : decode cL_differenceAt 7 = .ok (.i2l, 1) := by decide +kernel
theorem dL_differenceAt_8 : decode cL_differenceAt 8 = .ok (.lastore, 1) := by decide +kernel
theorem dL_differenceAt_9 : decode cL_differenceAt 9 = .ok (.goto 9, 3) := by decide +kernel
theorem dL_differenceAt_12 : decode cL_differenceAt 12 = .ok (.astore_n 3, 1) := by decide +kernel
theorem dL_differenceAt_13 : decode cL_differenceAt 13 = .ok (.iconst 1, 1) := by decide +kernel
theorem dL_differenceAt_14 : decode cL_differenceAt 14 = .ok (.ireturn, 1) := by decide +kernel
theorem dL_differenceAt_15 : decode cL_differenceAt 15 = .ok (.astore_n 3, 1) := by decide +kernel
theorem dL_differenceAt_16 : decode cL_differenceAt 16 = .ok (.iconst 2, 1) := by decide +kernel
theorem dL_differenceAt_17 : decode cL_differenceAt 17 = .ok (.ireturn, 1) := by decide +kernel
theorem dL_differenceAt_18 : decode cL_differenceAt 18 = .ok (.iconst 0, 1) := by decide +kernel
theorem dL_differenceAt_19 : decode cL_differenceAt 19 = .ok (.ireturn, 1) := by decide +kernel
set_option maxRecDepth 20000 in
theorem ggL_differenceAt_X4_differenceAt : GoodIn wsL_differenceAt wsX4_differenceAt := goodIn_ca (goodIn_ca (goodIn_r _ [7, 8, 9, 10, 11, 12, 13, 14, 15, 16, 17, 18, 19, 20, 21, 22, 23, 24, 25, 26, 27, 28, 29, 30, 31, 32, 33, 34, 35, 36, 37, 38, 39, 40, 41, 42, 43, 44, 45, 46, 47, 48, 49, 50, 51, 52, 53, 54, 55, 56, 57, 58, 59, 60, 61, 62, 63] (by decide +kernel) (by decide +kernel)) (goodIn_sub (fun _ h => List.mem_cons_of_mem _ (List.mem_append_left _ (List.mem_append_right _ h))) (by decide +kernel))) (goodIn_sub (fun _ h => List.mem_cons_of_mem _ (List.mem_append_right _ h)) (by decide +kernel))
set_option maxRecDepth 20000 in
theorem gL_differenceAt_X4_differenceAt : GoodIn wsL_differenceAt (wsV RL 51 RX4 yX4_differenceAt wsX4_differenceAt) := goodIn_app (goodIn_of _ (by decide +kernel)) ggL_differenceAt_X4_differenceAt
theorem dL_appendText_0 : decode cL_appendText 0 = .ok (.aload_n 3, 1) := by decide +kernel
theorem dL_appendText_1 : decode cL_appendText 1 = .ok (.iconst 0, 1) := by decide +kernel
theorem dL_appendText_2 : decode cL_appendText 2 = .ok (.aload_n 0, 1) := by decide +kernel
theorem dL_appendText_3 : decode cL_appendText 3 = .ok (.lload_n 1, 1) := by decide +kernel
theorem dL_appendText_4 : decode cL_appendText 4 = .ok (.invokevirtual 54, 3) := by decide +kernel
theorem dL_appendText_7 : decode cL_appendText 7 = .ok (.i2l, 1) := by decide +kernel
theorem dL_appendText_8 : decode cL_appendText 8 = .ok (.lastore, 1) := by decide +kernel
theorem dL_appendText_9 : decode cL_appendText 9 = .ok (.goto 11, 3) := by decide +kernel
theorem dL_appendText_12 : decode cL_appendText 12 = .ok (.astore 4, 2) := by decide +kernel
theorem dL_appendText_14 : decode cL_appendText 14 = .ok (.iconst 1, 1) := by decide +kernel
theorem dL_appendText_15 : decode cL_appendText 15 = .ok (.ireturn, 1) := by decide +kernel
theorem dL_appendText_16 : decode cL_appendText 16 = .ok (.astore 4, 2) := by decide +kernel
theorem dL_appendText_18 : decode cL_appendText 18 = .ok (.iconst 2, 1) := by decide +kernel
theorem dL_appendText_19 : decode cL_appendText 19 = .ok (.ireturn, 1) := by decide +kernel
theorem dL_appendText_20 : decode cL_appendText 20 = .ok (.iconst 0, 1) := by decide +kernel
theorem dL_appendText_21 : decode cL_appendText 21 = .ok (.ireturn, 1) := by decide +kernel
set_option maxRecDepth 20000 in
theorem ggL_appendText_X4_appendText : GoodIn wsL_appendText wsX4_appendText := goodIn_ca (goodIn_ca (goodIn_r _ [7, 8, 9, 10, 11, 12, 13, 14, 6, 15, 16, 17, 18, 19, 20, 21, 22, 23, 24, 25, 26, 27, 28, 29, 30, 31, 32, 33, 34, 35, 36, 37, 38, 39, 40, 41, 42] (by decide +kernel) (by decide +kernel)) (goodIn_sub (fun _ h => List.mem_cons_of_mem _ (List.mem_append_left _ (List.mem_append_right _ h))) (by decide +kernel))) (goodIn_sub (fun _ h => List.mem_cons_of_mem _ (List.mem_append_right _ h)) (by decide +kernel))
set_option maxRecDepth 20000 in
theorem gL_appendText_X4_appendText : GoodIn wsL_appendText (wsV RL 54 RX4 yX4_appendText wsX4_appendText) := goodIn_app (goodIn_of _ (by decide +kernel)) ggL_appendText_X4_appendText
theorem dL_undo_0 : decode cL_undo 0 = .ok (.aload_n 1, 1) := by decide +kernel
theorem dL_undo_1 : decode cL_undo 1 = .ok (.iconst 0, 1) := by decide +kernel
theorem dL_undo_2 : decode cL_undo 2 = .ok (.aload_n 0, 1) := by decide +kernel
theorem dL_undo_3 : decode cL_undo 3 = .ok (.invokevirtual 58, 3) := by decide +kernel
theorem dL_undo_6 : decode cL_undo 6 = .ok (.i2l, 1) := by decide +kernel
theorem dL_undo_7 : decode cL_undo 7 = .ok (.lastore, 1) := by decide +kernel
theorem dL_undo_8 : decode cL_undo 8 = .ok (.goto 6, 3) := by decide +kernel
theorem dL_undo_11 : decode cL_undo 11 = .ok (.astore_n 2, 1) := by decide +kernel
theorem dL_undo_12 : decode cL_undo 12 = .ok (.iconst 1, 1) := by decide +kernel
theorem dL_undo_13 : decode cL_undo 13 = .ok (.ireturn, 1) := by decide +kernel
theorem dL_undo_14 : decode cL_undo 14 = .ok (.iconst 0, 1) := by decide +kernel
theorem dL_undo_15 : decode cL_undo 15 = .ok (.ireturn, 1) := by decide +kernel
set_option maxRecDepth 20000 in
theorem ggL_undo_X4_undo : GoodIn wsL_undo wsX4_undo := goodIn_ca (goodIn_r _ [6, 7, 8, 9, 10, 11, 12, 13, 14, 15, 16, 17, 18, 19, 20, 21, 22, 23, 24, 25, 26, 27, 28, 29, 30, 31, 32, 33, 34, 35, 36, 37, 38, 39, 40, 41, 42, 43, 44, 45, 46, 47, 48, 49, 50, 51, 52, 53, 54, 55, 56, 57, 58, 59, 60, 61, 62, 63, 64, 65, 66, 67, 68] (by decide +kernel) (by decide +kernel)) (goodIn_sub (fun _ h => List.mem_cons_of_mem _ (List.mem_append_right _ h)) (by decide +kernel))
set_option maxRecDepth 20000 in
theorem gL_undo_X4_undo : GoodIn wsL_undo (wsV RL 58 RX4 yX4_undo wsX4_undo) := goodIn_app (goodIn_of _ (by decide +kernel)) ggL_undo_X4_undo
theorem dL_saveState_0 : decode cL_saveState 0 = .ok (.aload_n 2, 1) := by decide +kernel
theorem dL_saveState_1 : decode cL_saveState 1 = .ok (.iconst 0, 1) := by decide +kernel
theorem dL_saveState_2 : decode cL_saveState 2 = .ok (.aload_n 0, 1) := by decide +kernel
theorem dL_saveState_3 : decode cL_saveState 3 = .ok (.iload_n 1, 1) := by decide +kernel
theorem dL_saveState_4 : decode cL_saveState 4 = .ok (.invokevirtual 61, 3) := by decide +kernel
theorem dL_saveState_7 : decode cL_saveState 7 = .ok (.i2l, 1) := by decide +kernel
theorem dL_saveState_8 : decode cL_saveState 8 = .ok (.lastore, 1) := by decide +kernel
theorem dL_saveState_9 : decode cL_saveState 9 = .ok (.goto 6, 3) := by decide +kernel
theorem dL_saveState_12 : decode cL_saveState 12 = .ok (.astore_n 3, 1) := by decide +kernel
theorem dL_saveState_13 : decode cL_saveState 13 = .ok (.iconst 1, 1) := by decide +kernel
theorem dL_saveState_14 : decode cL_saveState 14 = .ok (.ireturn, 1) := by decide +kernel
theorem dL_saveState_15 : decode cL_saveState 15 = .ok (.iconst 0, 1) := by decide +kernel
theorem dL_saveState_16 : decode cL_saveState 16 = .ok (.ireturn, 1) := by decide +kernel
set_option maxRecDepth 20000 in
theorem ggL_saveState_X4_saveState : GoodIn wsL_saveState wsX4_saveState := goodIn_ca (goodIn_r _ [6, 7, 8, 9, 10, 11, 5, 12, 13, 14, 15, 16, 17, 18, 19, 20, 21, 22, 23, 24, 25, 26, 27, 28, 29, 30, 31, 32, 33, 34, 35, 36, 37, 38, 39, 40, 41, 42, 43, 44, 45, 46, 47, 48, 49, 50, 51, 52, 53, 54, 55, 56, 57, 58, 59, 60, 61, 62, 63] (by decide +kernel) (by decide +kernel)) (goodIn_sub (fun _ h => List.mem_cons_of_mem _ (List.mem_append_right _ h)) (by decide +kernel))
set_option maxRecDepth 20000 in
theorem gL_saveState_X4_saveState : GoodIn wsL_saveState (wsV RL 61 RX4 yX4_saveState wsX4_saveState) := goodIn_app (goodIn_of _ (by decide +kernel)) ggL_saveState_X4_saveState
theorem dL_loadState_0 : decode cL_loadState 0 = .ok (.aload_n 2, 1) := by decide +kernel
theorem dL_loadState_1 : decode cL_loadState 1 = .ok (.iconst 0, 1) := by decide +kernel
theorem dL_loadState_2 : decode cL_loadState 2 = .ok (.aload_n 0, 1) := by decide +kernel
theorem dL_loadState_3 : decode cL_loadState 3 = .ok (.iload_n 1, 1) := by decide +kernel
theorem dL_loadState_4 : decode cL_loadState 4 = .ok (.invokevirtual 64, 3) := by decide +kernel
theorem dL_loadState_7 : decode cL_loadState 7 = .ok (.i2l, 1) := by decide +kernel
theorem dL_loadState_8 : decode cL_loadState 8 = .ok (.lastore, 1) := by decide +kernel
theorem dL_loadState_9 : decode cL_loadState 9 = .ok (.goto 9, 3) := by decide +kernel
theorem dL_loadState_12 : decode cL_loadState 12 = .ok (.astore_n 3, 1) := by decide +kernel
theorem dL_loadState_13 : decode cL_loadState 13 = .ok (.iconst 1, 1) := by decide +kernel
theorem dL_loadState_14 : decode cL_loadState 14 = .ok (.ireturn, 1) := by decide +kernel
theorem dL_loadState_15 : decode cL_loadState 15 = .ok (.astore_n 3, 1) := by decide +kernel
theorem dL_loadState_16 : decode cL_loadState 16 = .ok (.iconst 2, 1) := by decide +kernel
theorem dL_loadState_17 : decode cL_loadState 17 = .ok (.ireturn, 1) := by decide +kernel
theorem dL_loadState_18 : decode cL_loadState 18 = .ok (.iconst 0, 1) := by decide +kernel
theorem dL_loadState_19 : decode cL_loadState 19 = .ok (.ireturn, 1) := by decide +kernel
set_option maxRecDepth 20000 in
theorem ggL_loadState_X4_loadState : GoodIn wsL_loadState wsX4_loadState := goodIn_ca (goodIn_ca (goodIn_r _ [7, 8, 9, 10, 11, 12, 13, 14, 15, 6, 16, 17, 18, 19, 20, 21, 22, 23, 24, 25, 26, 27, 28, 29, 30, 31, 32, 33, 34, 35, 36, 37, 38, 39, 40, 41, 42, 43, 44, 45, 46, 47, 48, 49, 50, 51, 52, 53, 54, 55, 56, 57, 58, 59, 60, 61, 62, 63, 64, 65, 66, 67, 68, 69, 70, 71, 72, 73, 74, 75, 76, 77, 78, 79, 80, 81] (by decide +kernel) (by decide +kernel)) (goodIn_sub (fun _ h => List.mem_cons_of_mem _ (List.mem_append_left _ (List.mem_append_right _ h))) (by decide +kernel))) (goodIn_sub (fun _ h => List.mem_cons_of_mem _ (List.mem_append_right _ h)) (by decide +kernel))
set_option maxRecDepth 20000 in
theorem gL_loadState_X4_loadState : GoodIn wsL_loadState (wsV RL 64 RX4 yX4_loadState wsX4_loadState) := goodIn_app (goodIn_of _ (by decide +kernel)) ggL_loadState_X4_loadState
def wOt (cy : Nat → ClassId) (o0 : Nat) (O : Nat → Int64) : va_W := [(o0, .inl (cy 3, 1, .inr (.inl O)))]
theorem z_last {p : Program} {l : Launch} {e : Env} {R : Room} {s : State} {m : MethodId} {args : Array Value} {below : List Frame} {meth : Method} {c : Code} {H : Heap} {locs : List Loc} {cells slots : Nat} {Q : State → Prop} {cc : ByteArray} {pc : Nat} {ls : Array Slot} {rest : List Value} {D : va_G} {cy : Nat → ClassId} {A : Nat → Prop} {H0 : Heap} {W0 : va_W} (hx : p.tables.exec = Jvm.exec) (hb : c.code = cc) {a : Nat} (hK : va_K D vwCl (tysA cy) s) (hP : va_P D vwCl W0 H) (hD : va_D A W0) (hS : va_S A H0 H locs) (q0 : Nat) {f : Nat → Int64} (ha : W0[q0]? = some (a, .inl (cy 3, 1, .inr (.inl f)))) {x : Int64} (hdg : decode cc pc = .ok (.lastore, 1))
    (kk : ∀ (H1 : Heap) (locs1 : List Loc), va_P D vwCl (W0.set q0 (a, .inl (cy 3, 1, .inr (.inl (vp_updL f 0 x))))) H1 → va_D A (W0.set q0 (a, .inl (cy 3, 1, .inr (.inl (vp_updL f 0 x))))) → va_S A H0 H1 locs1 → W p l e R s m args below meth c H1 locs1 cells slots Q (F0 m (pc + 1) ls rest)) : W p l e R s m args below meth c H locs cells slots Q (F0 m pc ls (.long x :: .int (iI 0) :: .ref a :: rest)) :=
  va_last hx hb hK hP hD hS q0 3 ha rfl (iI_in (by omega) (by decide) (by omega)) hdg (by rw [iI_cl (by omega) (by omega)]; exact kk)

set_option maxHeartbeats 4000000 in
set_option maxRecDepth 100000 in
theorem c_L_takeLine (l : Launch) (hfl : l.stackTraces = false) (D : va_G) (cy : Nat → ClassId) (ad : Nat → Nat) (z : Nat → Int) (f : Nat → Nat → Int32) (M : MS) (nx : Int) (ct : Int) (Zh : Nat → Nat → Int) (Fh : Nat → Nat → Nat → Int32) (h : List MS) (tn : Int) (tf : Nat → Int32) (tx : List Int32) (o0 : Nat) (O : Nat → Int64) (hR : RS z f M) (hM : MOk M) (hH : RXH nx ct Zh Fh h) (hX : Rep tn tf tx ∧ tx.length ≤ 80) : Ni l D cy yL_takeLine wsL_takeLine 8 133 1 [.ref (ad 0), .ref o0] (List.flatten [wTop ad, wSt cy ad 1 z f, wHb ad ct, wKb cy ad nx, wSt cy ad 20 (Zh 0) (Fh 0), wSt cy ad 27 (Zh 1) (Fh 1), wSt cy ad 34 (Zh 2) (Fh 2), wSt cy ad 41 (Zh 3) (Fh 3), wSt cy ad 48 (Zh 4) (Fh 4), wSt cy ad 55 (Zh 5) (Fh 5), wTx cy ad tn tf, wOt cy o0 O]) (fun (r : Int32) (u : (Nat → Int) × (Nat → Nat → Int32) × Int × Int × (Nat → Nat → Int) × (Nat → Nat → Nat → Int32) × Int × (Nat → Int64)) => (r = iI 0 ∧ ∃ v : Int32, ((errF tx 0 = -1 ∧ (tx.length : Int) ≤ 60) ∧ v = iI (tx.length : Int) ∧ RS u.1 u.2.1 (mTakeL M tx) ∧ RXH u.2.2.1 u.2.2.2.1 u.2.2.2.2.1 u.2.2.2.2.2.1 (pushH h M)) ∧ u.2.2.2.2.2.2.2 0 = lI v.toInt ∧ u.2.2.2.2.2.2.1 = 0) ∨ (r = iI 1 ∧ (¬ (errF tx 0 = -1 ∧ (tx.length : Int) ≤ 60)) ∧ u.1 = z ∧ u.2.1 = f ∧ u.2.2.1 = nx ∧ u.2.2.2.1 = ct ∧ u.2.2.2.2.1 = Zh ∧ u.2.2.2.2.2.1 = Fh ∧ u.2.2.2.2.2.2.1 = tn)) (fun u : (Nat → Int) × (Nat → Nat → Int32) × Int × Int × (Nat → Nat → Int) × (Nat → Nat → Nat → Int32) × Int × (Nat → Int64) => (List.flatten [wTop ad, wSt cy ad 1 u.1 u.2.1, wHb ad u.2.2.2.1, wKb cy ad u.2.2.1, wSt cy ad 20 (u.2.2.2.2.1 0) (u.2.2.2.2.2.1 0), wSt cy ad 27 (u.2.2.2.2.1 1) (u.2.2.2.2.2.1 1), wSt cy ad 34 (u.2.2.2.2.1 2) (u.2.2.2.2.2.1 2), wSt cy ad 41 (u.2.2.2.2.1 3) (u.2.2.2.2.2.1 3), wSt cy ad 48 (u.2.2.2.2.1 4) (u.2.2.2.2.2.1 4), wSt cy ad 55 (u.2.2.2.2.1 5) (u.2.2.2.2.2.1 5), wTx cy ad u.2.2.2.2.2.2.1 tf, wOt cy o0 u.2.2.2.2.2.2.2])) := by
  refine Ni_of (cc := cL_takeLine) (maxL := 3) (ret := (some .int)) (hh := [(0, 8, 11, 13)]) (by decide) rfl rfl ?_
  intro p e s m args below meth c A hx hb hr hts hown hlocks hml htab hP hK hD hT hC hZ hA ls hl
  have hS : va_S A s.heap s.heap [] := va_S.rf
  have hl : lv_has ls 3 [(0, .ref (ad 0)), (1, .ref o0)] := hl
  have hP : va_P D vwCl (List.flatten [wTop ad, wSt cy ad 1 z f, wHb ad ct, wKb cy ad nx, wSt cy ad 20 (Zh 0) (Fh 0), wSt cy ad 27 (Zh 1) (Fh 1), wSt cy ad 34 (Zh 2) (Fh 2), wSt cy ad 41 (Zh 3) (Fh 3), wSt cy ad 48 (Zh 4) (Fh 4), wSt cy ad 55 (Zh 5) (Fh 5), wTx cy ad tn tf, wOt cy o0 O]) s.heap := hP
  have hD : va_D A (List.flatten [wTop ad, wSt cy ad 1 z f, wHb ad ct, wKb cy ad nx, wSt cy ad 20 (Zh 0) (Fh 0), wSt cy ad 27 (Zh 1) (Fh 1), wSt cy ad 34 (Zh 2) (Fh 2), wSt cy ad 41 (Zh 3) (Fh 3), wSt cy ad 48 (Zh 4) (Fh 4), wSt cy ad 55 (Zh 5) (Fh 5), wTx cy ad tn tf, wOt cy o0 O]) := hD
  refine lv_aload_n hx hb dL_takeLine_0 rfl (lv_at hl 1 rfl) ?_
  refine lv_iconst (v := iI 0) hx hb dL_takeLine_1 rfl ?_
  refine lv_aload_n hx hb dL_takeLine_2 rfl (lv_at hl 0 rfl) ?_
  refine h_gVi (n := 0) (b := ad 0) (As := []) (rest := [.int (iI 0), .ref o0]) ⟨hx, hb, hml, hown, hts⟩ (c_X4_takeLine l hfl D cy ad z f M nx ct Zh Fh h tn tf tx (by first | assumption | omega) (by first | assumption | omega) (by first | assumption | omega) (by first | assumption | omega)) gL_takeLine_X4_takeLine rfl (by decide +kernel) ⟨Nat.le_of_ble_eq_true rfl, Nat.le_of_ble_eq_true rfl⟩ hK hT hC hZ hP hS (Fp.blocks hP hD hS hA (cs := [wTop ad, wSt cy ad 1 z f, wHb ad ct, wKb cy ad nx, wSt cy ad 20 (Zh 0) (Fh 0), wSt cy ad 27 (Zh 1) (Fh 1), wSt cy ad 34 (Zh 2) (Fh 2), wSt cy ad 41 (Zh 3) (Fh 3), wSt cy ad 48 (Zh 4) (Fh 4), wSt cy ad 55 (Zh 5) (Fh 5), wTx cy ad tn tf]) (nb := fun (u : (Nat → Int) × (Nat → Nat → Int32) × Int × Int × (Nat → Nat → Int) × (Nat → Nat → Nat → Int32)) => [wTop ad, wSt cy ad 1 u.1 u.2.1, wHb ad u.2.2.2.1, wKb cy ad u.2.2.1, wSt cy ad 20 (u.2.2.2.2.1 0) (u.2.2.2.2.2 0), wSt cy ad 27 (u.2.2.2.2.1 1) (u.2.2.2.2.2 1), wSt cy ad 34 (u.2.2.2.2.1 2) (u.2.2.2.2.2 2), wSt cy ad 41 (u.2.2.2.2.1 3) (u.2.2.2.2.2 3), wSt cy ad 48 (u.2.2.2.2.1 4) (u.2.2.2.2.2 4), wSt cy ad 55 (u.2.2.2.2.1 5) (u.2.2.2.2.2 5), wTx cy ad 0 tf]) (nbs := fun (u : (Nat → Int) × (Nat → Nat → Int32) × Int × Int × (Nat → Nat → Int) × (Nat → Nat → Nat → Int32)) => [wTop ad, wSt cy ad 1 u.1 u.2.1, wHb ad u.2.2.2.1, wKb cy ad u.2.2.1, wSt cy ad 20 (u.2.2.2.2.1 0) (u.2.2.2.2.2 0), wSt cy ad 27 (u.2.2.2.2.1 1) (u.2.2.2.2.2 1), wSt cy ad 34 (u.2.2.2.2.1 2) (u.2.2.2.2.2 2), wSt cy ad 41 (u.2.2.2.2.1 3) (u.2.2.2.2.2 3), wSt cy ad 48 (u.2.2.2.2.1 4) (u.2.2.2.2.2 4), wSt cy ad 55 (u.2.2.2.2.1 5) (u.2.2.2.2.2 5), wTx cy ad 0 tf, wOt cy o0 O]) [0, 1, 2, 3, 4, 5, 6, 7, 8, 9, 10] rfl rfl rfl (fun _ => rfl) (fun _ => rfl) (fun _ => rfl)) (Fp.same hP hD hS hA [0, 1, 2, 3, 4, 5, 6, 7, 8, 9, 10, 11, 12, 13, 14, 15, 16, 17, 18, 19, 20, 21, 22, 23, 24, 25, 26, 27, 28, 29, 30, 31, 32, 33, 34, 35, 36, 37, 38, 39, 40, 41, 42, 43, 44, 45, 46, 47, 48, 49, 50, 51, 52, 53] rfl rfl (fun _ => rfl)) 0 4 rfl rfl rfl rfl hl.1 rfl (Nat.le_of_ble_eq_true rfl) dL_takeLine_3 ⟨by decide, by decide⟩ (fun E ce q9 H locs hpx hP hD hS hce hcv hcl => ?_) (fun r_1 u_1 H locs hw_1 hP hD hS => ?_)
  · --
    rcases hpx with ⟨rfl, hcond⟩
    · --
      refine vx_catch (name := "java/lang/IllegalStateException") hown [] _ _ (htab.trans rfl) (by intro z hz; cases hz) (by decide) (by decide) (hts (.classLink RL 13 "java/lang/IllegalStateException") (by decide +kernel)) (va_Nw.use rfl (hC.1 xISE (List.mem_of_getElem? (i := 0) rfl))) hce hcv hcl ?_
      refine W.eq (g2 := F0 m 11 ls [.ref q9]) rfl ?_
      have hP : va_P D vwCl (List.flatten [wTop ad, wSt cy ad 1 z f, wHb ad ct, wKb cy ad nx, wSt cy ad 20 (Zh 0) (Fh 0), wSt cy ad 27 (Zh 1) (Fh 1), wSt cy ad 34 (Zh 2) (Fh 2), wSt cy ad 41 (Zh 3) (Fh 3), wSt cy ad 48 (Zh 4) (Fh 4), wSt cy ad 55 (Zh 5) (Fh 5), wTx cy ad tn tf, wOt cy o0 O]) H := hP
      have hD : va_D A (List.flatten [wTop ad, wSt cy ad 1 z f, wHb ad ct, wKb cy ad nx, wSt cy ad 20 (Zh 0) (Fh 0), wSt cy ad 27 (Zh 1) (Fh 1), wSt cy ad 34 (Zh 2) (Fh 2), wSt cy ad 41 (Zh 3) (Fh 3), wSt cy ad 48 (Zh 4) (Fh 4), wSt cy ad 55 (Zh 5) (Fh 5), wTx cy ad tn tf, wOt cy o0 O]) := hD
      refine lv_astore_n (lv' := [(2, .ref q9), (0, .ref (ad 0)), (1, .ref o0)]) hx hb dL_takeLine_11 rfl hl (by decide) rfl (fun ls hl => ?_)
      refine lv_iconst (v := iI 1) hx hb dL_takeLine_12 rfl ?_
      refine W.widen (k := 1) (n := 6 * 1) (by decide) (by decide) ?_
      exact z_iret hx hb hr hlocks hS (z, f, nx, ct, Zh, Fh, tn, O) (show ((iI 1) = iI 0 ∧ ∃ v : Int32, ((errF tx 0 = -1 ∧ (tx.length : Int) ≤ 60) ∧ v = iI (tx.length : Int) ∧ RS z f (mTakeL M tx) ∧ RXH nx ct Zh Fh (pushH h M)) ∧ O 0 = lI v.toInt ∧ tn = 0) ∨ ((iI 1) = iI 1 ∧ (¬ (errF tx 0 = -1 ∧ (tx.length : Int) ≤ 60)) ∧ z = z ∧ f = f ∧ nx = nx ∧ ct = ct ∧ Zh = Zh ∧ Fh = Fh ∧ tn = tn) from (Or.inr ⟨rfl, hcond, rfl, rfl, rfl, rfl, rfl, rfl, rfl⟩)) hP dL_takeLine_13
  · --
    obtain ⟨z1_1, f1_1, nx1_1, ct1_1, Zh1_1, Fh1_1⟩ := u_1
    have hw_1 : (errF tx 0 = -1 ∧ (tx.length : Int) ≤ 60) ∧ r_1 = iI (tx.length : Int) ∧ RS z1_1 f1_1 (mTakeL M tx) ∧ RXH nx1_1 ct1_1 Zh1_1 Fh1_1 (pushH h M) := hw_1
    have hP : va_P D vwCl (List.flatten [wTop ad, wSt cy ad 1 z1_1 f1_1, wHb ad ct1_1, wKb cy ad nx1_1, wSt cy ad 20 (Zh1_1 0) (Fh1_1 0), wSt cy ad 27 (Zh1_1 1) (Fh1_1 1), wSt cy ad 34 (Zh1_1 2) (Fh1_1 2), wSt cy ad 41 (Zh1_1 3) (Fh1_1 3), wSt cy ad 48 (Zh1_1 4) (Fh1_1 4), wSt cy ad 55 (Zh1_1 5) (Fh1_1 5), wTx cy ad 0 tf, wOt cy o0 O]) H := hP
    have hD : va_D A (List.flatten [wTop ad, wSt cy ad 1 z1_1 f1_1, wHb ad ct1_1, wKb cy ad nx1_1, wSt cy ad 20 (Zh1_1 0) (Fh1_1 0), wSt cy ad 27 (Zh1_1 1) (Fh1_1 1), wSt cy ad 34 (Zh1_1 2) (Fh1_1 2), wSt cy ad 41 (Zh1_1 3) (Fh1_1 3), wSt cy ad 48 (Zh1_1 4) (Fh1_1 4), wSt cy ad 55 (Zh1_1 5) (Fh1_1 5), wTx cy ad 0 tf, wOt cy o0 O]) := hD
    refine z_i2l hx hb (r_l r_1) dL_takeLine_6 ?_
    refine z_last hx hb hK hP hD hS 54 rfl dL_takeLine_7 (fun H locs hP hD hS => ?_)
    have hP : va_P D vwCl (List.flatten [wTop ad, wSt cy ad 1 z1_1 f1_1, wHb ad ct1_1, wKb cy ad nx1_1, wSt cy ad 20 (Zh1_1 0) (Fh1_1 0), wSt cy ad 27 (Zh1_1 1) (Fh1_1 1), wSt cy ad 34 (Zh1_1 2) (Fh1_1 2), wSt cy ad 41 (Zh1_1 3) (Fh1_1 3), wSt cy ad 48 (Zh1_1 4) (Fh1_1 4), wSt cy ad 55 (Zh1_1 5) (Fh1_1 5), wTx cy ad 0 tf, wOt cy o0 (vp_updL O 0 (lI r_1.toInt))]) H := hP
    have hD : va_D A (List.flatten [wTop ad, wSt cy ad 1 z1_1 f1_1, wHb ad ct1_1, wKb cy ad nx1_1, wSt cy ad 20 (Zh1_1 0) (Fh1_1 0), wSt cy ad 27 (Zh1_1 1) (Fh1_1 1), wSt cy ad 34 (Zh1_1 2) (Fh1_1 2), wSt cy ad 41 (Zh1_1 3) (Fh1_1 3), wSt cy ad 48 (Zh1_1 4) (Fh1_1 4), wSt cy ad 55 (Zh1_1 5) (Fh1_1 5), wTx cy ad 0 tf, wOt cy o0 (vp_updL O 0 (lI r_1.toInt))]) := hD
    refine lv_goto (tgt := 14) hx hb dL_takeLine_8 (by decide) ?_
    refine lv_iconst (v := iI 0) hx hb dL_takeLine_14 rfl ?_
    refine W.widen (k := 1) (n := 6 * 1) (by decide) (by decide) ?_
    exact z_iret hx hb hr hlocks hS (z1_1, f1_1, nx1_1, ct1_1, Zh1_1, Fh1_1, 0, vp_updL O 0 (lI r_1.toInt)) (show ((iI 0) = iI 0 ∧ ∃ v : Int32, ((errF tx 0 = -1 ∧ (tx.length : Int) ≤ 60) ∧ v = iI (tx.length : Int) ∧ RS z1_1 f1_1 (mTakeL M tx) ∧ RXH nx1_1 ct1_1 Zh1_1 Fh1_1 (pushH h M)) ∧ (vp_updL O 0 (lI r_1.toInt)) 0 = lI v.toInt ∧ 0 = 0) ∨ ((iI 0) = iI 1 ∧ (¬ (errF tx 0 = -1 ∧ (tx.length : Int) ≤ 60)) ∧ z1_1 = z ∧ f1_1 = f ∧ nx1_1 = nx ∧ ct1_1 = ct ∧ Zh1_1 = Zh ∧ Fh1_1 = Fh ∧ 0 = tn) from (Or.inl ⟨rfl, r_1, hw_1, by simp [vp_updL], rfl⟩)) hP dL_takeLine_15
set_option maxHeartbeats 4000000 in
set_option maxRecDepth 100000 in
theorem c_L_takeWord (l : Launch) (hfl : l.stackTraces = false) (D : va_G) (cy : Nat → ClassId) (ad : Nat → Nat) (z : Nat → Int) (f : Nat → Nat → Int32) (M : MS) (nx : Int) (ct : Int) (Zh : Nat → Nat → Int) (Fh : Nat → Nat → Nat → Int32) (h : List MS) (tn : Int) (tf : Nat → Int32) (tx : List Int32) (o0 : Nat) (O : Nat → Int64) (hR : RS z f M) (hM : MOk M) (hH : RXH nx ct Zh Fh h) (hX : Rep tn tf tx ∧ tx.length ≤ 80) : Ni l D cy yL_takeWord wsL_takeWord 8 133 1 [.ref (ad 0), .ref o0] (List.flatten [wTop ad, wSt cy ad 1 z f, wHb ad ct, wKb cy ad nx, wSt cy ad 20 (Zh 0) (Fh 0), wSt cy ad 27 (Zh 1) (Fh 1), wSt cy ad 34 (Zh 2) (Fh 2), wSt cy ad 41 (Zh 3) (Fh 3), wSt cy ad 48 (Zh 4) (Fh 4), wSt cy ad 55 (Zh 5) (Fh 5), wTx cy ad tn tf, wOt cy o0 O]) (fun (r : Int32) (u : (Nat → Int) × (Nat → Nat → Int32) × Int × Int × (Nat → Nat → Int) × (Nat → Nat → Nat → Int32) × Int × (Nat → Int64)) => (r = iI 0 ∧ ∃ v : Int32, ((errF tx 0 = -1 ∧ (tx.length : Int) ≤ 16) ∧ v = iI (tx.length : Int) ∧ RS u.1 u.2.1 (mTakeW M tx) ∧ RXH u.2.2.1 u.2.2.2.1 u.2.2.2.2.1 u.2.2.2.2.2.1 (pushH h M)) ∧ u.2.2.2.2.2.2.2 0 = lI v.toInt ∧ u.2.2.2.2.2.2.1 = 0) ∨ (r = iI 1 ∧ (¬ (errF tx 0 = -1 ∧ (tx.length : Int) ≤ 16)) ∧ u.1 = z ∧ u.2.1 = f ∧ u.2.2.1 = nx ∧ u.2.2.2.1 = ct ∧ u.2.2.2.2.1 = Zh ∧ u.2.2.2.2.2.1 = Fh ∧ u.2.2.2.2.2.2.1 = tn)) (fun u : (Nat → Int) × (Nat → Nat → Int32) × Int × Int × (Nat → Nat → Int) × (Nat → Nat → Nat → Int32) × Int × (Nat → Int64) => (List.flatten [wTop ad, wSt cy ad 1 u.1 u.2.1, wHb ad u.2.2.2.1, wKb cy ad u.2.2.1, wSt cy ad 20 (u.2.2.2.2.1 0) (u.2.2.2.2.2.1 0), wSt cy ad 27 (u.2.2.2.2.1 1) (u.2.2.2.2.2.1 1), wSt cy ad 34 (u.2.2.2.2.1 2) (u.2.2.2.2.2.1 2), wSt cy ad 41 (u.2.2.2.2.1 3) (u.2.2.2.2.2.1 3), wSt cy ad 48 (u.2.2.2.2.1 4) (u.2.2.2.2.2.1 4), wSt cy ad 55 (u.2.2.2.2.1 5) (u.2.2.2.2.2.1 5), wTx cy ad u.2.2.2.2.2.2.1 tf, wOt cy o0 u.2.2.2.2.2.2.2])) := by
  refine Ni_of (cc := cL_takeWord) (maxL := 3) (ret := (some .int)) (hh := [(0, 8, 11, 13)]) (by decide) rfl rfl ?_
  intro p e s m args below meth c A hx hb hr hts hown hlocks hml htab hP hK hD hT hC hZ hA ls hl
  have hS : va_S A s.heap s.heap [] := va_S.rf
  have hl : lv_has ls 3 [(0, .ref (ad 0)), (1, .ref o0)] := hl
  have hP : va_P D vwCl (List.flatten [wTop ad, wSt cy ad 1 z f, wHb ad ct, wKb cy ad nx, wSt cy ad 20 (Zh 0) (Fh 0), wSt cy ad 27 (Zh 1) (Fh 1), wSt cy ad 34 (Zh 2) (Fh 2), wSt cy ad 41 (Zh 3) (Fh 3), wSt cy ad 48 (Zh 4) (Fh 4), wSt cy ad 55 (Zh 5) (Fh 5), wTx cy ad tn tf, wOt cy o0 O]) s.heap := hP
  have hD : va_D A (List.flatten [wTop ad, wSt cy ad 1 z f, wHb ad ct, wKb cy ad nx, wSt cy ad 20 (Zh 0) (Fh 0), wSt cy ad 27 (Zh 1) (Fh 1), wSt cy ad 34 (Zh 2) (Fh 2), wSt cy ad 41 (Zh 3) (Fh 3), wSt cy ad 48 (Zh 4) (Fh 4), wSt cy ad 55 (Zh 5) (Fh 5), wTx cy ad tn tf, wOt cy o0 O]) := hD
  refine lv_aload_n hx hb dL_takeWord_0 rfl (lv_at hl 1 rfl) ?_
  refine lv_iconst (v := iI 0) hx hb dL_takeWord_1 rfl ?_
  refine lv_aload_n hx hb dL_takeWord_2 rfl (lv_at hl 0 rfl) ?_
  refine h_gVi (n := 0) (b := ad 0) (As := []) (rest := [.int (iI 0), .ref o0]) ⟨hx, hb, hml, hown, hts⟩ (c_X4_takeWord l hfl D cy ad z f M nx ct Zh Fh h tn tf tx (by first | assumption | omega) (by first | assumption | omega) (by first | assumption | omega) (by first | assumption | omega)) gL_takeWord_X4_takeWord rfl (by decide +kernel) ⟨Nat.le_of_ble_eq_true rfl, Nat.le_of_ble_eq_true rfl⟩ hK hT hC hZ hP hS (Fp.blocks hP hD hS hA (cs := [wTop ad, wSt cy ad 1 z f, wHb ad ct, wKb cy ad nx, wSt cy ad 20 (Zh 0) (Fh 0), wSt cy ad 27 (Zh 1) (Fh 1), wSt cy ad 34 (Zh 2) (Fh 2), wSt cy ad 41 (Zh 3) (Fh 3), wSt cy ad 48 (Zh 4) (Fh 4), wSt cy ad 55 (Zh 5) (Fh 5), wTx cy ad tn tf]) (nb := fun (u : (Nat → Int) × (Nat → Nat → Int32) × Int × Int × (Nat → Nat → Int) × (Nat → Nat → Nat → Int32)) => [wTop ad, wSt cy ad 1 u.1 u.2.1, wHb ad u.2.2.2.1, wKb cy ad u.2.2.1, wSt cy ad 20 (u.2.2.2.2.1 0) (u.2.2.2.2.2 0), wSt cy ad 27 (u.2.2.2.2.1 1) (u.2.2.2.2.2 1), wSt cy ad 34 (u.2.2.2.2.1 2) (u.2.2.2.2.2 2), wSt cy ad 41 (u.2.2.2.2.1 3) (u.2.2.2.2.2 3), wSt cy ad 48 (u.2.2.2.2.1 4) (u.2.2.2.2.2 4), wSt cy ad 55 (u.2.2.2.2.1 5) (u.2.2.2.2.2 5), wTx cy ad 0 tf]) (nbs := fun (u : (Nat → Int) × (Nat → Nat → Int32) × Int × Int × (Nat → Nat → Int) × (Nat → Nat → Nat → Int32)) => [wTop ad, wSt cy ad 1 u.1 u.2.1, wHb ad u.2.2.2.1, wKb cy ad u.2.2.1, wSt cy ad 20 (u.2.2.2.2.1 0) (u.2.2.2.2.2 0), wSt cy ad 27 (u.2.2.2.2.1 1) (u.2.2.2.2.2 1), wSt cy ad 34 (u.2.2.2.2.1 2) (u.2.2.2.2.2 2), wSt cy ad 41 (u.2.2.2.2.1 3) (u.2.2.2.2.2 3), wSt cy ad 48 (u.2.2.2.2.1 4) (u.2.2.2.2.2 4), wSt cy ad 55 (u.2.2.2.2.1 5) (u.2.2.2.2.2 5), wTx cy ad 0 tf, wOt cy o0 O]) [0, 1, 2, 3, 4, 5, 6, 7, 8, 9, 10] rfl rfl rfl (fun _ => rfl) (fun _ => rfl) (fun _ => rfl)) (Fp.same hP hD hS hA [0, 1, 2, 3, 4, 5, 6, 7, 8, 9, 10, 11, 12, 13, 14, 15, 16, 17, 18, 19, 20, 21, 22, 23, 24, 25, 26, 27, 28, 29, 30, 31, 32, 33, 34, 35, 36, 37, 38, 39, 40, 41, 42, 43, 44, 45, 46, 47, 48, 49, 50, 51, 52, 53] rfl rfl (fun _ => rfl)) 0 4 rfl rfl rfl rfl hl.1 rfl (Nat.le_of_ble_eq_true rfl) dL_takeWord_3 ⟨by decide, by decide⟩ (fun E ce q9 H locs hpx hP hD hS hce hcv hcl => ?_) (fun r_1 u_1 H locs hw_1 hP hD hS => ?_)
  · --
    rcases hpx with ⟨rfl, hcond⟩
    · --
      refine vx_catch (name := "java/lang/IllegalStateException") hown [] _ _ (htab.trans rfl) (by intro z hz; cases hz) (by decide) (by decide) (hts (.classLink RL 13 "java/lang/IllegalStateException") (by decide +kernel)) (va_Nw.use rfl (hC.1 xISE (List.mem_of_getElem? (i := 0) rfl))) hce hcv hcl ?_
      refine W.eq (g2 := F0 m 11 ls [.ref q9]) rfl ?_
      have hP : va_P D vwCl (List.flatten [wTop ad, wSt cy ad 1 z f, wHb ad ct, wKb cy ad nx, wSt cy ad 20 (Zh 0) (Fh 0), wSt cy ad 27 (Zh 1) (Fh 1), wSt cy ad 34 (Zh 2) (Fh 2), wSt cy ad 41 (Zh 3) (Fh 3), wSt cy ad 48 (Zh 4) (Fh 4), wSt cy ad 55 (Zh 5) (Fh 5), wTx cy ad tn tf, wOt cy o0 O]) H := hP
      have hD : va_D A (List.flatten [wTop ad, wSt cy ad 1 z f, wHb ad ct, wKb cy ad nx, wSt cy ad 20 (Zh 0) (Fh 0), wSt cy ad 27 (Zh 1) (Fh 1), wSt cy ad 34 (Zh 2) (Fh 2), wSt cy ad 41 (Zh 3) (Fh 3), wSt cy ad 48 (Zh 4) (Fh 4), wSt cy ad 55 (Zh 5) (Fh 5), wTx cy ad tn tf, wOt cy o0 O]) := hD
      refine lv_astore_n (lv' := [(2, .ref q9), (0, .ref (ad 0)), (1, .ref o0)]) hx hb dL_takeWord_11 rfl hl (by decide) rfl (fun ls hl => ?_)
      refine lv_iconst (v := iI 1) hx hb dL_takeWord_12 rfl ?_
      refine W.widen (k := 1) (n := 6 * 1) (by decide) (by decide) ?_
      exact z_iret hx hb hr hlocks hS (z, f, nx, ct, Zh, Fh, tn, O) (show ((iI 1) = iI 0 ∧ ∃ v : Int32, ((errF tx 0 = -1 ∧ (tx.length : Int) ≤ 16) ∧ v = iI (tx.length : Int) ∧ RS z f (mTakeW M tx) ∧ RXH nx ct Zh Fh (pushH h M)) ∧ O 0 = lI v.toInt ∧ tn = 0) ∨ ((iI 1) = iI 1 ∧ (¬ (errF tx 0 = -1 ∧ (tx.length : Int) ≤ 16)) ∧ z = z ∧ f = f ∧ nx = nx ∧ ct = ct ∧ Zh = Zh ∧ Fh = Fh ∧ tn = tn) from (Or.inr ⟨rfl, hcond, rfl, rfl, rfl, rfl, rfl, rfl, rfl⟩)) hP dL_takeWord_13
  · --
    obtain ⟨z1_1, f1_1, nx1_1, ct1_1, Zh1_1, Fh1_1⟩ := u_1
    have hw_1 : (errF tx 0 = -1 ∧ (tx.length : Int) ≤ 16) ∧ r_1 = iI (tx.length : Int) ∧ RS z1_1 f1_1 (mTakeW M tx) ∧ RXH nx1_1 ct1_1 Zh1_1 Fh1_1 (pushH h M) := hw_1
    have hP : va_P D vwCl (List.flatten [wTop ad, wSt cy ad 1 z1_1 f1_1, wHb ad ct1_1, wKb cy ad nx1_1, wSt cy ad 20 (Zh1_1 0) (Fh1_1 0), wSt cy ad 27 (Zh1_1 1) (Fh1_1 1), wSt cy ad 34 (Zh1_1 2) (Fh1_1 2), wSt cy ad 41 (Zh1_1 3) (Fh1_1 3), wSt cy ad 48 (Zh1_1 4) (Fh1_1 4), wSt cy ad 55 (Zh1_1 5) (Fh1_1 5), wTx cy ad 0 tf, wOt cy o0 O]) H := hP
    have hD : va_D A (List.flatten [wTop ad, wSt cy ad 1 z1_1 f1_1, wHb ad ct1_1, wKb cy ad nx1_1, wSt cy ad 20 (Zh1_1 0) (Fh1_1 0), wSt cy ad 27 (Zh1_1 1) (Fh1_1 1), wSt cy ad 34 (Zh1_1 2) (Fh1_1 2), wSt cy ad 41 (Zh1_1 3) (Fh1_1 3), wSt cy ad 48 (Zh1_1 4) (Fh1_1 4), wSt cy ad 55 (Zh1_1 5) (Fh1_1 5), wTx cy ad 0 tf, wOt cy o0 O]) := hD
    refine z_i2l hx hb (r_l r_1) dL_takeWord_6 ?_
    refine z_last hx hb hK hP hD hS 54 rfl dL_takeWord_7 (fun H locs hP hD hS => ?_)
    have hP : va_P D vwCl (List.flatten [wTop ad, wSt cy ad 1 z1_1 f1_1, wHb ad ct1_1, wKb cy ad nx1_1, wSt cy ad 20 (Zh1_1 0) (Fh1_1 0), wSt cy ad 27 (Zh1_1 1) (Fh1_1 1), wSt cy ad 34 (Zh1_1 2) (Fh1_1 2), wSt cy ad 41 (Zh1_1 3) (Fh1_1 3), wSt cy ad 48 (Zh1_1 4) (Fh1_1 4), wSt cy ad 55 (Zh1_1 5) (Fh1_1 5), wTx cy ad 0 tf, wOt cy o0 (vp_updL O 0 (lI r_1.toInt))]) H := hP
    have hD : va_D A (List.flatten [wTop ad, wSt cy ad 1 z1_1 f1_1, wHb ad ct1_1, wKb cy ad nx1_1, wSt cy ad 20 (Zh1_1 0) (Fh1_1 0), wSt cy ad 27 (Zh1_1 1) (Fh1_1 1), wSt cy ad 34 (Zh1_1 2) (Fh1_1 2), wSt cy ad 41 (Zh1_1 3) (Fh1_1 3), wSt cy ad 48 (Zh1_1 4) (Fh1_1 4), wSt cy ad 55 (Zh1_1 5) (Fh1_1 5), wTx cy ad 0 tf, wOt cy o0 (vp_updL O 0 (lI r_1.toInt))]) := hD
    refine lv_goto (tgt := 14) hx hb dL_takeWord_8 (by decide) ?_
    refine lv_iconst (v := iI 0) hx hb dL_takeWord_14 rfl ?_
    refine W.widen (k := 1) (n := 6 * 1) (by decide) (by decide) ?_
    exact z_iret hx hb hr hlocks hS (z1_1, f1_1, nx1_1, ct1_1, Zh1_1, Fh1_1, 0, vp_updL O 0 (lI r_1.toInt)) (show ((iI 0) = iI 0 ∧ ∃ v : Int32, ((errF tx 0 = -1 ∧ (tx.length : Int) ≤ 16) ∧ v = iI (tx.length : Int) ∧ RS z1_1 f1_1 (mTakeW M tx) ∧ RXH nx1_1 ct1_1 Zh1_1 Fh1_1 (pushH h M)) ∧ (vp_updL O 0 (lI r_1.toInt)) 0 = lI v.toInt ∧ 0 = 0) ∨ ((iI 0) = iI 1 ∧ (¬ (errF tx 0 = -1 ∧ (tx.length : Int) ≤ 16)) ∧ z1_1 = z ∧ f1_1 = f ∧ nx1_1 = nx ∧ ct1_1 = ct ∧ Zh1_1 = Zh ∧ Fh1_1 = Fh ∧ 0 = tn) from (Or.inl ⟨rfl, r_1, hw_1, by simp [vp_updL], rfl⟩)) hP dL_takeWord_15
set_option maxHeartbeats 4000000 in
set_option maxRecDepth 100000 in
theorem c_L_look (l : Launch) (hfl : l.stackTraces = false) (D : va_G) (cy : Nat → ClassId) (ad : Nat → Nat) (z : Nat → Int) (f : Nat → Nat → Int32) (M : MS) (nx : Int) (ct : Int) (Zh : Nat → Nat → Int) (Fh : Nat → Nat → Nat → Int32) (h : List MS) (en : Int) (B : Nat → Int) (Kf : Nat → Int) (o0 : Nat) (O : Nat → Int64) (hR : RS z f M) (hM : MOk M) (hH : RXH nx ct Zh Fh h) (hk : ∀ j : Nat, 0 ≤ Kf j ∧ Kf j ≤ 17) : Ni l D cy yL_look wsL_look 7 132 1 [.ref (ad 0), .ref o0] (List.flatten [wTop ad, wSt cy ad 1 z f, wHb ad ct, wKb cy ad nx, wSt cy ad 20 (Zh 0) (Fh 0), wSt cy ad 27 (Zh 1) (Fh 1), wSt cy ad 34 (Zh 2) (Fh 2), wSt cy ad 41 (Zh 3) (Fh 3), wSt cy ad 48 (Zh 4) (Fh 4), wSt cy ad 55 (Zh 5) (Fh 5), wEn cy ad en B Kf, wOt cy o0 O]) (fun (r : Int32) (u : (Nat → Int) × (Nat → Nat → Int32) × Int × Int × (Nat → Nat → Int) × (Nat → Nat → Nat → Int32) × Int × (Nat → Int) × (Nat → Int) × (Nat → Int64)) => (r = iI 0 ∧ ∃ v : Int32, (¬ mOver M ∧ v = iI (mSk M M.2.2.2.2.2.1 (mD M M.2.2.2.2.2.1)) ∧ RS u.1 u.2.1 (mLook M) ∧ RXH u.2.2.1 u.2.2.2.1 u.2.2.2.2.1 u.2.2.2.2.2.1 (pushH h M) ∧ ∀ j : Nat, 0 ≤ u.2.2.2.2.2.2.2.2.1 j ∧ u.2.2.2.2.2.2.2.2.1 j ≤ 17) ∧ u.2.2.2.2.2.2.2.2.2 0 = lI v.toInt) ∨ (r = iI 1 ∧ (mOver M) ∧ u.1 = z ∧ u.2.1 = f ∧ u.2.2.1 = nx ∧ u.2.2.2.1 = ct ∧ u.2.2.2.2.1 = Zh ∧ u.2.2.2.2.2.1 = Fh ∧ u.2.2.2.2.2.2.1 = en ∧ u.2.2.2.2.2.2.2.1 = B ∧ u.2.2.2.2.2.2.2.2.1 = Kf)) (fun u : (Nat → Int) × (Nat → Nat → Int32) × Int × Int × (Nat → Nat → Int) × (Nat → Nat → Nat → Int32) × Int × (Nat → Int) × (Nat → Int) × (Nat → Int64) => (List.flatten [wTop ad, wSt cy ad 1 u.1 u.2.1, wHb ad u.2.2.2.1, wKb cy ad u.2.2.1, wSt cy ad 20 (u.2.2.2.2.1 0) (u.2.2.2.2.2.1 0), wSt cy ad 27 (u.2.2.2.2.1 1) (u.2.2.2.2.2.1 1), wSt cy ad 34 (u.2.2.2.2.1 2) (u.2.2.2.2.2.1 2), wSt cy ad 41 (u.2.2.2.2.1 3) (u.2.2.2.2.2.1 3), wSt cy ad 48 (u.2.2.2.2.1 4) (u.2.2.2.2.2.1 4), wSt cy ad 55 (u.2.2.2.2.1 5) (u.2.2.2.2.2.1 5), wEn cy ad u.2.2.2.2.2.2.1 u.2.2.2.2.2.2.2.1 u.2.2.2.2.2.2.2.2.1, wOt cy o0 u.2.2.2.2.2.2.2.2.2])) := by
  refine Ni_of (cc := cL_look) (maxL := 3) (ret := (some .int)) (hh := [(0, 8, 11, 13)]) (by decide) rfl rfl ?_
  intro p e s m args below meth c A hx hb hr hts hown hlocks hml htab hP hK hD hT hC hZ hA ls hl
  have hS : va_S A s.heap s.heap [] := va_S.rf
  have hl : lv_has ls 3 [(0, .ref (ad 0)), (1, .ref o0)] := hl
  have hP : va_P D vwCl (List.flatten [wTop ad, wSt cy ad 1 z f, wHb ad ct, wKb cy ad nx, wSt cy ad 20 (Zh 0) (Fh 0), wSt cy ad 27 (Zh 1) (Fh 1), wSt cy ad 34 (Zh 2) (Fh 2), wSt cy ad 41 (Zh 3) (Fh 3), wSt cy ad 48 (Zh 4) (Fh 4), wSt cy ad 55 (Zh 5) (Fh 5), wEn cy ad en B Kf, wOt cy o0 O]) s.heap := hP
  have hD : va_D A (List.flatten [wTop ad, wSt cy ad 1 z f, wHb ad ct, wKb cy ad nx, wSt cy ad 20 (Zh 0) (Fh 0), wSt cy ad 27 (Zh 1) (Fh 1), wSt cy ad 34 (Zh 2) (Fh 2), wSt cy ad 41 (Zh 3) (Fh 3), wSt cy ad 48 (Zh 4) (Fh 4), wSt cy ad 55 (Zh 5) (Fh 5), wEn cy ad en B Kf, wOt cy o0 O]) := hD
  refine lv_aload_n hx hb dL_look_0 rfl (lv_at hl 1 rfl) ?_
  refine lv_iconst (v := iI 0) hx hb dL_look_1 rfl ?_
  refine lv_aload_n hx hb dL_look_2 rfl (lv_at hl 0 rfl) ?_
  refine h_gVi (n := 0) (b := ad 0) (As := []) (rest := [.int (iI 0), .ref o0]) ⟨hx, hb, hml, hown, hts⟩ (c_X4_look l hfl D cy ad z f M nx ct Zh Fh h en B Kf (by first | assumption | omega) (by first | assumption | omega) (by first | assumption | omega) (by first | assumption | omega)) gL_look_X4_look rfl (by decide +kernel) ⟨Nat.le_of_ble_eq_true rfl, Nat.le_of_ble_eq_true rfl⟩ hK hT hC hZ hP hS (Fp.blocks hP hD hS hA (cs := [wTop ad, wSt cy ad 1 z f, wHb ad ct, wKb cy ad nx, wSt cy ad 20 (Zh 0) (Fh 0), wSt cy ad 27 (Zh 1) (Fh 1), wSt cy ad 34 (Zh 2) (Fh 2), wSt cy ad 41 (Zh 3) (Fh 3), wSt cy ad 48 (Zh 4) (Fh 4), wSt cy ad 55 (Zh 5) (Fh 5), wEn cy ad en B Kf]) (nb := fun (u : (Nat → Int) × (Nat → Nat → Int32) × Int × Int × (Nat → Nat → Int) × (Nat → Nat → Nat → Int32) × Int × (Nat → Int) × (Nat → Int)) => [wTop ad, wSt cy ad 1 u.1 u.2.1, wHb ad u.2.2.2.1, wKb cy ad u.2.2.1, wSt cy ad 20 (u.2.2.2.2.1 0) (u.2.2.2.2.2.1 0), wSt cy ad 27 (u.2.2.2.2.1 1) (u.2.2.2.2.2.1 1), wSt cy ad 34 (u.2.2.2.2.1 2) (u.2.2.2.2.2.1 2), wSt cy ad 41 (u.2.2.2.2.1 3) (u.2.2.2.2.2.1 3), wSt cy ad 48 (u.2.2.2.2.1 4) (u.2.2.2.2.2.1 4), wSt cy ad 55 (u.2.2.2.2.1 5) (u.2.2.2.2.2.1 5), wEn cy ad u.2.2.2.2.2.2.1 u.2.2.2.2.2.2.2.1 u.2.2.2.2.2.2.2.2]) (nbs := fun (u : (Nat → Int) × (Nat → Nat → Int32) × Int × Int × (Nat → Nat → Int) × (Nat → Nat → Nat → Int32) × Int × (Nat → Int) × (Nat → Int)) => [wTop ad, wSt cy ad 1 u.1 u.2.1, wHb ad u.2.2.2.1, wKb cy ad u.2.2.1, wSt cy ad 20 (u.2.2.2.2.1 0) (u.2.2.2.2.2.1 0), wSt cy ad 27 (u.2.2.2.2.1 1) (u.2.2.2.2.2.1 1), wSt cy ad 34 (u.2.2.2.2.1 2) (u.2.2.2.2.2.1 2), wSt cy ad 41 (u.2.2.2.2.1 3) (u.2.2.2.2.2.1 3), wSt cy ad 48 (u.2.2.2.2.1 4) (u.2.2.2.2.2.1 4), wSt cy ad 55 (u.2.2.2.2.1 5) (u.2.2.2.2.2.1 5), wEn cy ad u.2.2.2.2.2.2.1 u.2.2.2.2.2.2.2.1 u.2.2.2.2.2.2.2.2, wOt cy o0 O]) [0, 1, 2, 3, 4, 5, 6, 7, 8, 9, 10] rfl rfl rfl (fun _ => rfl) (fun _ => rfl) (fun _ => rfl)) (Fp.same hP hD hS hA [0, 1, 2, 3, 4, 5, 6, 7, 8, 9, 10, 11, 12, 13, 14, 15, 16, 17, 18, 19, 20, 21, 22, 23, 24, 25, 26, 27, 28, 29, 30, 31, 32, 33, 34, 35, 36, 37, 38, 39, 40, 41, 42, 43, 44, 45, 46, 47, 48, 49, 50, 51, 52, 53, 54] rfl rfl (fun _ => rfl)) 0 4 rfl rfl rfl rfl hl.1 rfl (Nat.le_of_ble_eq_true rfl) dL_look_3 ⟨by decide, by decide⟩ (fun E ce q9 H locs hpx hP hD hS hce hcv hcl => ?_) (fun r_1 u_1 H locs hw_1 hP hD hS => ?_)
  · --
    rcases hpx with ⟨rfl, hcond⟩
    · --
      refine vx_catch (name := "java/lang/IllegalStateException") hown [] _ _ (htab.trans rfl) (by intro z hz; cases hz) (by decide) (by decide) (hts (.classLink RL 13 "java/lang/IllegalStateException") (by decide +kernel)) (va_Nw.use rfl (hC.1 xISE (List.mem_of_getElem? (i := 0) rfl))) hce hcv hcl ?_
      refine W.eq (g2 := F0 m 11 ls [.ref q9]) rfl ?_
      have hP : va_P D vwCl (List.flatten [wTop ad, wSt cy ad 1 z f, wHb ad ct, wKb cy ad nx, wSt cy ad 20 (Zh 0) (Fh 0), wSt cy ad 27 (Zh 1) (Fh 1), wSt cy ad 34 (Zh 2) (Fh 2), wSt cy ad 41 (Zh 3) (Fh 3), wSt cy ad 48 (Zh 4) (Fh 4), wSt cy ad 55 (Zh 5) (Fh 5), wEn cy ad en B Kf, wOt cy o0 O]) H := hP
      have hD : va_D A (List.flatten [wTop ad, wSt cy ad 1 z f, wHb ad ct, wKb cy ad nx, wSt cy ad 20 (Zh 0) (Fh 0), wSt cy ad 27 (Zh 1) (Fh 1), wSt cy ad 34 (Zh 2) (Fh 2), wSt cy ad 41 (Zh 3) (Fh 3), wSt cy ad 48 (Zh 4) (Fh 4), wSt cy ad 55 (Zh 5) (Fh 5), wEn cy ad en B Kf, wOt cy o0 O]) := hD
      refine lv_astore_n (lv' := [(2, .ref q9), (0, .ref (ad 0)), (1, .ref o0)]) hx hb dL_look_11 rfl hl (by decide) rfl (fun ls hl => ?_)
      refine lv_iconst (v := iI 1) hx hb dL_look_12 rfl ?_
      refine W.widen (k := 1) (n := 6 * 1) (by decide) (by decide) ?_
      exact z_iret hx hb hr hlocks hS (z, f, nx, ct, Zh, Fh, en, B, Kf, O) (show ((iI 1) = iI 0 ∧ ∃ v : Int32, (¬ mOver M ∧ v = iI (mSk M M.2.2.2.2.2.1 (mD M M.2.2.2.2.2.1)) ∧ RS z f (mLook M) ∧ RXH nx ct Zh Fh (pushH h M) ∧ ∀ j : Nat, 0 ≤ Kf j ∧ Kf j ≤ 17) ∧ O 0 = lI v.toInt) ∨ ((iI 1) = iI 1 ∧ (mOver M) ∧ z = z ∧ f = f ∧ nx = nx ∧ ct = ct ∧ Zh = Zh ∧ Fh = Fh ∧ en = en ∧ B = B ∧ Kf = Kf) from (Or.inr ⟨rfl, hcond, rfl, rfl, rfl, rfl, rfl, rfl, rfl, rfl, rfl⟩)) hP dL_look_13
  · --
    obtain ⟨z1_1, f1_1, nx1_1, ct1_1, Zh1_1, Fh1_1, en1_1, B1_1, K1_1⟩ := u_1
    have hw_1 : ¬ mOver M ∧ r_1 = iI (mSk M M.2.2.2.2.2.1 (mD M M.2.2.2.2.2.1)) ∧ RS z1_1 f1_1 (mLook M) ∧ RXH nx1_1 ct1_1 Zh1_1 Fh1_1 (pushH h M) ∧ ∀ j : Nat, 0 ≤ K1_1 j ∧ K1_1 j ≤ 17 := hw_1
    have hP : va_P D vwCl (List.flatten [wTop ad, wSt cy ad 1 z1_1 f1_1, wHb ad ct1_1, wKb cy ad nx1_1, wSt cy ad 20 (Zh1_1 0) (Fh1_1 0), wSt cy ad 27 (Zh1_1 1) (Fh1_1 1), wSt cy ad 34 (Zh1_1 2) (Fh1_1 2), wSt cy ad 41 (Zh1_1 3) (Fh1_1 3), wSt cy ad 48 (Zh1_1 4) (Fh1_1 4), wSt cy ad 55 (Zh1_1 5) (Fh1_1 5), wEn cy ad en1_1 B1_1 K1_1, wOt cy o0 O]) H := hP
    have hD : va_D A (List.flatten [wTop ad, wSt cy ad 1 z1_1 f1_1, wHb ad ct1_1, wKb cy ad nx1_1, wSt cy ad 20 (Zh1_1 0) (Fh1_1 0), wSt cy ad 27 (Zh1_1 1) (Fh1_1 1), wSt cy ad 34 (Zh1_1 2) (Fh1_1 2), wSt cy ad 41 (Zh1_1 3) (Fh1_1 3), wSt cy ad 48 (Zh1_1 4) (Fh1_1 4), wSt cy ad 55 (Zh1_1 5) (Fh1_1 5), wEn cy ad en1_1 B1_1 K1_1, wOt cy o0 O]) := hD
    refine z_i2l hx hb (r_l r_1) dL_look_6 ?_
    refine z_last hx hb hK hP hD hS 55 rfl dL_look_7 (fun H locs hP hD hS => ?_)
    have hP : va_P D vwCl (List.flatten [wTop ad, wSt cy ad 1 z1_1 f1_1, wHb ad ct1_1, wKb cy ad nx1_1, wSt cy ad 20 (Zh1_1 0) (Fh1_1 0), wSt cy ad 27 (Zh1_1 1) (Fh1_1 1), wSt cy ad 34 (Zh1_1 2) (Fh1_1 2), wSt cy ad 41 (Zh1_1 3) (Fh1_1 3), wSt cy ad 48 (Zh1_1 4) (Fh1_1 4), wSt cy ad 55 (Zh1_1 5) (Fh1_1 5), wEn cy ad en1_1 B1_1 K1_1, wOt cy o0 (vp_updL O 0 (lI r_1.toInt))]) H := hP
    have hD : va_D A (List.flatten [wTop ad, wSt cy ad 1 z1_1 f1_1, wHb ad ct1_1, wKb cy ad nx1_1, wSt cy ad 20 (Zh1_1 0) (Fh1_1 0), wSt cy ad 27 (Zh1_1 1) (Fh1_1 1), wSt cy ad 34 (Zh1_1 2) (Fh1_1 2), wSt cy ad 41 (Zh1_1 3) (Fh1_1 3), wSt cy ad 48 (Zh1_1 4) (Fh1_1 4), wSt cy ad 55 (Zh1_1 5) (Fh1_1 5), wEn cy ad en1_1 B1_1 K1_1, wOt cy o0 (vp_updL O 0 (lI r_1.toInt))]) := hD
    refine lv_goto (tgt := 14) hx hb dL_look_8 (by decide) ?_
    refine lv_iconst (v := iI 0) hx hb dL_look_14 rfl ?_
    refine W.widen (k := 1) (n := 6 * 1) (by decide) (by decide) ?_
    exact z_iret hx hb hr hlocks hS (z1_1, f1_1, nx1_1, ct1_1, Zh1_1, Fh1_1, en1_1, B1_1, K1_1, vp_updL O 0 (lI r_1.toInt)) (show ((iI 0) = iI 0 ∧ ∃ v : Int32, (¬ mOver M ∧ v = iI (mSk M M.2.2.2.2.2.1 (mD M M.2.2.2.2.2.1)) ∧ RS z1_1 f1_1 (mLook M) ∧ RXH nx1_1 ct1_1 Zh1_1 Fh1_1 (pushH h M) ∧ ∀ j : Nat, 0 ≤ K1_1 j ∧ K1_1 j ≤ 17) ∧ (vp_updL O 0 (lI r_1.toInt)) 0 = lI v.toInt) ∨ ((iI 0) = iI 1 ∧ (mOver M) ∧ z1_1 = z ∧ f1_1 = f ∧ nx1_1 = nx ∧ ct1_1 = ct ∧ Zh1_1 = Zh ∧ Fh1_1 = Fh ∧ en1_1 = en ∧ B1_1 = B ∧ K1_1 = Kf) from (Or.inl ⟨rfl, r_1, hw_1, by simp [vp_updL]⟩)) hP dL_look_15
set_option maxHeartbeats 4000000 in
set_option maxRecDepth 100000 in
theorem c_L_setLetter (l : Launch) (hfl : l.stackTraces = false) (D : va_G) (cy : Nat → ClassId) (ad : Nat → Nat) (z : Nat → Int) (f : Nat → Nat → Int32) (M : MS) (nx : Int) (ct : Int) (Zh : Nat → Nat → Int) (Fh : Nat → Nat → Nat → Int32) (h : List MS) (x : Int) (y : Int) (o0 : Nat) (O : Nat → Int64) (hR : RS z f M) (hM : MOk M) (hH : RXH nx ct Zh Fh h) (hx1 : -2147483648 ≤ x ∧ x < 2147483648) (hy1 : -2147483648 ≤ y ∧ y < 2147483648) : Ni l D cy yL_setLetter wsL_setLetter 8 136 2 [.ref (ad 0), .int (iI x), .int (iI y), .ref o0] (List.flatten [wTop ad, wSt cy ad 1 z f, wHb ad ct, wKb cy ad nx, wSt cy ad 20 (Zh 0) (Fh 0), wSt cy ad 27 (Zh 1) (Fh 1), wSt cy ad 34 (Zh 2) (Fh 2), wSt cy ad 41 (Zh 3) (Fh 3), wSt cy ad 48 (Zh 4) (Fh 4), wSt cy ad 55 (Zh 5) (Fh 5), wOt cy o0 O]) (fun (r : Int32) (u : (Nat → Int) × (Nat → Nat → Int32) × Int × Int × (Nat → Nat → Int) × (Nat → Nat → Nat → Int32) × (Nat → Int64)) => (r = iI 0 ∧ ∃ v : Int32, ((0 ≤ x ∧ x < (M.1.length : Int)) ∧ (0 ≤ y ∧ y ≤ 25) ∧ v = gl M.1 x.toNat ∧ RS u.1 u.2.1 (mSet M x.toNat (iI y)) ∧ RXH u.2.2.1 u.2.2.2.1 u.2.2.2.2.1 u.2.2.2.2.2.1 (pushH h M)) ∧ u.2.2.2.2.2.2 0 = lI v.toInt) ∨ (r = iI 1 ∧ (¬ (0 ≤ x ∧ x < (M.1.length : Int))) ∧ u.1 = z ∧ u.2.1 = f ∧ u.2.2.1 = nx ∧ u.2.2.2.1 = ct ∧ u.2.2.2.2.1 = Zh ∧ u.2.2.2.2.2.1 = Fh) ∨ (r = iI 2 ∧ ((0 ≤ x ∧ x < (M.1.length : Int)) ∧ ¬ (0 ≤ y ∧ y ≤ 25)) ∧ u.1 = z ∧ u.2.1 = f ∧ u.2.2.1 = nx ∧ u.2.2.2.1 = ct ∧ u.2.2.2.2.1 = Zh ∧ u.2.2.2.2.2.1 = Fh)) (fun u : (Nat → Int) × (Nat → Nat → Int32) × Int × Int × (Nat → Nat → Int) × (Nat → Nat → Nat → Int32) × (Nat → Int64) => (List.flatten [wTop ad, wSt cy ad 1 u.1 u.2.1, wHb ad u.2.2.2.1, wKb cy ad u.2.2.1, wSt cy ad 20 (u.2.2.2.2.1 0) (u.2.2.2.2.2.1 0), wSt cy ad 27 (u.2.2.2.2.1 1) (u.2.2.2.2.2.1 1), wSt cy ad 34 (u.2.2.2.2.1 2) (u.2.2.2.2.2.1 2), wSt cy ad 41 (u.2.2.2.2.1 3) (u.2.2.2.2.2.1 3), wSt cy ad 48 (u.2.2.2.2.1 4) (u.2.2.2.2.2.1 4), wSt cy ad 55 (u.2.2.2.2.1 5) (u.2.2.2.2.2.1 5), wOt cy o0 u.2.2.2.2.2.2])) := by
  refine Ni_of (cc := cL_setLetter) (maxL := 5) (ret := (some .int)) (hh := [(0, 10, 13, 25), (0, 10, 17, 27)]) (by decide) rfl rfl ?_
  intro p e s m args below meth c A hx hb hr hts hown hlocks hml htab hP hK hD hT hC hZ hA ls hl
  have hS : va_S A s.heap s.heap [] := va_S.rf
  have hl : lv_has ls 5 [(0, .ref (ad 0)), (1, .int (iI x)), (2, .int (iI y)), (3, .ref o0)] := hl
  have hP : va_P D vwCl (List.flatten [wTop ad, wSt cy ad 1 z f, wHb ad ct, wKb cy ad nx, wSt cy ad 20 (Zh 0) (Fh 0), wSt cy ad 27 (Zh 1) (Fh 1), wSt cy ad 34 (Zh 2) (Fh 2), wSt cy ad 41 (Zh 3) (Fh 3), wSt cy ad 48 (Zh 4) (Fh 4), wSt cy ad 55 (Zh 5) (Fh 5), wOt cy o0 O]) s.heap := hP
  have hD : va_D A (List.flatten [wTop ad, wSt cy ad 1 z f, wHb ad ct, wKb cy ad nx, wSt cy ad 20 (Zh 0) (Fh 0), wSt cy ad 27 (Zh 1) (Fh 1), wSt cy ad 34 (Zh 2) (Fh 2), wSt cy ad 41 (Zh 3) (Fh 3), wSt cy ad 48 (Zh 4) (Fh 4), wSt cy ad 55 (Zh 5) (Fh 5), wOt cy o0 O]) := hD
  refine lv_aload_n hx hb dL_setLetter_0 rfl (lv_at hl 3 rfl) ?_
  refine lv_iconst (v := iI 0) hx hb dL_setLetter_1 rfl ?_
  refine lv_aload_n hx hb dL_setLetter_2 rfl (lv_at hl 0 rfl) ?_
  refine lv_iload_n hx hb dL_setLetter_3 rfl (lv_at hl 1 rfl) ?_
  refine lv_iload_n hx hb dL_setLetter_4 rfl (lv_at hl 2 rfl) ?_
  refine h_gVi (n := 2) (b := ad 0) (As := [.int (iI x), .int (iI y)]) (rest := [.int (iI 0), .ref o0]) ⟨hx, hb, hml, hown, hts⟩ (c_X4_setLetter l hfl D cy ad z f M nx ct Zh Fh h x y (by first | assumption | omega) (by first | assumption | omega) (by first | assumption | omega) (by first | assumption | omega) (by first | assumption | omega)) gL_setLetter_X4_setLetter rfl (by decide +kernel) ⟨Nat.le_of_ble_eq_true rfl, Nat.le_of_ble_eq_true rfl⟩ hK hT hC hZ hP hS (Fp.blocks hP hD hS hA (cs := [wTop ad, wSt cy ad 1 z f, wHb ad ct, wKb cy ad nx, wSt cy ad 20 (Zh 0) (Fh 0), wSt cy ad 27 (Zh 1) (Fh 1), wSt cy ad 34 (Zh 2) (Fh 2), wSt cy ad 41 (Zh 3) (Fh 3), wSt cy ad 48 (Zh 4) (Fh 4), wSt cy ad 55 (Zh 5) (Fh 5)]) (nb := fun (u : (Nat → Int) × (Nat → Nat → Int32) × Int × Int × (Nat → Nat → Int) × (Nat → Nat → Nat → Int32)) => [wTop ad, wSt cy ad 1 u.1 u.2.1, wHb ad u.2.2.2.1, wKb cy ad u.2.2.1, wSt cy ad 20 (u.2.2.2.2.1 0) (u.2.2.2.2.2 0), wSt cy ad 27 (u.2.2.2.2.1 1) (u.2.2.2.2.2 1), wSt cy ad 34 (u.2.2.2.2.1 2) (u.2.2.2.2.2 2), wSt cy ad 41 (u.2.2.2.2.1 3) (u.2.2.2.2.2 3), wSt cy ad 48 (u.2.2.2.2.1 4) (u.2.2.2.2.2 4), wSt cy ad 55 (u.2.2.2.2.1 5) (u.2.2.2.2.2 5)]) (nbs := fun (u : (Nat → Int) × (Nat → Nat → Int32) × Int × Int × (Nat → Nat → Int) × (Nat → Nat → Nat → Int32)) => [wTop ad, wSt cy ad 1 u.1 u.2.1, wHb ad u.2.2.2.1, wKb cy ad u.2.2.1, wSt cy ad 20 (u.2.2.2.2.1 0) (u.2.2.2.2.2 0), wSt cy ad 27 (u.2.2.2.2.1 1) (u.2.2.2.2.2 1), wSt cy ad 34 (u.2.2.2.2.1 2) (u.2.2.2.2.2 2), wSt cy ad 41 (u.2.2.2.2.1 3) (u.2.2.2.2.2 3), wSt cy ad 48 (u.2.2.2.2.1 4) (u.2.2.2.2.2 4), wSt cy ad 55 (u.2.2.2.2.1 5) (u.2.2.2.2.2 5), wOt cy o0 O]) [0, 1, 2, 3, 4, 5, 6, 7, 8, 9] rfl rfl rfl (fun _ => rfl) (fun _ => rfl) (fun _ => rfl)) (Fp.same hP hD hS hA [0, 1, 2, 3, 4, 5, 6, 7, 8, 9, 10, 11, 12, 13, 14, 15, 16, 17, 18, 19, 20, 21, 22, 23, 24, 25, 26, 27, 28, 29, 30, 31, 32, 33, 34, 35, 36, 37, 38, 39, 40, 41, 42, 43, 44, 45, 46, 47, 48, 49, 50, 51] rfl rfl (fun _ => rfl)) 0 4 rfl rfl rfl rfl hl.1 rfl (Nat.le_of_ble_eq_true rfl) dL_setLetter_5 ⟨by decide, by decide⟩ (fun E ce q9 H locs hpx hP hD hS hce hcv hcl => ?_) (fun r_1 u_1 H locs hw_1 hP hD hS => ?_)
  · --
    rcases hpx with ⟨rfl, hcond⟩ | ⟨rfl, hcond⟩
    · --
      refine vx_catch (name := "java/lang/IndexOutOfBoundsException") hown [] _ _ (htab.trans rfl) (by intro z hz; cases hz) (by decide) (by decide) (hts (.classLink RL 25 "java/lang/IndexOutOfBoundsException") (by decide +kernel)) (va_Nw.use rfl (hC.1 xIOB (List.mem_of_getElem? (i := 2) rfl))) hce hcv hcl ?_
      refine W.eq (g2 := F0 m 13 ls [.ref q9]) rfl ?_
      have hP : va_P D vwCl (List.flatten [wTop ad, wSt cy ad 1 z f, wHb ad ct, wKb cy ad nx, wSt cy ad 20 (Zh 0) (Fh 0), wSt cy ad 27 (Zh 1) (Fh 1), wSt cy ad 34 (Zh 2) (Fh 2), wSt cy ad 41 (Zh 3) (Fh 3), wSt cy ad 48 (Zh 4) (Fh 4), wSt cy ad 55 (Zh 5) (Fh 5), wOt cy o0 O]) H := hP
      have hD : va_D A (List.flatten [wTop ad, wSt cy ad 1 z f, wHb ad ct, wKb cy ad nx, wSt cy ad 20 (Zh 0) (Fh 0), wSt cy ad 27 (Zh 1) (Fh 1), wSt cy ad 34 (Zh 2) (Fh 2), wSt cy ad 41 (Zh 3) (Fh 3), wSt cy ad 48 (Zh 4) (Fh 4), wSt cy ad 55 (Zh 5) (Fh 5), wOt cy o0 O]) := hD
      refine lv_astore (lv' := [(4, .ref q9), (0, .ref (ad 0)), (1, .int (iI x)), (2, .int (iI y)), (3, .ref o0)]) hx hb dL_setLetter_13 hl (by decide) rfl (fun ls hl => ?_)
      refine lv_iconst (v := iI 1) hx hb dL_setLetter_15 rfl ?_
      refine W.widen (k := 2) (n := 6 * 2) (by decide) (by decide) ?_
      exact z_iret hx hb hr hlocks hS (z, f, nx, ct, Zh, Fh, O) (show ((iI 1) = iI 0 ∧ ∃ v : Int32, ((0 ≤ x ∧ x < (M.1.length : Int)) ∧ (0 ≤ y ∧ y ≤ 25) ∧ v = gl M.1 x.toNat ∧ RS z f (mSet M x.toNat (iI y)) ∧ RXH nx ct Zh Fh (pushH h M)) ∧ O 0 = lI v.toInt) ∨ ((iI 1) = iI 1 ∧ (¬ (0 ≤ x ∧ x < (M.1.length : Int))) ∧ z = z ∧ f = f ∧ nx = nx ∧ ct = ct ∧ Zh = Zh ∧ Fh = Fh) ∨ ((iI 1) = iI 2 ∧ ((0 ≤ x ∧ x < (M.1.length : Int)) ∧ ¬ (0 ≤ y ∧ y ≤ 25)) ∧ z = z ∧ f = f ∧ nx = nx ∧ ct = ct ∧ Zh = Zh ∧ Fh = Fh) from (Or.inr (Or.inl ⟨rfl, hcond, rfl, rfl, rfl, rfl, rfl, rfl⟩))) hP dL_setLetter_16
    · --
      refine vx_catch (name := "java/lang/IllegalArgumentException") hown [_] _ _ (htab.trans rfl) (by
          intro z hz
          rcases List.mem_singleton.mp hz with rfl
          exact Or.inr ⟨by decide, "java/lang/IndexOutOfBoundsException", hts (.classLink RL 25 "java/lang/IndexOutOfBoundsException") (by decide +kernel), hC.2.1⟩) (by decide) (by decide) (hts (.classLink RL 27 "java/lang/IllegalArgumentException") (by decide +kernel)) (va_Nw.use rfl (hC.1 xIAE (List.mem_of_getElem? (i := 1) rfl))) hce hcv hcl ?_
      refine W.eq (g2 := F0 m 17 ls [.ref q9]) rfl ?_
      have hP : va_P D vwCl (List.flatten [wTop ad, wSt cy ad 1 z f, wHb ad ct, wKb cy ad nx, wSt cy ad 20 (Zh 0) (Fh 0), wSt cy ad 27 (Zh 1) (Fh 1), wSt cy ad 34 (Zh 2) (Fh 2), wSt cy ad 41 (Zh 3) (Fh 3), wSt cy ad 48 (Zh 4) (Fh 4), wSt cy ad 55 (Zh 5) (Fh 5), wOt cy o0 O]) H := hP
      have hD : va_D A (List.flatten [wTop ad, wSt cy ad 1 z f, wHb ad ct, wKb cy ad nx, wSt cy ad 20 (Zh 0) (Fh 0), wSt cy ad 27 (Zh 1) (Fh 1), wSt cy ad 34 (Zh 2) (Fh 2), wSt cy ad 41 (Zh 3) (Fh 3), wSt cy ad 48 (Zh 4) (Fh 4), wSt cy ad 55 (Zh 5) (Fh 5), wOt cy o0 O]) := hD
      refine lv_astore (lv' := [(4, .ref q9), (0, .ref (ad 0)), (1, .int (iI x)), (2, .int (iI y)), (3, .ref o0)]) hx hb dL_setLetter_17 hl (by decide) rfl (fun ls hl => ?_)
      refine lv_iconst (v := iI 2) hx hb dL_setLetter_19 rfl ?_
      refine W.widen (k := 2) (n := 6 * 2) (by decide) (by decide) ?_
      exact z_iret hx hb hr hlocks hS (z, f, nx, ct, Zh, Fh, O) (show ((iI 2) = iI 0 ∧ ∃ v : Int32, ((0 ≤ x ∧ x < (M.1.length : Int)) ∧ (0 ≤ y ∧ y ≤ 25) ∧ v = gl M.1 x.toNat ∧ RS z f (mSet M x.toNat (iI y)) ∧ RXH nx ct Zh Fh (pushH h M)) ∧ O 0 = lI v.toInt) ∨ ((iI 2) = iI 1 ∧ (¬ (0 ≤ x ∧ x < (M.1.length : Int))) ∧ z = z ∧ f = f ∧ nx = nx ∧ ct = ct ∧ Zh = Zh ∧ Fh = Fh) ∨ ((iI 2) = iI 2 ∧ ((0 ≤ x ∧ x < (M.1.length : Int)) ∧ ¬ (0 ≤ y ∧ y ≤ 25)) ∧ z = z ∧ f = f ∧ nx = nx ∧ ct = ct ∧ Zh = Zh ∧ Fh = Fh) from (Or.inr (Or.inr ⟨rfl, hcond, rfl, rfl, rfl, rfl, rfl, rfl⟩))) hP dL_setLetter_20
  · --
    obtain ⟨z1_1, f1_1, nx1_1, ct1_1, Zh1_1, Fh1_1⟩ := u_1
    have hw_1 : (0 ≤ x ∧ x < (M.1.length : Int)) ∧ (0 ≤ y ∧ y ≤ 25) ∧ r_1 = gl M.1 x.toNat ∧ RS z1_1 f1_1 (mSet M x.toNat (iI y)) ∧ RXH nx1_1 ct1_1 Zh1_1 Fh1_1 (pushH h M) := hw_1
    have hP : va_P D vwCl (List.flatten [wTop ad, wSt cy ad 1 z1_1 f1_1, wHb ad ct1_1, wKb cy ad nx1_1, wSt cy ad 20 (Zh1_1 0) (Fh1_1 0), wSt cy ad 27 (Zh1_1 1) (Fh1_1 1), wSt cy ad 34 (Zh1_1 2) (Fh1_1 2), wSt cy ad 41 (Zh1_1 3) (Fh1_1 3), wSt cy ad 48 (Zh1_1 4) (Fh1_1 4), wSt cy ad 55 (Zh1_1 5) (Fh1_1 5), wOt cy o0 O]) H := hP
    have hD : va_D A (List.flatten [wTop ad, wSt cy ad 1 z1_1 f1_1, wHb ad ct1_1, wKb cy ad nx1_1, wSt cy ad 20 (Zh1_1 0) (Fh1_1 0), wSt cy ad 27 (Zh1_1 1) (Fh1_1 1), wSt cy ad 34 (Zh1_1 2) (Fh1_1 2), wSt cy ad 41 (Zh1_1 3) (Fh1_1 3), wSt cy ad 48 (Zh1_1 4) (Fh1_1 4), wSt cy ad 55 (Zh1_1 5) (Fh1_1 5), wOt cy o0 O]) := hD
    refine z_i2l hx hb (r_l r_1) dL_setLetter_8 ?_
    refine z_last hx hb hK hP hD hS 52 rfl dL_setLetter_9 (fun H locs hP hD hS => ?_)
    have hP : va_P D vwCl (List.flatten [wTop ad, wSt cy ad 1 z1_1 f1_1, wHb ad ct1_1, wKb cy ad nx1_1, wSt cy ad 20 (Zh1_1 0) (Fh1_1 0), wSt cy ad 27 (Zh1_1 1) (Fh1_1 1), wSt cy ad 34 (Zh1_1 2) (Fh1_1 2), wSt cy ad 41 (Zh1_1 3) (Fh1_1 3), wSt cy ad 48 (Zh1_1 4) (Fh1_1 4), wSt cy ad 55 (Zh1_1 5) (Fh1_1 5), wOt cy o0 (vp_updL O 0 (lI r_1.toInt))]) H := hP
    have hD : va_D A (List.flatten [wTop ad, wSt cy ad 1 z1_1 f1_1, wHb ad ct1_1, wKb cy ad nx1_1, wSt cy ad 20 (Zh1_1 0) (Fh1_1 0), wSt cy ad 27 (Zh1_1 1) (Fh1_1 1), wSt cy ad 34 (Zh1_1 2) (Fh1_1 2), wSt cy ad 41 (Zh1_1 3) (Fh1_1 3), wSt cy ad 48 (Zh1_1 4) (Fh1_1 4), wSt cy ad 55 (Zh1_1 5) (Fh1_1 5), wOt cy o0 (vp_updL O 0 (lI r_1.toInt))]) := hD
    refine lv_goto (tgt := 21) hx hb dL_setLetter_10 (by decide) ?_
    refine lv_iconst (v := iI 0) hx hb dL_setLetter_21 rfl ?_
    refine W.widen (k := 2) (n := 6 * 2) (by decide) (by decide) ?_
    exact z_iret hx hb hr hlocks hS (z1_1, f1_1, nx1_1, ct1_1, Zh1_1, Fh1_1, vp_updL O 0 (lI r_1.toInt)) (show ((iI 0) = iI 0 ∧ ∃ v : Int32, ((0 ≤ x ∧ x < (M.1.length : Int)) ∧ (0 ≤ y ∧ y ≤ 25) ∧ v = gl M.1 x.toNat ∧ RS z1_1 f1_1 (mSet M x.toNat (iI y)) ∧ RXH nx1_1 ct1_1 Zh1_1 Fh1_1 (pushH h M)) ∧ (vp_updL O 0 (lI r_1.toInt)) 0 = lI v.toInt) ∨ ((iI 0) = iI 1 ∧ (¬ (0 ≤ x ∧ x < (M.1.length : Int))) ∧ z1_1 = z ∧ f1_1 = f ∧ nx1_1 = nx ∧ ct1_1 = ct ∧ Zh1_1 = Zh ∧ Fh1_1 = Fh) ∨ ((iI 0) = iI 2 ∧ ((0 ≤ x ∧ x < (M.1.length : Int)) ∧ ¬ (0 ≤ y ∧ y ≤ 25)) ∧ z1_1 = z ∧ f1_1 = f ∧ nx1_1 = nx ∧ ct1_1 = ct ∧ Zh1_1 = Zh ∧ Fh1_1 = Fh) from (Or.inl ⟨rfl, r_1, hw_1, by simp [vp_updL]⟩)) hP dL_setLetter_22
set_option maxHeartbeats 4000000 in
set_option maxRecDepth 100000 in
theorem c_L_lineLetter (l : Launch) (hfl : l.stackTraces = false) (D : va_G) (cy : Nat → ClassId) (ad : Nat → Nat) (z : Nat → Int) (f : Nat → Nat → Int32) (M : MS) (x : Int) (o0 : Nat) (O : Nat → Int64) (hR : RS z f M) (hM : MOk M) (hx1 : -2147483648 ≤ x ∧ x < 2147483648) : Ni l D cy yL_lineLetter wsL_lineLetter 8 134 1 [.ref (ad 0), .int (iI x), .ref o0] (List.flatten [wTop ad, wSt cy ad 1 z f, wOt cy o0 O]) (fun (r : Int32) (u : (Nat → Int64)) => (r = iI 0 ∧ ∃ v : Int32, ((0 ≤ x ∧ x < (M.1.length : Int)) ∧ v = gl M.1 x.toNat) ∧ u 0 = lI v.toInt) ∨ (r = iI 1 ∧ (¬ (0 ≤ x ∧ x < (M.1.length : Int))))) (fun u : (Nat → Int64) => (List.flatten [wTop ad, wSt cy ad 1 z f, wOt cy o0 u])) := by
  refine Ni_of (cc := cL_lineLetter) (maxL := 4) (ret := (some .int)) (hh := [(0, 9, 12, 25)]) (by decide) rfl rfl ?_
  intro p e s m args below meth c A hx hb hr hts hown hlocks hml htab hP hK hD hT hC hZ hA ls hl
  have hS : va_S A s.heap s.heap [] := va_S.rf
  have hl : lv_has ls 4 [(0, .ref (ad 0)), (1, .int (iI x)), (2, .ref o0)] := hl
  have hP : va_P D vwCl (List.flatten [wTop ad, wSt cy ad 1 z f, wOt cy o0 O]) s.heap := hP
  have hD : va_D A (List.flatten [wTop ad, wSt cy ad 1 z f, wOt cy o0 O]) := hD
  refine lv_aload_n hx hb dL_lineLetter_0 rfl (lv_at hl 2 rfl) ?_
  refine lv_iconst (v := iI 0) hx hb dL_lineLetter_1 rfl ?_
  refine lv_aload_n hx hb dL_lineLetter_2 rfl (lv_at hl 0 rfl) ?_
  refine lv_iload_n hx hb dL_lineLetter_3 rfl (lv_at hl 1 rfl) ?_
  refine h_gVi (n := 1) (b := ad 0) (As := [.int (iI x)]) (rest := [.int (iI 0), .ref o0]) ⟨hx, hb, hml, hown, hts⟩ (c_X4_lineLetter l hfl D cy ad z f M x (by first | assumption | omega) (by first | assumption | omega) (by first | assumption | omega)) gL_lineLetter_X4_lineLetter rfl (by decide +kernel) ⟨Nat.le_of_ble_eq_true rfl, Nat.le_of_ble_eq_true rfl⟩ hK hT hC hZ hP hS (Fp.same hP hD hS hA [0, 1, 2, 3, 4, 5, 6, 7] rfl rfl (fun _ => rfl)) (Fp.same hP hD hS hA [0, 1, 2, 3, 4, 5, 6, 7] rfl rfl (fun _ => rfl)) 0 4 rfl rfl rfl rfl hl.1 rfl (Nat.le_of_ble_eq_true rfl) dL_lineLetter_4 ⟨by decide, by decide⟩ (fun E ce q9 H locs hpx hP hD hS hce hcv hcl => ?_) (fun r_1 u_1 H locs hw_1 hP hD hS => ?_)
  · --
    rcases hpx with ⟨rfl, hcond⟩
    · --
      refine vx_catch (name := "java/lang/IndexOutOfBoundsException") hown [] _ _ (htab.trans rfl) (by intro z hz; cases hz) (by decide) (by decide) (hts (.classLink RL 25 "java/lang/IndexOutOfBoundsException") (by decide +kernel)) (va_Nw.use rfl (hC.1 xIOB (List.mem_of_getElem? (i := 2) rfl))) hce hcv hcl ?_
      refine W.eq (g2 := F0 m 12 ls [.ref q9]) rfl ?_
      have hP : va_P D vwCl (List.flatten [wTop ad, wSt cy ad 1 z f, wOt cy o0 O]) H := hP
      have hD : va_D A (List.flatten [wTop ad, wSt cy ad 1 z f, wOt cy o0 O]) := hD
      refine lv_astore_n (lv' := [(3, .ref q9), (0, .ref (ad 0)), (1, .int (iI x)), (2, .ref o0)]) hx hb dL_lineLetter_12 rfl hl (by decide) rfl (fun ls hl => ?_)
      refine lv_iconst (v := iI 1) hx hb dL_lineLetter_13 rfl ?_
      refine W.widen (k := 1) (n := 6 * 1) (by decide) (by decide) ?_
      exact z_iret hx hb hr hlocks hS (O) (show ((iI 1) = iI 0 ∧ ∃ v : Int32, ((0 ≤ x ∧ x < (M.1.length : Int)) ∧ v = gl M.1 x.toNat) ∧ O 0 = lI v.toInt) ∨ ((iI 1) = iI 1 ∧ (¬ (0 ≤ x ∧ x < (M.1.length : Int)))) from (Or.inr ⟨rfl, hcond⟩)) hP dL_lineLetter_14
  · --
    have hw_1 : (0 ≤ x ∧ x < (M.1.length : Int)) ∧ r_1 = gl M.1 x.toNat := hw_1
    have hP : va_P D vwCl (List.flatten [wTop ad, wSt cy ad 1 z f, wOt cy o0 O]) H := hP
    have hD : va_D A (List.flatten [wTop ad, wSt cy ad 1 z f, wOt cy o0 O]) := hD
    refine z_i2l hx hb (r_l r_1) dL_lineLetter_7 ?_
    refine z_last hx hb hK hP hD hS 8 rfl dL_lineLetter_8 (fun H locs hP hD hS => ?_)
    have hP : va_P D vwCl (List.flatten [wTop ad, wSt cy ad 1 z f, wOt cy o0 (vp_updL O 0 (lI r_1.toInt))]) H := hP
    have hD : va_D A (List.flatten [wTop ad, wSt cy ad 1 z f, wOt cy o0 (vp_updL O 0 (lI r_1.toInt))]) := hD
    refine lv_goto (tgt := 15) hx hb dL_lineLetter_9 (by decide) ?_
    refine lv_iconst (v := iI 0) hx hb dL_lineLetter_15 rfl ?_
    refine W.widen (k := 1) (n := 6 * 1) (by decide) (by decide) ?_
    exact z_iret hx hb hr hlocks hS (vp_updL O 0 (lI r_1.toInt)) (show ((iI 0) = iI 0 ∧ ∃ v : Int32, ((0 ≤ x ∧ x < (M.1.length : Int)) ∧ v = gl M.1 x.toNat) ∧ (vp_updL O 0 (lI r_1.toInt)) 0 = lI v.toInt) ∨ ((iI 0) = iI 1 ∧ (¬ (0 ≤ x ∧ x < (M.1.length : Int)))) from (Or.inl ⟨rfl, r_1, hw_1, by simp [vp_updL]⟩)) hP dL_lineLetter_16
set_option maxHeartbeats 4000000 in
set_option maxRecDepth 100000 in
theorem c_L_wordLetter (l : Launch) (hfl : l.stackTraces = false) (D : va_G) (cy : Nat → ClassId) (ad : Nat → Nat) (z : Nat → Int) (f : Nat → Nat → Int32) (M : MS) (x : Int) (o0 : Nat) (O : Nat → Int64) (hR : RS z f M) (hM : MOk M) (hx1 : -2147483648 ≤ x ∧ x < 2147483648) : Ni l D cy yL_wordLetter wsL_wordLetter 8 134 1 [.ref (ad 0), .int (iI x), .ref o0] (List.flatten [wTop ad, wSt cy ad 1 z f, wOt cy o0 O]) (fun (r : Int32) (u : (Nat → Int64)) => (r = iI 0 ∧ ∃ v : Int32, ((0 ≤ x ∧ x < (M.2.1.length : Int)) ∧ v = gl M.2.1 x.toNat) ∧ u 0 = lI v.toInt) ∨ (r = iI 1 ∧ (¬ (0 ≤ x ∧ x < (M.2.1.length : Int))))) (fun u : (Nat → Int64) => (List.flatten [wTop ad, wSt cy ad 1 z f, wOt cy o0 u])) := by
  refine Ni_of (cc := cL_wordLetter) (maxL := 4) (ret := (some .int)) (hh := [(0, 9, 12, 25)]) (by decide) rfl rfl ?_
  intro p e s m args below meth c A hx hb hr hts hown hlocks hml htab hP hK hD hT hC hZ hA ls hl
  have hS : va_S A s.heap s.heap [] := va_S.rf
  have hl : lv_has ls 4 [(0, .ref (ad 0)), (1, .int (iI x)), (2, .ref o0)] := hl
  have hP : va_P D vwCl (List.flatten [wTop ad, wSt cy ad 1 z f, wOt cy o0 O]) s.heap := hP
  have hD : va_D A (List.flatten [wTop ad, wSt cy ad 1 z f, wOt cy o0 O]) := hD
  refine lv_aload_n hx hb dL_wordLetter_0 rfl (lv_at hl 2 rfl) ?_
  refine lv_iconst (v := iI 0) hx hb dL_wordLetter_1 rfl ?_
  refine lv_aload_n hx hb dL_wordLetter_2 rfl (lv_at hl 0 rfl) ?_
  refine lv_iload_n hx hb dL_wordLetter_3 rfl (lv_at hl 1 rfl) ?_
  refine h_gVi (n := 1) (b := ad 0) (As := [.int (iI x)]) (rest := [.int (iI 0), .ref o0]) ⟨hx, hb, hml, hown, hts⟩ (c_X4_wordLetter l hfl D cy ad z f M x (by first | assumption | omega) (by first | assumption | omega) (by first | assumption | omega)) gL_wordLetter_X4_wordLetter rfl (by decide +kernel) ⟨Nat.le_of_ble_eq_true rfl, Nat.le_of_ble_eq_true rfl⟩ hK hT hC hZ hP hS (Fp.same hP hD hS hA [0, 1, 2, 3, 4, 5, 6, 7] rfl rfl (fun _ => rfl)) (Fp.same hP hD hS hA [0, 1, 2, 3, 4, 5, 6, 7] rfl rfl (fun _ => rfl)) 0 4 rfl rfl rfl rfl hl.1 rfl (Nat.le_of_ble_eq_true rfl) dL_wordLetter_4 ⟨by decide, by decide⟩ (fun E ce q9 H locs hpx hP hD hS hce hcv hcl => ?_) (fun r_1 u_1 H locs hw_1 hP hD hS => ?_)
  · --
    rcases hpx with ⟨rfl, hcond⟩
    · --
      refine vx_catch (name := "java/lang/IndexOutOfBoundsException") hown [] _ _ (htab.trans rfl) (by intro z hz; cases hz) (by decide) (by decide) (hts (.classLink RL 25 "java/lang/IndexOutOfBoundsException") (by decide +kernel)) (va_Nw.use rfl (hC.1 xIOB (List.mem_of_getElem? (i := 2) rfl))) hce hcv hcl ?_
      refine W.eq (g2 := F0 m 12 ls [.ref q9]) rfl ?_
      have hP : va_P D vwCl (List.flatten [wTop ad, wSt cy ad 1 z f, wOt cy o0 O]) H := hP
      have hD : va_D A (List.flatten [wTop ad, wSt cy ad 1 z f, wOt cy o0 O]) := hD
      refine lv_astore_n (lv' := [(3, .ref q9), (0, .ref (ad 0)), (1, .int (iI x)), (2, .ref o0)]) hx hb dL_wordLetter_12 rfl hl (by decide) rfl (fun ls hl => ?_)
      refine lv_iconst (v := iI 1) hx hb dL_wordLetter_13 rfl ?_
      refine W.widen (k := 1) (n := 6 * 1) (by decide) (by decide) ?_
      exact z_iret hx hb hr hlocks hS (O) (show ((iI 1) = iI 0 ∧ ∃ v : Int32, ((0 ≤ x ∧ x < (M.2.1.length : Int)) ∧ v = gl M.2.1 x.toNat) ∧ O 0 = lI v.toInt) ∨ ((iI 1) = iI 1 ∧ (¬ (0 ≤ x ∧ x < (M.2.1.length : Int)))) from (Or.inr ⟨rfl, hcond⟩)) hP dL_wordLetter_14
  · --
    have hw_1 : (0 ≤ x ∧ x < (M.2.1.length : Int)) ∧ r_1 = gl M.2.1 x.toNat := hw_1
    have hP : va_P D vwCl (List.flatten [wTop ad, wSt cy ad 1 z f, wOt cy o0 O]) H := hP
    have hD : va_D A (List.flatten [wTop ad, wSt cy ad 1 z f, wOt cy o0 O]) := hD
    refine z_i2l hx hb (r_l r_1) dL_wordLetter_7 ?_
    refine z_last hx hb hK hP hD hS 8 rfl dL_wordLetter_8 (fun H locs hP hD hS => ?_)
    have hP : va_P D vwCl (List.flatten [wTop ad, wSt cy ad 1 z f, wOt cy o0 (vp_updL O 0 (lI r_1.toInt))]) H := hP
    have hD : va_D A (List.flatten [wTop ad, wSt cy ad 1 z f, wOt cy o0 (vp_updL O 0 (lI r_1.toInt))]) := hD
    refine lv_goto (tgt := 15) hx hb dL_wordLetter_9 (by decide) ?_
    refine lv_iconst (v := iI 0) hx hb dL_wordLetter_15 rfl ?_
    refine W.widen (k := 1) (n := 6 * 1) (by decide) (by decide) ?_
    exact z_iret hx hb hr hlocks hS (vp_updL O 0 (lI r_1.toInt)) (show ((iI 0) = iI 0 ∧ ∃ v : Int32, ((0 ≤ x ∧ x < (M.2.1.length : Int)) ∧ v = gl M.2.1 x.toNat) ∧ (vp_updL O 0 (lI r_1.toInt)) 0 = lI v.toInt) ∨ ((iI 0) = iI 1 ∧ (¬ (0 ≤ x ∧ x < (M.2.1.length : Int)))) from (Or.inl ⟨rfl, r_1, hw_1, by simp [vp_updL]⟩)) hP dL_wordLetter_16
set_option maxHeartbeats 4000000 in
set_option maxRecDepth 100000 in
theorem c_L_foundPlace (l : Launch) (hfl : l.stackTraces = false) (D : va_G) (cy : Nat → ClassId) (ad : Nat → Nat) (z : Nat → Int) (f : Nat → Nat → Int32) (M : MS) (x : Int) (o0 : Nat) (O : Nat → Int64) (hR : RS z f M) (hM : MOk M) (hx1 : -2147483648 ≤ x ∧ x < 2147483648) : Ni l D cy yL_foundPlace wsL_foundPlace 8 134 1 [.ref (ad 0), .int (iI x), .ref o0] (List.flatten [wTop ad, wSt cy ad 1 z f, wOt cy o0 O]) (fun (r : Int32) (u : (Nat → Int64)) => (r = iI 0 ∧ ∃ v : Int32, ((0 ≤ x ∧ x < (M.2.2.1.length : Int)) ∧ v = gl M.2.2.1 x.toNat) ∧ u 0 = lI v.toInt) ∨ (r = iI 1 ∧ (¬ (0 ≤ x ∧ x < (M.2.2.1.length : Int))))) (fun u : (Nat → Int64) => (List.flatten [wTop ad, wSt cy ad 1 z f, wOt cy o0 u])) := by
  refine Ni_of (cc := cL_foundPlace) (maxL := 4) (ret := (some .int)) (hh := [(0, 9, 12, 25)]) (by decide) rfl rfl ?_
  intro p e s m args below meth c A hx hb hr hts hown hlocks hml htab hP hK hD hT hC hZ hA ls hl
  have hS : va_S A s.heap s.heap [] := va_S.rf
  have hl : lv_has ls 4 [(0, .ref (ad 0)), (1, .int (iI x)), (2, .ref o0)] := hl
  have hP : va_P D vwCl (List.flatten [wTop ad, wSt cy ad 1 z f, wOt cy o0 O]) s.heap := hP
  have hD : va_D A (List.flatten [wTop ad, wSt cy ad 1 z f, wOt cy o0 O]) := hD
  refine lv_aload_n hx hb dL_foundPlace_0 rfl (lv_at hl 2 rfl) ?_
  refine lv_iconst (v := iI 0) hx hb dL_foundPlace_1 rfl ?_
  refine lv_aload_n hx hb dL_foundPlace_2 rfl (lv_at hl 0 rfl) ?_
  refine lv_iload_n hx hb dL_foundPlace_3 rfl (lv_at hl 1 rfl) ?_
  refine h_gVi (n := 1) (b := ad 0) (As := [.int (iI x)]) (rest := [.int (iI 0), .ref o0]) ⟨hx, hb, hml, hown, hts⟩ (c_X4_foundPlace l hfl D cy ad z f M x (by first | assumption | omega) (by first | assumption | omega) (by first | assumption | omega)) gL_foundPlace_X4_foundPlace rfl (by decide +kernel) ⟨Nat.le_of_ble_eq_true rfl, Nat.le_of_ble_eq_true rfl⟩ hK hT hC hZ hP hS (Fp.same hP hD hS hA [0, 1, 2, 3, 4, 5, 6, 7] rfl rfl (fun _ => rfl)) (Fp.same hP hD hS hA [0, 1, 2, 3, 4, 5, 6, 7] rfl rfl (fun _ => rfl)) 0 4 rfl rfl rfl rfl hl.1 rfl (Nat.le_of_ble_eq_true rfl) dL_foundPlace_4 ⟨by decide, by decide⟩ (fun E ce q9 H locs hpx hP hD hS hce hcv hcl => ?_) (fun r_1 u_1 H locs hw_1 hP hD hS => ?_)
  · --
    rcases hpx with ⟨rfl, hcond⟩
    · --
      refine vx_catch (name := "java/lang/IndexOutOfBoundsException") hown [] _ _ (htab.trans rfl) (by intro z hz; cases hz) (by decide) (by decide) (hts (.classLink RL 25 "java/lang/IndexOutOfBoundsException") (by decide +kernel)) (va_Nw.use rfl (hC.1 xIOB (List.mem_of_getElem? (i := 2) rfl))) hce hcv hcl ?_
      refine W.eq (g2 := F0 m 12 ls [.ref q9]) rfl ?_
      have hP : va_P D vwCl (List.flatten [wTop ad, wSt cy ad 1 z f, wOt cy o0 O]) H := hP
      have hD : va_D A (List.flatten [wTop ad, wSt cy ad 1 z f, wOt cy o0 O]) := hD
      refine lv_astore_n (lv' := [(3, .ref q9), (0, .ref (ad 0)), (1, .int (iI x)), (2, .ref o0)]) hx hb dL_foundPlace_12 rfl hl (by decide) rfl (fun ls hl => ?_)
      refine lv_iconst (v := iI 1) hx hb dL_foundPlace_13 rfl ?_
      refine W.widen (k := 1) (n := 6 * 1) (by decide) (by decide) ?_
      exact z_iret hx hb hr hlocks hS (O) (show ((iI 1) = iI 0 ∧ ∃ v : Int32, ((0 ≤ x ∧ x < (M.2.2.1.length : Int)) ∧ v = gl M.2.2.1 x.toNat) ∧ O 0 = lI v.toInt) ∨ ((iI 1) = iI 1 ∧ (¬ (0 ≤ x ∧ x < (M.2.2.1.length : Int)))) from (Or.inr ⟨rfl, hcond⟩)) hP dL_foundPlace_14
  · --
    have hw_1 : (0 ≤ x ∧ x < (M.2.2.1.length : Int)) ∧ r_1 = gl M.2.2.1 x.toNat := hw_1
    have hP : va_P D vwCl (List.flatten [wTop ad, wSt cy ad 1 z f, wOt cy o0 O]) H := hP
    have hD : va_D A (List.flatten [wTop ad, wSt cy ad 1 z f, wOt cy o0 O]) := hD
    refine z_i2l hx hb (r_l r_1) dL_foundPlace_7 ?_
    refine z_last hx hb hK hP hD hS 8 rfl dL_foundPlace_8 (fun H locs hP hD hS => ?_)
    have hP : va_P D vwCl (List.flatten [wTop ad, wSt cy ad 1 z f, wOt cy o0 (vp_updL O 0 (lI r_1.toInt))]) H := hP
    have hD : va_D A (List.flatten [wTop ad, wSt cy ad 1 z f, wOt cy o0 (vp_updL O 0 (lI r_1.toInt))]) := hD
    refine lv_goto (tgt := 15) hx hb dL_foundPlace_9 (by decide) ?_
    refine lv_iconst (v := iI 0) hx hb dL_foundPlace_15 rfl ?_
    refine W.widen (k := 1) (n := 6 * 1) (by decide) (by decide) ?_
    exact z_iret hx hb hr hlocks hS (vp_updL O 0 (lI r_1.toInt)) (show ((iI 0) = iI 0 ∧ ∃ v : Int32, ((0 ≤ x ∧ x < (M.2.2.1.length : Int)) ∧ v = gl M.2.2.1 x.toNat) ∧ (vp_updL O 0 (lI r_1.toInt)) 0 = lI v.toInt) ∨ ((iI 0) = iI 1 ∧ (¬ (0 ≤ x ∧ x < (M.2.2.1.length : Int)))) from (Or.inl ⟨rfl, r_1, hw_1, by simp [vp_updL]⟩)) hP dL_foundPlace_16
set_option maxHeartbeats 4000000 in
set_option maxRecDepth 100000 in
theorem c_L_lastPlaceOf (l : Launch) (hfl : l.stackTraces = false) (D : va_G) (cy : Nat → ClassId) (ad : Nat → Nat) (z : Nat → Int) (f : Nat → Nat → Int32) (M : MS) (x : Int) (o0 : Nat) (O : Nat → Int64) (hR : RS z f M) (hM : MOk M) (hx1 : -2147483648 ≤ x ∧ x < 2147483648) : Ni l D cy yL_lastPlaceOf wsL_lastPlaceOf 8 133 1 [.ref (ad 0), .int (iI x), .ref o0] (List.flatten [wTop ad, wSt cy ad 1 z f, wOt cy o0 O]) (fun (r : Int32) (u : (Nat → Int64)) => (r = iI 0 ∧ ∃ v : Int32, ((0 ≤ x ∧ x ≤ 25) ∧ v = iI (lastF M.2.1.length (gl M.2.1) (iI x))) ∧ u 0 = lI v.toInt) ∨ (r = iI 1 ∧ (¬ (0 ≤ x ∧ x ≤ 25)))) (fun u : (Nat → Int64) => (List.flatten [wTop ad, wSt cy ad 1 z f, wOt cy o0 u])) := by
  refine Ni_of (cc := cL_lastPlaceOf) (maxL := 4) (ret := (some .int)) (hh := [(0, 9, 12, 27)]) (by decide) rfl rfl ?_
  intro p e s m args below meth c A hx hb hr hts hown hlocks hml htab hP hK hD hT hC hZ hA ls hl
  have hS : va_S A s.heap s.heap [] := va_S.rf
  have hl : lv_has ls 4 [(0, .ref (ad 0)), (1, .int (iI x)), (2, .ref o0)] := hl
  have hP : va_P D vwCl (List.flatten [wTop ad, wSt cy ad 1 z f, wOt cy o0 O]) s.heap := hP
  have hD : va_D A (List.flatten [wTop ad, wSt cy ad 1 z f, wOt cy o0 O]) := hD
  refine lv_aload_n hx hb dL_lastPlaceOf_0 rfl (lv_at hl 2 rfl) ?_
  refine lv_iconst (v := iI 0) hx hb dL_lastPlaceOf_1 rfl ?_
  refine lv_aload_n hx hb dL_lastPlaceOf_2 rfl (lv_at hl 0 rfl) ?_
  refine lv_iload_n hx hb dL_lastPlaceOf_3 rfl (lv_at hl 1 rfl) ?_
  refine h_gVi (n := 1) (b := ad 0) (As := [.int (iI x)]) (rest := [.int (iI 0), .ref o0]) ⟨hx, hb, hml, hown, hts⟩ (c_X4_lastPlaceOf l hfl D cy ad z f M x (by first | assumption | omega) (by first | assumption | omega) (by first | assumption | omega)) gL_lastPlaceOf_X4_lastPlaceOf rfl (by decide +kernel) ⟨Nat.le_of_ble_eq_true rfl, Nat.le_of_ble_eq_true rfl⟩ hK hT hC hZ hP hS (Fp.same hP hD hS hA [0, 1, 2, 3, 4, 5, 6, 7] rfl rfl (fun _ => rfl)) (Fp.same hP hD hS hA [0, 1, 2, 3, 4, 5, 6, 7] rfl rfl (fun _ => rfl)) 0 4 rfl rfl rfl rfl hl.1 rfl (Nat.le_of_ble_eq_true rfl) dL_lastPlaceOf_4 ⟨by decide, by decide⟩ (fun E ce q9 H locs hpx hP hD hS hce hcv hcl => ?_) (fun r_1 u_1 H locs hw_1 hP hD hS => ?_)
  · --
    rcases hpx with ⟨rfl, hcond⟩
    · --
      refine vx_catch (name := "java/lang/IllegalArgumentException") hown [] _ _ (htab.trans rfl) (by intro z hz; cases hz) (by decide) (by decide) (hts (.classLink RL 27 "java/lang/IllegalArgumentException") (by decide +kernel)) (va_Nw.use rfl (hC.1 xIAE (List.mem_of_getElem? (i := 1) rfl))) hce hcv hcl ?_
      refine W.eq (g2 := F0 m 12 ls [.ref q9]) rfl ?_
      have hP : va_P D vwCl (List.flatten [wTop ad, wSt cy ad 1 z f, wOt cy o0 O]) H := hP
      have hD : va_D A (List.flatten [wTop ad, wSt cy ad 1 z f, wOt cy o0 O]) := hD
      refine lv_astore_n (lv' := [(3, .ref q9), (0, .ref (ad 0)), (1, .int (iI x)), (2, .ref o0)]) hx hb dL_lastPlaceOf_12 rfl hl (by decide) rfl (fun ls hl => ?_)
      refine lv_iconst (v := iI 1) hx hb dL_lastPlaceOf_13 rfl ?_
      refine W.widen (k := 1) (n := 6 * 1) (by decide) (by decide) ?_
      exact z_iret hx hb hr hlocks hS (O) (show ((iI 1) = iI 0 ∧ ∃ v : Int32, ((0 ≤ x ∧ x ≤ 25) ∧ v = iI (lastF M.2.1.length (gl M.2.1) (iI x))) ∧ O 0 = lI v.toInt) ∨ ((iI 1) = iI 1 ∧ (¬ (0 ≤ x ∧ x ≤ 25))) from (Or.inr ⟨rfl, hcond⟩)) hP dL_lastPlaceOf_14
  · --
    have hw_1 : (0 ≤ x ∧ x ≤ 25) ∧ r_1 = iI (lastF M.2.1.length (gl M.2.1) (iI x)) := hw_1
    have hP : va_P D vwCl (List.flatten [wTop ad, wSt cy ad 1 z f, wOt cy o0 O]) H := hP
    have hD : va_D A (List.flatten [wTop ad, wSt cy ad 1 z f, wOt cy o0 O]) := hD
    refine z_i2l hx hb (r_l r_1) dL_lastPlaceOf_7 ?_
    refine z_last hx hb hK hP hD hS 8 rfl dL_lastPlaceOf_8 (fun H locs hP hD hS => ?_)
    have hP : va_P D vwCl (List.flatten [wTop ad, wSt cy ad 1 z f, wOt cy o0 (vp_updL O 0 (lI r_1.toInt))]) H := hP
    have hD : va_D A (List.flatten [wTop ad, wSt cy ad 1 z f, wOt cy o0 (vp_updL O 0 (lI r_1.toInt))]) := hD
    refine lv_goto (tgt := 15) hx hb dL_lastPlaceOf_9 (by decide) ?_
    refine lv_iconst (v := iI 0) hx hb dL_lastPlaceOf_15 rfl ?_
    refine W.widen (k := 1) (n := 6 * 1) (by decide) (by decide) ?_
    exact z_iret hx hb hr hlocks hS (vp_updL O 0 (lI r_1.toInt)) (show ((iI 0) = iI 0 ∧ ∃ v : Int32, ((0 ≤ x ∧ x ≤ 25) ∧ v = iI (lastF M.2.1.length (gl M.2.1) (iI x))) ∧ (vp_updL O 0 (lI r_1.toInt)) 0 = lI v.toInt) ∨ ((iI 0) = iI 1 ∧ (¬ (0 ≤ x ∧ x ≤ 25))) from (Or.inl ⟨rfl, r_1, hw_1, by simp [vp_updL]⟩)) hP dL_lastPlaceOf_16
set_option maxHeartbeats 4000000 in
set_option maxRecDepth 100000 in
theorem c_L_letterSkip (l : Launch) (hfl : l.stackTraces = false) (D : va_G) (cy : Nat → ClassId) (ad : Nat → Nat) (z : Nat → Int) (f : Nat → Nat → Int32) (M : MS) (x : Int) (y : Int) (o0 : Nat) (O : Nat → Int64) (hR : RS z f M) (hM : MOk M) (hx1 : -2147483648 ≤ x ∧ x < 2147483648) (hy1 : -2147483648 ≤ y ∧ y < 2147483648) : Ni l D cy yL_letterSkip wsL_letterSkip 8 135 2 [.ref (ad 0), .int (iI x), .int (iI y), .ref o0] (List.flatten [wTop ad, wSt cy ad 1 z f, wOt cy o0 O]) (fun (r : Int32) (u : (Nat → Int64)) => (r = iI 0 ∧ ∃ v : Int32, ((0 ≤ x ∧ x < (M.2.1.length : Int)) ∧ (0 ≤ y ∧ y ≤ 25) ∧ v = iI (x - lastF M.2.1.length (gl M.2.1) (iI y))) ∧ u 0 = lI v.toInt) ∨ (r = iI 1 ∧ (¬ (0 ≤ x ∧ x < (M.2.1.length : Int)))) ∨ (r = iI 2 ∧ ((0 ≤ x ∧ x < (M.2.1.length : Int)) ∧ ¬ (0 ≤ y ∧ y ≤ 25)))) (fun u : (Nat → Int64) => (List.flatten [wTop ad, wSt cy ad 1 z f, wOt cy o0 u])) := by
  refine Ni_of (cc := cL_letterSkip) (maxL := 5) (ret := (some .int)) (hh := [(0, 10, 13, 25), (0, 10, 17, 27)]) (by decide) rfl rfl ?_
  intro p e s m args below meth c A hx hb hr hts hown hlocks hml htab hP hK hD hT hC hZ hA ls hl
  have hS : va_S A s.heap s.heap [] := va_S.rf
  have hl : lv_has ls 5 [(0, .ref (ad 0)), (1, .int (iI x)), (2, .int (iI y)), (3, .ref o0)] := hl
  have hP : va_P D vwCl (List.flatten [wTop ad, wSt cy ad 1 z f, wOt cy o0 O]) s.heap := hP
  have hD : va_D A (List.flatten [wTop ad, wSt cy ad 1 z f, wOt cy o0 O]) := hD
  refine lv_aload_n hx hb dL_letterSkip_0 rfl (lv_at hl 3 rfl) ?_
  refine lv_iconst (v := iI 0) hx hb dL_letterSkip_1 rfl ?_
  refine lv_aload_n hx hb dL_letterSkip_2 rfl (lv_at hl 0 rfl) ?_
  refine lv_iload_n hx hb dL_letterSkip_3 rfl (lv_at hl 1 rfl) ?_
  refine lv_iload_n hx hb dL_letterSkip_4 rfl (lv_at hl 2 rfl) ?_
  refine h_gVi (n := 2) (b := ad 0) (As := [.int (iI x), .int (iI y)]) (rest := [.int (iI 0), .ref o0]) ⟨hx, hb, hml, hown, hts⟩ (c_X4_letterSkip l hfl D cy ad z f M x y (by first | assumption | omega) (by first | assumption | omega) (by first | assumption | omega) (by first | assumption | omega)) gL_letterSkip_X4_letterSkip rfl (by decide +kernel) ⟨Nat.le_of_ble_eq_true rfl, Nat.le_of_ble_eq_true rfl⟩ hK hT hC hZ hP hS (Fp.same hP hD hS hA [0, 1, 2, 3, 4, 5, 6, 7] rfl rfl (fun _ => rfl)) (Fp.same hP hD hS hA [0, 1, 2, 3, 4, 5, 6, 7] rfl rfl (fun _ => rfl)) 0 4 rfl rfl rfl rfl hl.1 rfl (Nat.le_of_ble_eq_true rfl) dL_letterSkip_5 ⟨by decide, by decide⟩ (fun E ce q9 H locs hpx hP hD hS hce hcv hcl => ?_) (fun r_1 u_1 H locs hw_1 hP hD hS => ?_)
  · --
    rcases hpx with ⟨rfl, hcond⟩ | ⟨rfl, hcond⟩
    · --
      refine vx_catch (name := "java/lang/IndexOutOfBoundsException") hown [] _ _ (htab.trans rfl) (by intro z hz; cases hz) (by decide) (by decide) (hts (.classLink RL 25 "java/lang/IndexOutOfBoundsException") (by decide +kernel)) (va_Nw.use rfl (hC.1 xIOB (List.mem_of_getElem? (i := 2) rfl))) hce hcv hcl ?_
      refine W.eq (g2 := F0 m 13 ls [.ref q9]) rfl ?_
      have hP : va_P D vwCl (List.flatten [wTop ad, wSt cy ad 1 z f, wOt cy o0 O]) H := hP
      have hD : va_D A (List.flatten [wTop ad, wSt cy ad 1 z f, wOt cy o0 O]) := hD
      refine lv_astore (lv' := [(4, .ref q9), (0, .ref (ad 0)), (1, .int (iI x)), (2, .int (iI y)), (3, .ref o0)]) hx hb dL_letterSkip_13 hl (by decide) rfl (fun ls hl => ?_)
      refine lv_iconst (v := iI 1) hx hb dL_letterSkip_15 rfl ?_
      refine W.widen (k := 2) (n := 6 * 2) (by decide) (by decide) ?_
      exact z_iret hx hb hr hlocks hS (O) (show ((iI 1) = iI 0 ∧ ∃ v : Int32, ((0 ≤ x ∧ x < (M.2.1.length : Int)) ∧ (0 ≤ y ∧ y ≤ 25) ∧ v = iI (x - lastF M.2.1.length (gl M.2.1) (iI y))) ∧ O 0 = lI v.toInt) ∨ ((iI 1) = iI 1 ∧ (¬ (0 ≤ x ∧ x < (M.2.1.length : Int)))) ∨ ((iI 1) = iI 2 ∧ ((0 ≤ x ∧ x < (M.2.1.length : Int)) ∧ ¬ (0 ≤ y ∧ y ≤ 25))) from (Or.inr (Or.inl ⟨rfl, hcond⟩))) hP dL_letterSkip_16
    · --
      refine vx_catch (name := "java/lang/IllegalArgumentException") hown [_] _ _ (htab.trans rfl) (by
          intro z hz
          rcases List.mem_singleton.mp hz with rfl
          exact Or.inr ⟨by decide, "java/lang/IndexOutOfBoundsException", hts (.classLink RL 25 "java/lang/IndexOutOfBoundsException") (by decide +kernel), hC.2.1⟩) (by decide) (by decide) (hts (.classLink RL 27 "java/lang/IllegalArgumentException") (by decide +kernel)) (va_Nw.use rfl (hC.1 xIAE (List.mem_of_getElem? (i := 1) rfl))) hce hcv hcl ?_
      refine W.eq (g2 := F0 m 17 ls [.ref q9]) rfl ?_
      have hP : va_P D vwCl (List.flatten [wTop ad, wSt cy ad 1 z f, wOt cy o0 O]) H := hP
      have hD : va_D A (List.flatten [wTop ad, wSt cy ad 1 z f, wOt cy o0 O]) := hD
      refine lv_astore (lv' := [(4, .ref q9), (0, .ref (ad 0)), (1, .int (iI x)), (2, .int (iI y)), (3, .ref o0)]) hx hb dL_letterSkip_17 hl (by decide) rfl (fun ls hl => ?_)
      refine lv_iconst (v := iI 2) hx hb dL_letterSkip_19 rfl ?_
      refine W.widen (k := 2) (n := 6 * 2) (by decide) (by decide) ?_
      exact z_iret hx hb hr hlocks hS (O) (show ((iI 2) = iI 0 ∧ ∃ v : Int32, ((0 ≤ x ∧ x < (M.2.1.length : Int)) ∧ (0 ≤ y ∧ y ≤ 25) ∧ v = iI (x - lastF M.2.1.length (gl M.2.1) (iI y))) ∧ O 0 = lI v.toInt) ∨ ((iI 2) = iI 1 ∧ (¬ (0 ≤ x ∧ x < (M.2.1.length : Int)))) ∨ ((iI 2) = iI 2 ∧ ((0 ≤ x ∧ x < (M.2.1.length : Int)) ∧ ¬ (0 ≤ y ∧ y ≤ 25))) from (Or.inr (Or.inr ⟨rfl, hcond⟩))) hP dL_letterSkip_20
  · --
    have hw_1 : (0 ≤ x ∧ x < (M.2.1.length : Int)) ∧ (0 ≤ y ∧ y ≤ 25) ∧ r_1 = iI (x - lastF M.2.1.length (gl M.2.1) (iI y)) := hw_1
    have hP : va_P D vwCl (List.flatten [wTop ad, wSt cy ad 1 z f, wOt cy o0 O]) H := hP
    have hD : va_D A (List.flatten [wTop ad, wSt cy ad 1 z f, wOt cy o0 O]) := hD
    refine z_i2l hx hb (r_l r_1) dL_letterSkip_8 ?_
    refine z_last hx hb hK hP hD hS 8 rfl dL_letterSkip_9 (fun H locs hP hD hS => ?_)
    have hP : va_P D vwCl (List.flatten [wTop ad, wSt cy ad 1 z f, wOt cy o0 (vp_updL O 0 (lI r_1.toInt))]) H := hP
    have hD : va_D A (List.flatten [wTop ad, wSt cy ad 1 z f, wOt cy o0 (vp_updL O 0 (lI r_1.toInt))]) := hD
    refine lv_goto (tgt := 21) hx hb dL_letterSkip_10 (by decide) ?_
    refine lv_iconst (v := iI 0) hx hb dL_letterSkip_21 rfl ?_
    refine W.widen (k := 2) (n := 6 * 2) (by decide) (by decide) ?_
    exact z_iret hx hb hr hlocks hS (vp_updL O 0 (lI r_1.toInt)) (show ((iI 0) = iI 0 ∧ ∃ v : Int32, ((0 ≤ x ∧ x < (M.2.1.length : Int)) ∧ (0 ≤ y ∧ y ≤ 25) ∧ v = iI (x - lastF M.2.1.length (gl M.2.1) (iI y))) ∧ (vp_updL O 0 (lI r_1.toInt)) 0 = lI v.toInt) ∨ ((iI 0) = iI 1 ∧ (¬ (0 ≤ x ∧ x < (M.2.1.length : Int)))) ∨ ((iI 0) = iI 2 ∧ ((0 ≤ x ∧ x < (M.2.1.length : Int)) ∧ ¬ (0 ≤ y ∧ y ≤ 25))) from (Or.inl ⟨rfl, r_1, hw_1, by simp [vp_updL]⟩)) hP dL_letterSkip_22
set_option maxHeartbeats 4000000 in
set_option maxRecDepth 100000 in
theorem c_L_endSkip (l : Launch) (hfl : l.stackTraces = false) (D : va_G) (cy : Nat → ClassId) (ad : Nat → Nat) (z : Nat → Int) (f : Nat → Nat → Int32) (M : MS) (en : Int) (B : Nat → Int) (Kf : Nat → Int) (x : Int) (o0 : Nat) (O : Nat → Int64) (hR : RS z f M) (hM : MOk M) (hk : ∀ j : Nat, 0 ≤ Kf j ∧ Kf j ≤ 17) (hx1 : -2147483648 ≤ x ∧ x < 2147483648) : Ni l D cy yL_endSkip wsL_endSkip 8 134 1 [.ref (ad 0), .int (iI x), .ref o0] (List.flatten [wTop ad, wSt cy ad 1 z f, wEn cy ad en B Kf, wOt cy o0 O]) (fun (r : Int32) (u : Int × (Nat → Int) × (Nat → Int) × (Nat → Int64)) => (r = iI 0 ∧ ∃ v : Int32, (((0 ≤ x ∧ x < (M.2.1.length : Int)) ∧ v = iI (endF M.2.1.length (gl M.2.1) x.toNat : Int)) ∧ ∀ j : Nat, 0 ≤ u.2.2.1 j ∧ u.2.2.1 j ≤ 17) ∧ u.2.2.2 0 = lI v.toInt) ∨ (r = iI 1 ∧ (¬ (0 ≤ x ∧ x < (M.2.1.length : Int))) ∧ u.1 = en ∧ u.2.1 = B ∧ u.2.2.1 = Kf)) (fun u : Int × (Nat → Int) × (Nat → Int) × (Nat → Int64) => (List.flatten [wTop ad, wSt cy ad 1 z f, wEn cy ad u.1 u.2.1 u.2.2.1, wOt cy o0 u.2.2.2])) := by
  refine Ni_of (cc := cL_endSkip) (maxL := 4) (ret := (some .int)) (hh := [(0, 9, 12, 25)]) (by decide) rfl rfl ?_
  intro p e s m args below meth c A hx hb hr hts hown hlocks hml htab hP hK hD hT hC hZ hA ls hl
  have hS : va_S A s.heap s.heap [] := va_S.rf
  have hl : lv_has ls 4 [(0, .ref (ad 0)), (1, .int (iI x)), (2, .ref o0)] := hl
  have hP : va_P D vwCl (List.flatten [wTop ad, wSt cy ad 1 z f, wEn cy ad en B Kf, wOt cy o0 O]) s.heap := hP
  have hD : va_D A (List.flatten [wTop ad, wSt cy ad 1 z f, wEn cy ad en B Kf, wOt cy o0 O]) := hD
  refine lv_aload_n hx hb dL_endSkip_0 rfl (lv_at hl 2 rfl) ?_
  refine lv_iconst (v := iI 0) hx hb dL_endSkip_1 rfl ?_
  refine lv_aload_n hx hb dL_endSkip_2 rfl (lv_at hl 0 rfl) ?_
  refine lv_iload_n hx hb dL_endSkip_3 rfl (lv_at hl 1 rfl) ?_
  refine h_gVi (n := 1) (b := ad 0) (As := [.int (iI x)]) (rest := [.int (iI 0), .ref o0]) ⟨hx, hb, hml, hown, hts⟩ (c_X4_endSkip l hfl D cy ad z f M en B Kf x (by first | assumption | omega) (by first | assumption | omega) (by first | assumption | omega) (by first | assumption | omega)) gL_endSkip_X4_endSkip rfl (by decide +kernel) ⟨Nat.le_of_ble_eq_true rfl, Nat.le_of_ble_eq_true rfl⟩ hK hT hC hZ hP hS (Fp.blocks hP hD hS hA (cs := [wTop ad, wSt cy ad 1 z f, wEn cy ad en B Kf]) (nb := fun (u : Int × (Nat → Int) × (Nat → Int)) => [wTop ad, wSt cy ad 1 z f, wEn cy ad u.1 u.2.1 u.2.2]) (nbs := fun (u : Int × (Nat → Int) × (Nat → Int)) => [wTop ad, wSt cy ad 1 z f, wEn cy ad u.1 u.2.1 u.2.2, wOt cy o0 O]) [0, 1, 2] rfl rfl rfl (fun _ => rfl) (fun _ => rfl) (fun _ => rfl)) (Fp.same hP hD hS hA [0, 1, 2, 3, 4, 5, 6, 7, 8, 9, 10] rfl rfl (fun _ => rfl)) 0 4 rfl rfl rfl rfl hl.1 rfl (Nat.le_of_ble_eq_true rfl) dL_endSkip_4 ⟨by decide, by decide⟩ (fun E ce q9 H locs hpx hP hD hS hce hcv hcl => ?_) (fun r_1 u_1 H locs hw_1 hP hD hS => ?_)
  · --
    rcases hpx with ⟨rfl, hcond⟩
    · --
      refine vx_catch (name := "java/lang/IndexOutOfBoundsException") hown [] _ _ (htab.trans rfl) (by intro z hz; cases hz) (by decide) (by decide) (hts (.classLink RL 25 "java/lang/IndexOutOfBoundsException") (by decide +kernel)) (va_Nw.use rfl (hC.1 xIOB (List.mem_of_getElem? (i := 2) rfl))) hce hcv hcl ?_
      refine W.eq (g2 := F0 m 12 ls [.ref q9]) rfl ?_
      have hP : va_P D vwCl (List.flatten [wTop ad, wSt cy ad 1 z f, wEn cy ad en B Kf, wOt cy o0 O]) H := hP
      have hD : va_D A (List.flatten [wTop ad, wSt cy ad 1 z f, wEn cy ad en B Kf, wOt cy o0 O]) := hD
      refine lv_astore_n (lv' := [(3, .ref q9), (0, .ref (ad 0)), (1, .int (iI x)), (2, .ref o0)]) hx hb dL_endSkip_12 rfl hl (by decide) rfl (fun ls hl => ?_)
      refine lv_iconst (v := iI 1) hx hb dL_endSkip_13 rfl ?_
      refine W.widen (k := 1) (n := 6 * 1) (by decide) (by decide) ?_
      exact z_iret hx hb hr hlocks hS (en, B, Kf, O) (show ((iI 1) = iI 0 ∧ ∃ v : Int32, (((0 ≤ x ∧ x < (M.2.1.length : Int)) ∧ v = iI (endF M.2.1.length (gl M.2.1) x.toNat : Int)) ∧ ∀ j : Nat, 0 ≤ Kf j ∧ Kf j ≤ 17) ∧ O 0 = lI v.toInt) ∨ ((iI 1) = iI 1 ∧ (¬ (0 ≤ x ∧ x < (M.2.1.length : Int))) ∧ en = en ∧ B = B ∧ Kf = Kf) from (Or.inr ⟨rfl, hcond, rfl, rfl, rfl⟩)) hP dL_endSkip_14
  · --
    obtain ⟨en1_1, B1_1, K1_1⟩ := u_1
    have hw_1 : ((0 ≤ x ∧ x < (M.2.1.length : Int)) ∧ r_1 = iI (endF M.2.1.length (gl M.2.1) x.toNat : Int)) ∧ ∀ j : Nat, 0 ≤ K1_1 j ∧ K1_1 j ≤ 17 := hw_1
    have hP : va_P D vwCl (List.flatten [wTop ad, wSt cy ad 1 z f, wEn cy ad en1_1 B1_1 K1_1, wOt cy o0 O]) H := hP
    have hD : va_D A (List.flatten [wTop ad, wSt cy ad 1 z f, wEn cy ad en1_1 B1_1 K1_1, wOt cy o0 O]) := hD
    refine z_i2l hx hb (r_l r_1) dL_endSkip_7 ?_
    refine z_last hx hb hK hP hD hS 11 rfl dL_endSkip_8 (fun H locs hP hD hS => ?_)
    have hP : va_P D vwCl (List.flatten [wTop ad, wSt cy ad 1 z f, wEn cy ad en1_1 B1_1 K1_1, wOt cy o0 (vp_updL O 0 (lI r_1.toInt))]) H := hP
    have hD : va_D A (List.flatten [wTop ad, wSt cy ad 1 z f, wEn cy ad en1_1 B1_1 K1_1, wOt cy o0 (vp_updL O 0 (lI r_1.toInt))]) := hD
    refine lv_goto (tgt := 15) hx hb dL_endSkip_9 (by decide) ?_
    refine lv_iconst (v := iI 0) hx hb dL_endSkip_15 rfl ?_
    refine W.widen (k := 1) (n := 6 * 1) (by decide) (by decide) ?_
    exact z_iret hx hb hr hlocks hS (en1_1, B1_1, K1_1, vp_updL O 0 (lI r_1.toInt)) (show ((iI 0) = iI 0 ∧ ∃ v : Int32, (((0 ≤ x ∧ x < (M.2.1.length : Int)) ∧ v = iI (endF M.2.1.length (gl M.2.1) x.toNat : Int)) ∧ ∀ j : Nat, 0 ≤ K1_1 j ∧ K1_1 j ≤ 17) ∧ (vp_updL O 0 (lI r_1.toInt)) 0 = lI v.toInt) ∨ ((iI 0) = iI 1 ∧ (¬ (0 ≤ x ∧ x < (M.2.1.length : Int))) ∧ en1_1 = en ∧ B1_1 = B ∧ K1_1 = Kf) from (Or.inl ⟨rfl, r_1, hw_1, by simp [vp_updL]⟩)) hP dL_endSkip_16
set_option maxHeartbeats 4000000 in
set_option maxRecDepth 100000 in
theorem c_L_endSkipByTrying (l : Launch) (hfl : l.stackTraces = false) (D : va_G) (cy : Nat → ClassId) (ad : Nat → Nat) (z : Nat → Int) (f : Nat → Nat → Int32) (M : MS) (x : Int) (o0 : Nat) (O : Nat → Int64) (hR : RS z f M) (hM : MOk M) (hx1 : -2147483648 ≤ x ∧ x < 2147483648) : Ni l D cy yL_endSkipByTrying wsL_endSkipByTrying 8 136 1 [.ref (ad 0), .int (iI x), .ref o0] (List.flatten [wTop ad, wSt cy ad 1 z f, wOt cy o0 O]) (fun (r : Int32) (u : (Nat → Int64)) => (r = iI 0 ∧ ∃ v : Int32, ((0 ≤ x ∧ x < (M.2.1.length : Int)) ∧ v = iI (endF M.2.1.length (gl M.2.1) x.toNat : Int)) ∧ u 0 = lI v.toInt) ∨ (r = iI 1 ∧ (¬ (0 ≤ x ∧ x < (M.2.1.length : Int))))) (fun u : (Nat → Int64) => (List.flatten [wTop ad, wSt cy ad 1 z f, wOt cy o0 u])) := by
  refine Ni_of (cc := cL_endSkipByTrying) (maxL := 4) (ret := (some .int)) (hh := [(0, 9, 12, 25)]) (by decide) rfl rfl ?_
  intro p e s m args below meth c A hx hb hr hts hown hlocks hml htab hP hK hD hT hC hZ hA ls hl
  have hS : va_S A s.heap s.heap [] := va_S.rf
  have hl : lv_has ls 4 [(0, .ref (ad 0)), (1, .int (iI x)), (2, .ref o0)] := hl
  have hP : va_P D vwCl (List.flatten [wTop ad, wSt cy ad 1 z f, wOt cy o0 O]) s.heap := hP
  have hD : va_D A (List.flatten [wTop ad, wSt cy ad 1 z f, wOt cy o0 O]) := hD
  refine lv_aload_n hx hb dL_endSkipByTrying_0 rfl (lv_at hl 2 rfl) ?_
  refine lv_iconst (v := iI 0) hx hb dL_endSkipByTrying_1 rfl ?_
  refine lv_aload_n hx hb dL_endSkipByTrying_2 rfl (lv_at hl 0 rfl) ?_
  refine lv_iload_n hx hb dL_endSkipByTrying_3 rfl (lv_at hl 1 rfl) ?_
  refine h_gVi (n := 1) (b := ad 0) (As := [.int (iI x)]) (rest := [.int (iI 0), .ref o0]) ⟨hx, hb, hml, hown, hts⟩ (c_X4_endSkipByTrying l hfl D cy ad z f M x (by first | assumption | omega) (by first | assumption | omega) (by first | assumption | omega)) gL_endSkipByTrying_X4_endSkipByTrying rfl (by decide +kernel) ⟨Nat.le_of_ble_eq_true rfl, Nat.le_of_ble_eq_true rfl⟩ hK hT hC hZ hP hS (Fp.same hP hD hS hA [0, 1, 2, 3, 4, 5, 6, 7] rfl rfl (fun _ => rfl)) (Fp.same hP hD hS hA [0, 1, 2, 3, 4, 5, 6, 7] rfl rfl (fun _ => rfl)) 0 4 rfl rfl rfl rfl hl.1 rfl (Nat.le_of_ble_eq_true rfl) dL_endSkipByTrying_4 ⟨by decide, by decide⟩ (fun E ce q9 H locs hpx hP hD hS hce hcv hcl => ?_) (fun r_1 u_1 H locs hw_1 hP hD hS => ?_)
  · --
    rcases hpx with ⟨rfl, hcond⟩
    · --
      refine vx_catch (name := "java/lang/IndexOutOfBoundsException") hown [] _ _ (htab.trans rfl) (by intro z hz; cases hz) (by decide) (by decide) (hts (.classLink RL 25 "java/lang/IndexOutOfBoundsException") (by decide +kernel)) (va_Nw.use rfl (hC.1 xIOB (List.mem_of_getElem? (i := 2) rfl))) hce hcv hcl ?_
      refine W.eq (g2 := F0 m 12 ls [.ref q9]) rfl ?_
      have hP : va_P D vwCl (List.flatten [wTop ad, wSt cy ad 1 z f, wOt cy o0 O]) H := hP
      have hD : va_D A (List.flatten [wTop ad, wSt cy ad 1 z f, wOt cy o0 O]) := hD
      refine lv_astore_n (lv' := [(3, .ref q9), (0, .ref (ad 0)), (1, .int (iI x)), (2, .ref o0)]) hx hb dL_endSkipByTrying_12 rfl hl (by decide) rfl (fun ls hl => ?_)
      refine lv_iconst (v := iI 1) hx hb dL_endSkipByTrying_13 rfl ?_
      refine W.widen (k := 1) (n := 6 * 1) (by decide) (by decide) ?_
      exact z_iret hx hb hr hlocks hS (O) (show ((iI 1) = iI 0 ∧ ∃ v : Int32, ((0 ≤ x ∧ x < (M.2.1.length : Int)) ∧ v = iI (endF M.2.1.length (gl M.2.1) x.toNat : Int)) ∧ O 0 = lI v.toInt) ∨ ((iI 1) = iI 1 ∧ (¬ (0 ≤ x ∧ x < (M.2.1.length : Int)))) from (Or.inr ⟨rfl, hcond⟩)) hP dL_endSkipByTrying_14
  · --
    have hw_1 : (0 ≤ x ∧ x < (M.2.1.length : Int)) ∧ r_1 = iI (endF M.2.1.length (gl M.2.1) x.toNat : Int) := hw_1
    have hP : va_P D vwCl (List.flatten [wTop ad, wSt cy ad 1 z f, wOt cy o0 O]) H := hP
    have hD : va_D A (List.flatten [wTop ad, wSt cy ad 1 z f, wOt cy o0 O]) := hD
    refine z_i2l hx hb (r_l r_1) dL_endSkipByTrying_7 ?_
    refine z_last hx hb hK hP hD hS 8 rfl dL_endSkipByTrying_8 (fun H locs hP hD hS => ?_)
    have hP : va_P D vwCl (List.flatten [wTop ad, wSt cy ad 1 z f, wOt cy o0 (vp_updL O 0 (lI r_1.toInt))]) H := hP
    have hD : va_D A (List.flatten [wTop ad, wSt cy ad 1 z f, wOt cy o0 (vp_updL O 0 (lI r_1.toInt))]) := hD
    refine lv_goto (tgt := 15) hx hb dL_endSkipByTrying_9 (by decide) ?_
    refine lv_iconst (v := iI 0) hx hb dL_endSkipByTrying_15 rfl ?_
    refine W.widen (k := 1) (n := 6 * 1) (by decide) (by decide) ?_
    exact z_iret hx hb hr hlocks hS (vp_updL O 0 (lI r_1.toInt)) (show ((iI 0) = iI 0 ∧ ∃ v : Int32, ((0 ≤ x ∧ x < (M.2.1.length : Int)) ∧ v = iI (endF M.2.1.length (gl M.2.1) x.toNat : Int)) ∧ (vp_updL O 0 (lI r_1.toInt)) 0 = lI v.toInt) ∨ ((iI 0) = iI 1 ∧ (¬ (0 ≤ x ∧ x < (M.2.1.length : Int)))) from (Or.inl ⟨rfl, r_1, hw_1, by simp [vp_updL]⟩)) hP dL_endSkipByTrying_16
set_option maxHeartbeats 4000000 in
set_option maxRecDepth 100000 in
theorem c_L_differenceAt (l : Launch) (hfl : l.stackTraces = false) (D : va_G) (cy : Nat → ClassId) (ad : Nat → Nat) (z : Nat → Int) (f : Nat → Nat → Int32) (M : MS) (x : Int) (o0 : Nat) (O : Nat → Int64) (hR : RS z f M) (hM : MOk M) (hx1 : -2147483648 ≤ x ∧ x < 2147483648) : Ni l D cy yL_differenceAt wsL_differenceAt 7 113 1 [.ref (ad 0), .int (iI x), .ref o0] (List.flatten [wTop ad, wSt cy ad 1 z f, wOt cy o0 O]) (fun (r : Int32) (u : (Nat → Int64)) => (r = iI 0 ∧ ∃ v : Int32, ((0 ≤ x ∧ x + (M.2.1.length : Int) ≤ (M.1.length : Int)) ∧ ¬ (M.2.1.length : Int) = 0 ∧ v = iI (mD M x)) ∧ u 0 = lI v.toInt) ∨ (r = iI 1 ∧ ((x < 0 ∨ (M.1.length : Int) < x + (M.2.1.length : Int)))) ∨ (r = iI 2 ∧ (¬ (x < 0 ∨ (M.1.length : Int) < x + (M.2.1.length : Int)) ∧ (M.2.1.length : Int) = 0))) (fun u : (Nat → Int64) => (List.flatten [wTop ad, wSt cy ad 1 z f, wOt cy o0 u])) := by
  refine Ni_of (cc := cL_differenceAt) (maxL := 4) (ret := (some .int)) (hh := [(0, 9, 12, 25), (0, 9, 15, 13)]) (by decide) rfl rfl ?_
  intro p e s m args below meth c A hx hb hr hts hown hlocks hml htab hP hK hD hT hC hZ hA ls hl
  have hS : va_S A s.heap s.heap [] := va_S.rf
  have hl : lv_has ls 4 [(0, .ref (ad 0)), (1, .int (iI x)), (2, .ref o0)] := hl
  have hP : va_P D vwCl (List.flatten [wTop ad, wSt cy ad 1 z f, wOt cy o0 O]) s.heap := hP
  have hD : va_D A (List.flatten [wTop ad, wSt cy ad 1 z f, wOt cy o0 O]) := hD
  refine lv_aload_n hx hb dL_differenceAt_0 rfl (lv_at hl 2 rfl) ?_
  refine lv_iconst (v := iI 0) hx hb dL_differenceAt_1 rfl ?_
  refine lv_aload_n hx hb dL_differenceAt_2 rfl (lv_at hl 0 rfl) ?_
  refine lv_iload_n hx hb dL_differenceAt_3 rfl (lv_at hl 1 rfl) ?_
  refine h_gVi (n := 1) (b := ad 0) (As := [.int (iI x)]) (rest := [.int (iI 0), .ref o0]) ⟨hx, hb, hml, hown, hts⟩ (c_X4_differenceAt l hfl D cy ad z f M x (by first | assumption | omega) (by first | assumption | omega) (by first | assumption | omega)) gL_differenceAt_X4_differenceAt rfl (by decide +kernel) ⟨Nat.le_of_ble_eq_true rfl, Nat.le_of_ble_eq_true rfl⟩ hK hT hC hZ hP hS (Fp.same hP hD hS hA [0, 1, 2, 3, 4, 5, 6, 7] rfl rfl (fun _ => rfl)) (Fp.same hP hD hS hA [0, 1, 2, 3, 4, 5, 6, 7] rfl rfl (fun _ => rfl)) 0 4 rfl rfl rfl rfl hl.1 rfl (Nat.le_of_ble_eq_true rfl) dL_differenceAt_4 ⟨by decide, by decide⟩ (fun E ce q9 H locs hpx hP hD hS hce hcv hcl => ?_) (fun r_1 u_1 H locs hw_1 hP hD hS => ?_)
  · --
    rcases hpx with ⟨rfl, hcond⟩ | ⟨rfl, hcond⟩
    · --
      refine vx_catch (name := "java/lang/IndexOutOfBoundsException") hown [] _ _ (htab.trans rfl) (by intro z hz; cases hz) (by decide) (by decide) (hts (.classLink RL 25 "java/lang/IndexOutOfBoundsException") (by decide +kernel)) (va_Nw.use rfl (hC.1 xIOB (List.mem_of_getElem? (i := 2) rfl))) hce hcv hcl ?_
      refine W.eq (g2 := F0 m 12 ls [.ref q9]) rfl ?_
      have hP : va_P D vwCl (List.flatten [wTop ad, wSt cy ad 1 z f, wOt cy o0 O]) H := hP
      have hD : va_D A (List.flatten [wTop ad, wSt cy ad 1 z f, wOt cy o0 O]) := hD
      refine lv_astore_n (lv' := [(3, .ref q9), (0, .ref (ad 0)), (1, .int (iI x)), (2, .ref o0)]) hx hb dL_differenceAt_12 rfl hl (by decide) rfl (fun ls hl => ?_)
      refine lv_iconst (v := iI 1) hx hb dL_differenceAt_13 rfl ?_
      refine W.widen (k := 1) (n := 6 * 1) (by decide) (by decide) ?_
      exact z_iret hx hb hr hlocks hS (O) (show ((iI 1) = iI 0 ∧ ∃ v : Int32, ((0 ≤ x ∧ x + (M.2.1.length : Int) ≤ (M.1.length : Int)) ∧ ¬ (M.2.1.length : Int) = 0 ∧ v = iI (mD M x)) ∧ O 0 = lI v.toInt) ∨ ((iI 1) = iI 1 ∧ ((x < 0 ∨ (M.1.length : Int) < x + (M.2.1.length : Int)))) ∨ ((iI 1) = iI 2 ∧ (¬ (x < 0 ∨ (M.1.length : Int) < x + (M.2.1.length : Int)) ∧ (M.2.1.length : Int) = 0)) from (Or.inr (Or.inl ⟨rfl, hcond⟩))) hP dL_differenceAt_14
    · --
      refine vx_catch (name := "java/lang/IllegalStateException") hown [_] _ _ (htab.trans rfl) (by
          intro z hz
          rcases List.mem_singleton.mp hz with rfl
          exact Or.inr ⟨by decide, "java/lang/IndexOutOfBoundsException", hts (.classLink RL 25 "java/lang/IndexOutOfBoundsException") (by decide +kernel), hC.2.2.1⟩) (by decide) (by decide) (hts (.classLink RL 13 "java/lang/IllegalStateException") (by decide +kernel)) (va_Nw.use rfl (hC.1 xISE (List.mem_of_getElem? (i := 0) rfl))) hce hcv hcl ?_
      refine W.eq (g2 := F0 m 15 ls [.ref q9]) rfl ?_
      have hP : va_P D vwCl (List.flatten [wTop ad, wSt cy ad 1 z f, wOt cy o0 O]) H := hP
      have hD : va_D A (List.flatten [wTop ad, wSt cy ad 1 z f, wOt cy o0 O]) := hD
      refine lv_astore_n (lv' := [(3, .ref q9), (0, .ref (ad 0)), (1, .int (iI x)), (2, .ref o0)]) hx hb dL_differenceAt_15 rfl hl (by decide) rfl (fun ls hl => ?_)
      refine lv_iconst (v := iI 2) hx hb dL_differenceAt_16 rfl ?_
      refine W.widen (k := 1) (n := 6 * 1) (by decide) (by decide) ?_
      exact z_iret hx hb hr hlocks hS (O) (show ((iI 2) = iI 0 ∧ ∃ v : Int32, ((0 ≤ x ∧ x + (M.2.1.length : Int) ≤ (M.1.length : Int)) ∧ ¬ (M.2.1.length : Int) = 0 ∧ v = iI (mD M x)) ∧ O 0 = lI v.toInt) ∨ ((iI 2) = iI 1 ∧ ((x < 0 ∨ (M.1.length : Int) < x + (M.2.1.length : Int)))) ∨ ((iI 2) = iI 2 ∧ (¬ (x < 0 ∨ (M.1.length : Int) < x + (M.2.1.length : Int)) ∧ (M.2.1.length : Int) = 0)) from (Or.inr (Or.inr ⟨rfl, hcond⟩))) hP dL_differenceAt_17
  · --
    have hw_1 : (0 ≤ x ∧ x + (M.2.1.length : Int) ≤ (M.1.length : Int)) ∧ ¬ (M.2.1.length : Int) = 0 ∧ r_1 = iI (mD M x) := hw_1
    have hP : va_P D vwCl (List.flatten [wTop ad, wSt cy ad 1 z f, wOt cy o0 O]) H := hP
    have hD : va_D A (List.flatten [wTop ad, wSt cy ad 1 z f, wOt cy o0 O]) := hD
    refine z_i2l hx hb (r_l r_1) dL_differenceAt_7 ?_
    refine z_last hx hb hK hP hD hS 8 rfl dL_differenceAt_8 (fun H locs hP hD hS => ?_)
    have hP : va_P D vwCl (List.flatten [wTop ad, wSt cy ad 1 z f, wOt cy o0 (vp_updL O 0 (lI r_1.toInt))]) H := hP
    have hD : va_D A (List.flatten [wTop ad, wSt cy ad 1 z f, wOt cy o0 (vp_updL O 0 (lI r_1.toInt))]) := hD
    refine lv_goto (tgt := 18) hx hb dL_differenceAt_9 (by decide) ?_
    refine lv_iconst (v := iI 0) hx hb dL_differenceAt_18 rfl ?_
    refine W.widen (k := 1) (n := 6 * 1) (by decide) (by decide) ?_
    exact z_iret hx hb hr hlocks hS (vp_updL O 0 (lI r_1.toInt)) (show ((iI 0) = iI 0 ∧ ∃ v : Int32, ((0 ≤ x ∧ x + (M.2.1.length : Int) ≤ (M.1.length : Int)) ∧ ¬ (M.2.1.length : Int) = 0 ∧ v = iI (mD M x)) ∧ (vp_updL O 0 (lI r_1.toInt)) 0 = lI v.toInt) ∨ ((iI 0) = iI 1 ∧ ((x < 0 ∨ (M.1.length : Int) < x + (M.2.1.length : Int)))) ∨ ((iI 0) = iI 2 ∧ (¬ (x < 0 ∨ (M.1.length : Int) < x + (M.2.1.length : Int)) ∧ (M.2.1.length : Int) = 0)) from (Or.inl ⟨rfl, r_1, hw_1, by simp [vp_updL]⟩)) hP dL_differenceAt_19
set_option maxHeartbeats 4000000 in
set_option maxRecDepth 100000 in
theorem c_L_appendText (l : Launch) (hfl : l.stackTraces = false) (D : va_G) (cy : Nat → ClassId) (ad : Nat → Nat) (tn : Int) (tf : Nat → Int32) (tx : List Int32) (cv : Int64) (o0 : Nat) (O : Nat → Int64) (hX : Rep tn tf tx ∧ tx.length ≤ 80) : Ni l D cy yL_appendText wsL_appendText 7 116 1 [.ref (ad 0), .long cv, .ref o0] (List.flatten [wTop ad, wTx cy ad tn tf, wOt cy o0 O]) (fun (r : Int32) (u : Int × (Nat → Int32) × (Nat → Int64)) => (r = iI 0 ∧ ∃ v : Int32, (∃ n : Nat, 1 ≤ n ∧ cntOk cv n ∧ (tx.length : Int) + n ≤ 80 ∧ v = iI ((tx.length : Int) + n) ∧ Rep u.1 u.2.1 (tx ++ chF cv n)) ∧ u.2.2 0 = lI v.toInt) ∨ (r = iI 1 ∧ (¬ ∃ n : Nat, 1 ≤ n ∧ cntOk cv n) ∧ u.1 = tn ∧ u.2.1 = tf) ∨ (r = iI 2 ∧ (∃ n : Nat, 1 ≤ n ∧ cntOk cv n ∧ 80 < (tx.length : Int) + n) ∧ u.1 = tn ∧ u.2.1 = tf)) (fun u : Int × (Nat → Int32) × (Nat → Int64) => (List.flatten [wTop ad, wTx cy ad u.1 u.2.1, wOt cy o0 u.2.2])) := by
  refine Ni_of (cc := cL_appendText) (maxL := 5) (ret := (some .int)) (hh := [(0, 9, 12, 27), (0, 9, 16, 13)]) (by decide) rfl rfl ?_
  intro p e s m args below meth c A hx hb hr hts hown hlocks hml htab hP hK hD hT hC hZ hA ls hl
  have hS : va_S A s.heap s.heap [] := va_S.rf
  have hl : lv_has ls 5 [(0, .ref (ad 0)), (1, .long cv), (3, .ref o0)] := hl
  have hP : va_P D vwCl (List.flatten [wTop ad, wTx cy ad tn tf, wOt cy o0 O]) s.heap := hP
  have hD : va_D A (List.flatten [wTop ad, wTx cy ad tn tf, wOt cy o0 O]) := hD
  refine lv_aload_n hx hb dL_appendText_0 rfl (lv_at hl 2 rfl) ?_
  refine lv_iconst (v := iI 0) hx hb dL_appendText_1 rfl ?_
  refine lv_aload_n hx hb dL_appendText_2 rfl (lv_at hl 0 rfl) ?_
  refine lv_lload_n hx hb dL_appendText_3 rfl (lv_at hl 1 rfl) ?_
  refine h_gVi (n := 1) (b := ad 0) (As := [.long cv]) (rest := [.int (iI 0), .ref o0]) ⟨hx, hb, hml, hown, hts⟩ (c_X4_appendText l hfl D cy ad tn tf tx cv (by first | assumption | omega)) gL_appendText_X4_appendText rfl (by decide +kernel) ⟨Nat.le_of_ble_eq_true rfl, Nat.le_of_ble_eq_true rfl⟩ hK hT hC hZ hP hS (Fp.blocks hP hD hS hA (cs := [wTop ad, wTx cy ad tn tf]) (nb := fun (u : Int × (Nat → Int32)) => [wTop ad, wTx cy ad u.1 u.2]) (nbs := fun (u : Int × (Nat → Int32)) => [wTop ad, wTx cy ad u.1 u.2, wOt cy o0 O]) [0, 1] rfl rfl rfl (fun _ => rfl) (fun _ => rfl) (fun _ => rfl)) (Fp.same hP hD hS hA [0, 1, 2] rfl rfl (fun _ => rfl)) 0 4 rfl rfl rfl rfl hl.1 rfl (Nat.le_of_ble_eq_true rfl) dL_appendText_4 ⟨by decide, by decide⟩ (fun E ce q9 H locs hpx hP hD hS hce hcv hcl => ?_) (fun r_1 u_1 H locs hw_1 hP hD hS => ?_)
  · --
    rcases hpx with ⟨rfl, hcond⟩ | ⟨rfl, hcond⟩
    · --
      refine vx_catch (name := "java/lang/IllegalArgumentException") hown [] _ _ (htab.trans rfl) (by intro z hz; cases hz) (by decide) (by decide) (hts (.classLink RL 27 "java/lang/IllegalArgumentException") (by decide +kernel)) (va_Nw.use rfl (hC.1 xIAE (List.mem_of_getElem? (i := 1) rfl))) hce hcv hcl ?_
      refine W.eq (g2 := F0 m 12 ls [.ref q9]) rfl ?_
      have hP : va_P D vwCl (List.flatten [wTop ad, wTx cy ad tn tf, wOt cy o0 O]) H := hP
      have hD : va_D A (List.flatten [wTop ad, wTx cy ad tn tf, wOt cy o0 O]) := hD
      refine lv_astore (lv' := [(4, .ref q9), (0, .ref (ad 0)), (1, .long cv), (3, .ref o0)]) hx hb dL_appendText_12 hl (by decide) rfl (fun ls hl => ?_)
      refine lv_iconst (v := iI 1) hx hb dL_appendText_14 rfl ?_
      refine W.widen (k := 1) (n := 6 * 1) (by decide) (by decide) ?_
      exact z_iret hx hb hr hlocks hS (tn, tf, O) (show ((iI 1) = iI 0 ∧ ∃ v : Int32, (∃ n : Nat, 1 ≤ n ∧ cntOk cv n ∧ (tx.length : Int) + n ≤ 80 ∧ v = iI ((tx.length : Int) + n) ∧ Rep tn tf (tx ++ chF cv n)) ∧ O 0 = lI v.toInt) ∨ ((iI 1) = iI 1 ∧ (¬ ∃ n : Nat, 1 ≤ n ∧ cntOk cv n) ∧ tn = tn ∧ tf = tf) ∨ ((iI 1) = iI 2 ∧ (∃ n : Nat, 1 ≤ n ∧ cntOk cv n ∧ 80 < (tx.length : Int) + n) ∧ tn = tn ∧ tf = tf) from (Or.inr (Or.inl ⟨rfl, hcond, rfl, rfl⟩))) hP dL_appendText_15
    · --
      refine vx_catch (name := "java/lang/IllegalStateException") hown [_] _ _ (htab.trans rfl) (by
          intro z hz
          rcases List.mem_singleton.mp hz with rfl
          exact Or.inr ⟨by decide, "java/lang/IllegalArgumentException", hts (.classLink RL 27 "java/lang/IllegalArgumentException") (by decide +kernel), hC.2.2.2.1⟩) (by decide) (by decide) (hts (.classLink RL 13 "java/lang/IllegalStateException") (by decide +kernel)) (va_Nw.use rfl (hC.1 xISE (List.mem_of_getElem? (i := 0) rfl))) hce hcv hcl ?_
      refine W.eq (g2 := F0 m 16 ls [.ref q9]) rfl ?_
      have hP : va_P D vwCl (List.flatten [wTop ad, wTx cy ad tn tf, wOt cy o0 O]) H := hP
      have hD : va_D A (List.flatten [wTop ad, wTx cy ad tn tf, wOt cy o0 O]) := hD
      refine lv_astore (lv' := [(4, .ref q9), (0, .ref (ad 0)), (1, .long cv), (3, .ref o0)]) hx hb dL_appendText_16 hl (by decide) rfl (fun ls hl => ?_)
      refine lv_iconst (v := iI 2) hx hb dL_appendText_18 rfl ?_
      refine W.widen (k := 1) (n := 6 * 1) (by decide) (by decide) ?_
      exact z_iret hx hb hr hlocks hS (tn, tf, O) (show ((iI 2) = iI 0 ∧ ∃ v : Int32, (∃ n : Nat, 1 ≤ n ∧ cntOk cv n ∧ (tx.length : Int) + n ≤ 80 ∧ v = iI ((tx.length : Int) + n) ∧ Rep tn tf (tx ++ chF cv n)) ∧ O 0 = lI v.toInt) ∨ ((iI 2) = iI 1 ∧ (¬ ∃ n : Nat, 1 ≤ n ∧ cntOk cv n) ∧ tn = tn ∧ tf = tf) ∨ ((iI 2) = iI 2 ∧ (∃ n : Nat, 1 ≤ n ∧ cntOk cv n ∧ 80 < (tx.length : Int) + n) ∧ tn = tn ∧ tf = tf) from (Or.inr (Or.inr ⟨rfl, hcond, rfl, rfl⟩))) hP dL_appendText_19
  · --
    obtain ⟨tn1_1, tf1_1⟩ := u_1
    have hw_1 : ∃ n : Nat, 1 ≤ n ∧ cntOk cv n ∧ (tx.length : Int) + n ≤ 80 ∧ r_1 = iI ((tx.length : Int) + n) ∧ Rep tn1_1 tf1_1 (tx ++ chF cv n) := hw_1
    have hP : va_P D vwCl (List.flatten [wTop ad, wTx cy ad tn1_1 tf1_1, wOt cy o0 O]) H := hP
    have hD : va_D A (List.flatten [wTop ad, wTx cy ad tn1_1 tf1_1, wOt cy o0 O]) := hD
    refine z_i2l hx hb (r_l r_1) dL_appendText_7 ?_
    refine z_last hx hb hK hP hD hS 3 rfl dL_appendText_8 (fun H locs hP hD hS => ?_)
    have hP : va_P D vwCl (List.flatten [wTop ad, wTx cy ad tn1_1 tf1_1, wOt cy o0 (vp_updL O 0 (lI r_1.toInt))]) H := hP
    have hD : va_D A (List.flatten [wTop ad, wTx cy ad tn1_1 tf1_1, wOt cy o0 (vp_updL O 0 (lI r_1.toInt))]) := hD
    refine lv_goto (tgt := 20) hx hb dL_appendText_9 (by decide) ?_
    refine lv_iconst (v := iI 0) hx hb dL_appendText_20 rfl ?_
    refine W.widen (k := 1) (n := 6 * 1) (by decide) (by decide) ?_
    exact z_iret hx hb hr hlocks hS (tn1_1, tf1_1, vp_updL O 0 (lI r_1.toInt)) (show ((iI 0) = iI 0 ∧ ∃ v : Int32, (∃ n : Nat, 1 ≤ n ∧ cntOk cv n ∧ (tx.length : Int) + n ≤ 80 ∧ v = iI ((tx.length : Int) + n) ∧ Rep tn1_1 tf1_1 (tx ++ chF cv n)) ∧ (vp_updL O 0 (lI r_1.toInt)) 0 = lI v.toInt) ∨ ((iI 0) = iI 1 ∧ (¬ ∃ n : Nat, 1 ≤ n ∧ cntOk cv n) ∧ tn1_1 = tn ∧ tf1_1 = tf) ∨ ((iI 0) = iI 2 ∧ (∃ n : Nat, 1 ≤ n ∧ cntOk cv n ∧ 80 < (tx.length : Int) + n) ∧ tn1_1 = tn ∧ tf1_1 = tf) from (Or.inl ⟨rfl, r_1, hw_1, by simp [vp_updL]⟩)) hP dL_appendText_21
set_option maxHeartbeats 4000000 in
set_option maxRecDepth 100000 in
theorem c_L_undo (l : Launch) (hfl : l.stackTraces = false) (D : va_G) (cy : Nat → ClassId) (ad : Nat → Nat) (z : Nat → Int) (f : Nat → Nat → Int32) (M : MS) (nx : Int) (ct : Int) (Zh : Nat → Nat → Int) (Fh : Nat → Nat → Nat → Int32) (h : List MS) (o0 : Nat) (O : Nat → Int64) (hH : RXH nx ct Zh Fh h) : Ni l D cy yL_undo wsL_undo 7 112 1 [.ref (ad 0), .ref o0] (List.flatten [wTop ad, wSt cy ad 1 z f, wHb ad ct, wKb cy ad nx, wSt cy ad 20 (Zh 0) (Fh 0), wSt cy ad 27 (Zh 1) (Fh 1), wSt cy ad 34 (Zh 2) (Fh 2), wSt cy ad 41 (Zh 3) (Fh 3), wSt cy ad 48 (Zh 4) (Fh 4), wSt cy ad 55 (Zh 5) (Fh 5), wOt cy o0 O]) (fun (r : Int32) (u : (Nat → Int) × (Nat → Nat → Int32) × Int × Int × (Nat → Int64)) => (r = iI 0 ∧ ∃ v : Int32, (¬ h.length = 0 ∧ v = iI ((h.length : Int) - 1) ∧ RXH u.2.2.1 u.2.2.2.1 Zh Fh (h.take (h.length - 1)) ∧ ∀ M2 : MS, h[h.length - 1]? = some M2 → RS u.1 u.2.1 M2) ∧ u.2.2.2.2 0 = lI v.toInt) ∨ (r = iI 1 ∧ (h.length = 0) ∧ u.1 = z ∧ u.2.1 = f ∧ u.2.2.1 = nx ∧ u.2.2.2.1 = ct)) (fun u : (Nat → Int) × (Nat → Nat → Int32) × Int × Int × (Nat → Int64) => (List.flatten [wTop ad, wSt cy ad 1 u.1 u.2.1, wHb ad u.2.2.2.1, wKb cy ad u.2.2.1, wSt cy ad 20 (Zh 0) (Fh 0), wSt cy ad 27 (Zh 1) (Fh 1), wSt cy ad 34 (Zh 2) (Fh 2), wSt cy ad 41 (Zh 3) (Fh 3), wSt cy ad 48 (Zh 4) (Fh 4), wSt cy ad 55 (Zh 5) (Fh 5), wOt cy o0 u.2.2.2.2])) := by
  refine Ni_of (cc := cL_undo) (maxL := 3) (ret := (some .int)) (hh := [(0, 8, 11, 13)]) (by decide) rfl rfl ?_
  intro p e s m args below meth c A hx hb hr hts hown hlocks hml htab hP hK hD hT hC hZ hA ls hl
  have hS : va_S A s.heap s.heap [] := va_S.rf
  have hl : lv_has ls 3 [(0, .ref (ad 0)), (1, .ref o0)] := hl
  have hP : va_P D vwCl (List.flatten [wTop ad, wSt cy ad 1 z f, wHb ad ct, wKb cy ad nx, wSt cy ad 20 (Zh 0) (Fh 0), wSt cy ad 27 (Zh 1) (Fh 1), wSt cy ad 34 (Zh 2) (Fh 2), wSt cy ad 41 (Zh 3) (Fh 3), wSt cy ad 48 (Zh 4) (Fh 4), wSt cy ad 55 (Zh 5) (Fh 5), wOt cy o0 O]) s.heap := hP
  have hD : va_D A (List.flatten [wTop ad, wSt cy ad 1 z f, wHb ad ct, wKb cy ad nx, wSt cy ad 20 (Zh 0) (Fh 0), wSt cy ad 27 (Zh 1) (Fh 1), wSt cy ad 34 (Zh 2) (Fh 2), wSt cy ad 41 (Zh 3) (Fh 3), wSt cy ad 48 (Zh 4) (Fh 4), wSt cy ad 55 (Zh 5) (Fh 5), wOt cy o0 O]) := hD
  refine lv_aload_n hx hb dL_undo_0 rfl (lv_at hl 1 rfl) ?_
  refine lv_iconst (v := iI 0) hx hb dL_undo_1 rfl ?_
  refine lv_aload_n hx hb dL_undo_2 rfl (lv_at hl 0 rfl) ?_
  refine h_gVi (n := 0) (b := ad 0) (As := []) (rest := [.int (iI 0), .ref o0]) ⟨hx, hb, hml, hown, hts⟩ (c_X4_undo l hfl D cy ad z f M nx ct Zh Fh h (by first | assumption | omega)) gL_undo_X4_undo rfl (by decide +kernel) ⟨Nat.le_of_ble_eq_true rfl, Nat.le_of_ble_eq_true rfl⟩ hK hT hC hZ hP hS (Fp.blocks hP hD hS hA (cs := [wTop ad, wSt cy ad 1 z f, wHb ad ct, wKb cy ad nx, wSt cy ad 20 (Zh 0) (Fh 0), wSt cy ad 27 (Zh 1) (Fh 1), wSt cy ad 34 (Zh 2) (Fh 2), wSt cy ad 41 (Zh 3) (Fh 3), wSt cy ad 48 (Zh 4) (Fh 4), wSt cy ad 55 (Zh 5) (Fh 5)]) (nb := fun (u : (Nat → Int) × (Nat → Nat → Int32) × Int × Int) => [wTop ad, wSt cy ad 1 u.1 u.2.1, wHb ad u.2.2.2, wKb cy ad u.2.2.1, wSt cy ad 20 (Zh 0) (Fh 0), wSt cy ad 27 (Zh 1) (Fh 1), wSt cy ad 34 (Zh 2) (Fh 2), wSt cy ad 41 (Zh 3) (Fh 3), wSt cy ad 48 (Zh 4) (Fh 4), wSt cy ad 55 (Zh 5) (Fh 5)]) (nbs := fun (u : (Nat → Int) × (Nat → Nat → Int32) × Int × Int) => [wTop ad, wSt cy ad 1 u.1 u.2.1, wHb ad u.2.2.2, wKb cy ad u.2.2.1, wSt cy ad 20 (Zh 0) (Fh 0), wSt cy ad 27 (Zh 1) (Fh 1), wSt cy ad 34 (Zh 2) (Fh 2), wSt cy ad 41 (Zh 3) (Fh 3), wSt cy ad 48 (Zh 4) (Fh 4), wSt cy ad 55 (Zh 5) (Fh 5), wOt cy o0 O]) [0, 1, 2, 3, 4, 5, 6, 7, 8, 9] rfl rfl rfl (fun _ => rfl) (fun _ => rfl) (fun _ => rfl)) (Fp.same hP hD hS hA [0, 1, 2, 3, 4, 5, 6, 7, 8, 9, 10, 11, 12, 13, 14, 15, 16, 17, 18, 19, 20, 21, 22, 23, 24, 25, 26, 27, 28, 29, 30, 31, 32, 33, 34, 35, 36, 37, 38, 39, 40, 41, 42, 43, 44, 45, 46, 47, 48, 49, 50, 51] rfl rfl (fun _ => rfl)) 0 4 rfl rfl rfl rfl hl.1 rfl (Nat.le_of_ble_eq_true rfl) dL_undo_3 ⟨by decide, by decide⟩ (fun E ce q9 H locs hpx hP hD hS hce hcv hcl => ?_) (fun r_1 u_1 H locs hw_1 hP hD hS => ?_)
  · --
    rcases hpx with ⟨rfl, hcond⟩
    · --
      refine vx_catch (name := "java/lang/IllegalStateException") hown [] _ _ (htab.trans rfl) (by intro z hz; cases hz) (by decide) (by decide) (hts (.classLink RL 13 "java/lang/IllegalStateException") (by decide +kernel)) (va_Nw.use rfl (hC.1 xISE (List.mem_of_getElem? (i := 0) rfl))) hce hcv hcl ?_
      refine W.eq (g2 := F0 m 11 ls [.ref q9]) rfl ?_
      have hP : va_P D vwCl (List.flatten [wTop ad, wSt cy ad 1 z f, wHb ad ct, wKb cy ad nx, wSt cy ad 20 (Zh 0) (Fh 0), wSt cy ad 27 (Zh 1) (Fh 1), wSt cy ad 34 (Zh 2) (Fh 2), wSt cy ad 41 (Zh 3) (Fh 3), wSt cy ad 48 (Zh 4) (Fh 4), wSt cy ad 55 (Zh 5) (Fh 5), wOt cy o0 O]) H := hP
      have hD : va_D A (List.flatten [wTop ad, wSt cy ad 1 z f, wHb ad ct, wKb cy ad nx, wSt cy ad 20 (Zh 0) (Fh 0), wSt cy ad 27 (Zh 1) (Fh 1), wSt cy ad 34 (Zh 2) (Fh 2), wSt cy ad 41 (Zh 3) (Fh 3), wSt cy ad 48 (Zh 4) (Fh 4), wSt cy ad 55 (Zh 5) (Fh 5), wOt cy o0 O]) := hD
      refine lv_astore_n (lv' := [(2, .ref q9), (0, .ref (ad 0)), (1, .ref o0)]) hx hb dL_undo_11 rfl hl (by decide) rfl (fun ls hl => ?_)
      refine lv_iconst (v := iI 1) hx hb dL_undo_12 rfl ?_
      refine W.widen (k := 1) (n := 6 * 1) (by decide) (by decide) ?_
      exact z_iret hx hb hr hlocks hS (z, f, nx, ct, O) (show ((iI 1) = iI 0 ∧ ∃ v : Int32, (¬ h.length = 0 ∧ v = iI ((h.length : Int) - 1) ∧ RXH nx ct Zh Fh (h.take (h.length - 1)) ∧ ∀ M2 : MS, h[h.length - 1]? = some M2 → RS z f M2) ∧ O 0 = lI v.toInt) ∨ ((iI 1) = iI 1 ∧ (h.length = 0) ∧ z = z ∧ f = f ∧ nx = nx ∧ ct = ct) from (Or.inr ⟨rfl, hcond, rfl, rfl, rfl, rfl⟩)) hP dL_undo_13
  · --
    obtain ⟨z1_1, f1_1, nx1_1, ct1_1⟩ := u_1
    have hw_1 : ¬ h.length = 0 ∧ r_1 = iI ((h.length : Int) - 1) ∧ RXH nx1_1 ct1_1 Zh Fh (h.take (h.length - 1)) ∧ ∀ M2 : MS, h[h.length - 1]? = some M2 → RS z1_1 f1_1 M2 := hw_1
    have hP : va_P D vwCl (List.flatten [wTop ad, wSt cy ad 1 z1_1 f1_1, wHb ad ct1_1, wKb cy ad nx1_1, wSt cy ad 20 (Zh 0) (Fh 0), wSt cy ad 27 (Zh 1) (Fh 1), wSt cy ad 34 (Zh 2) (Fh 2), wSt cy ad 41 (Zh 3) (Fh 3), wSt cy ad 48 (Zh 4) (Fh 4), wSt cy ad 55 (Zh 5) (Fh 5), wOt cy o0 O]) H := hP
    have hD : va_D A (List.flatten [wTop ad, wSt cy ad 1 z1_1 f1_1, wHb ad ct1_1, wKb cy ad nx1_1, wSt cy ad 20 (Zh 0) (Fh 0), wSt cy ad 27 (Zh 1) (Fh 1), wSt cy ad 34 (Zh 2) (Fh 2), wSt cy ad 41 (Zh 3) (Fh 3), wSt cy ad 48 (Zh 4) (Fh 4), wSt cy ad 55 (Zh 5) (Fh 5), wOt cy o0 O]) := hD
    refine z_i2l hx hb (r_l r_1) dL_undo_6 ?_
    refine z_last hx hb hK hP hD hS 52 rfl dL_undo_7 (fun H locs hP hD hS => ?_)
    have hP : va_P D vwCl (List.flatten [wTop ad, wSt cy ad 1 z1_1 f1_1, wHb ad ct1_1, wKb cy ad nx1_1, wSt cy ad 20 (Zh 0) (Fh 0), wSt cy ad 27 (Zh 1) (Fh 1), wSt cy ad 34 (Zh 2) (Fh 2), wSt cy ad 41 (Zh 3) (Fh 3), wSt cy ad 48 (Zh 4) (Fh 4), wSt cy ad 55 (Zh 5) (Fh 5), wOt cy o0 (vp_updL O 0 (lI r_1.toInt))]) H := hP
    have hD : va_D A (List.flatten [wTop ad, wSt cy ad 1 z1_1 f1_1, wHb ad ct1_1, wKb cy ad nx1_1, wSt cy ad 20 (Zh 0) (Fh 0), wSt cy ad 27 (Zh 1) (Fh 1), wSt cy ad 34 (Zh 2) (Fh 2), wSt cy ad 41 (Zh 3) (Fh 3), wSt cy ad 48 (Zh 4) (Fh 4), wSt cy ad 55 (Zh 5) (Fh 5), wOt cy o0 (vp_updL O 0 (lI r_1.toInt))]) := hD
    refine lv_goto (tgt := 14) hx hb dL_undo_8 (by decide) ?_
    refine lv_iconst (v := iI 0) hx hb dL_undo_14 rfl ?_
    refine W.widen (k := 1) (n := 6 * 1) (by decide) (by decide) ?_
    exact z_iret hx hb hr hlocks hS (z1_1, f1_1, nx1_1, ct1_1, vp_updL O 0 (lI r_1.toInt)) (show ((iI 0) = iI 0 ∧ ∃ v : Int32, (¬ h.length = 0 ∧ v = iI ((h.length : Int) - 1) ∧ RXH nx1_1 ct1_1 Zh Fh (h.take (h.length - 1)) ∧ ∀ M2 : MS, h[h.length - 1]? = some M2 → RS z1_1 f1_1 M2) ∧ (vp_updL O 0 (lI r_1.toInt)) 0 = lI v.toInt) ∨ ((iI 0) = iI 1 ∧ (h.length = 0) ∧ z1_1 = z ∧ f1_1 = f ∧ nx1_1 = nx ∧ ct1_1 = ct) from (Or.inl ⟨rfl, r_1, hw_1, by simp [vp_updL]⟩)) hP dL_undo_15
set_option maxHeartbeats 4000000 in
set_option maxRecDepth 100000 in
theorem c_L_saveState (l : Launch) (hfl : l.stackTraces = false) (D : va_G) (cy : Nat → ClassId) (ad : Nat → Nat) (z : Nat → Int) (f : Nat → Nat → Int32) (M : MS) (Zs : Nat → Nat → Int) (Fs : Nat → Nat → Nat → Int32) (sv : Nat → Int32) (sl : Nat → Option MS) (x : Int) (o0 : Nat) (O : Nat → Int64) (hR : RS z f M) (hM : MOk M) (hSl : RXS sv Zs Fs sl) (hx1 : -2147483648 ≤ x ∧ x < 2147483648) : Ni l D cy yL_saveState wsL_saveState 8 133 1 [.ref (ad 0), .int (iI x), .ref o0] (List.flatten [wTop ad, wSt cy ad 1 z f, wSa cy ad, wSt cy ad 63 (Zs 0) (Fs 0), wSt cy ad 70 (Zs 1) (Fs 1), wSv cy ad sv, wOt cy o0 O]) (fun (r : Int32) (u : (Nat → Nat → Int) × (Nat → Nat → Nat → Int32) × (Nat → Int32) × (Nat → Int64)) => (r = iI 0 ∧ ∃ v : Int32, ((x = 0 ∨ x = 1) ∧ v = iI (M.1.length : Int) ∧ RXS u.2.2.1 u.1 u.2.1 (fun j => if j = x.toNat then some M else sl j)) ∧ u.2.2.2 0 = lI v.toInt) ∨ (r = iI 1 ∧ (¬ (x = 0 ∨ x = 1)) ∧ u.1 = Zs ∧ u.2.1 = Fs ∧ u.2.2.1 = sv)) (fun u : (Nat → Nat → Int) × (Nat → Nat → Nat → Int32) × (Nat → Int32) × (Nat → Int64) => (List.flatten [wTop ad, wSt cy ad 1 z f, wSa cy ad, wSt cy ad 63 (u.1 0) (u.2.1 0), wSt cy ad 70 (u.1 1) (u.2.1 1), wSv cy ad u.2.2.1, wOt cy o0 u.2.2.2])) := by
  refine Ni_of (cc := cL_saveState) (maxL := 4) (ret := (some .int)) (hh := [(0, 9, 12, 25)]) (by decide) rfl rfl ?_
  intro p e s m args below meth c A hx hb hr hts hown hlocks hml htab hP hK hD hT hC hZ hA ls hl
  have hS : va_S A s.heap s.heap [] := va_S.rf
  have hl : lv_has ls 4 [(0, .ref (ad 0)), (1, .int (iI x)), (2, .ref o0)] := hl
  have hP : va_P D vwCl (List.flatten [wTop ad, wSt cy ad 1 z f, wSa cy ad, wSt cy ad 63 (Zs 0) (Fs 0), wSt cy ad 70 (Zs 1) (Fs 1), wSv cy ad sv, wOt cy o0 O]) s.heap := hP
  have hD : va_D A (List.flatten [wTop ad, wSt cy ad 1 z f, wSa cy ad, wSt cy ad 63 (Zs 0) (Fs 0), wSt cy ad 70 (Zs 1) (Fs 1), wSv cy ad sv, wOt cy o0 O]) := hD
  refine lv_aload_n hx hb dL_saveState_0 rfl (lv_at hl 2 rfl) ?_
  refine lv_iconst (v := iI 0) hx hb dL_saveState_1 rfl ?_
  refine lv_aload_n hx hb dL_saveState_2 rfl (lv_at hl 0 rfl) ?_
  refine lv_iload_n hx hb dL_saveState_3 rfl (lv_at hl 1 rfl) ?_
  refine h_gVi (n := 1) (b := ad 0) (As := [.int (iI x)]) (rest := [.int (iI 0), .ref o0]) ⟨hx, hb, hml, hown, hts⟩ (c_X4_saveState l hfl D cy ad z f M Zs Fs sv sl x (by first | assumption | omega) (by first | assumption | omega) (by first | assumption | omega) (by first | assumption | omega)) gL_saveState_X4_saveState rfl (by decide +kernel) ⟨Nat.le_of_ble_eq_true rfl, Nat.le_of_ble_eq_true rfl⟩ hK hT hC hZ hP hS (Fp.blocks hP hD hS hA (cs := [wTop ad, wSt cy ad 1 z f, wSa cy ad, wSt cy ad 63 (Zs 0) (Fs 0), wSt cy ad 70 (Zs 1) (Fs 1), wSv cy ad sv]) (nb := fun (u : (Nat → Nat → Int) × (Nat → Nat → Nat → Int32) × (Nat → Int32)) => [wTop ad, wSt cy ad 1 z f, wSa cy ad, wSt cy ad 63 (u.1 0) (u.2.1 0), wSt cy ad 70 (u.1 1) (u.2.1 1), wSv cy ad u.2.2]) (nbs := fun (u : (Nat → Nat → Int) × (Nat → Nat → Nat → Int32) × (Nat → Int32)) => [wTop ad, wSt cy ad 1 z f, wSa cy ad, wSt cy ad 63 (u.1 0) (u.2.1 0), wSt cy ad 70 (u.1 1) (u.2.1 1), wSv cy ad u.2.2, wOt cy o0 O]) [0, 1, 2, 3, 4, 5] rfl rfl rfl (fun _ => rfl) (fun _ => rfl) (fun _ => rfl)) (Fp.same hP hD hS hA [0, 1, 2, 3, 4, 5, 6, 7, 8, 9, 10, 11, 12, 13, 14, 15, 16, 17, 18, 19, 20, 21, 22, 23] rfl rfl (fun _ => rfl)) 0 4 rfl rfl rfl rfl hl.1 rfl (Nat.le_of_ble_eq_true rfl) dL_saveState_4 ⟨by decide, by decide⟩ (fun E ce q9 H locs hpx hP hD hS hce hcv hcl => ?_) (fun r_1 u_1 H locs hw_1 hP hD hS => ?_)
  · --
    rcases hpx with ⟨rfl, hcond⟩
    · --
      refine vx_catch (name := "java/lang/IndexOutOfBoundsException") hown [] _ _ (htab.trans rfl) (by intro z hz; cases hz) (by decide) (by decide) (hts (.classLink RL 25 "java/lang/IndexOutOfBoundsException") (by decide +kernel)) (va_Nw.use rfl (hC.1 xIOB (List.mem_of_getElem? (i := 2) rfl))) hce hcv hcl ?_
      refine W.eq (g2 := F0 m 12 ls [.ref q9]) rfl ?_
      have hP : va_P D vwCl (List.flatten [wTop ad, wSt cy ad 1 z f, wSa cy ad, wSt cy ad 63 (Zs 0) (Fs 0), wSt cy ad 70 (Zs 1) (Fs 1), wSv cy ad sv, wOt cy o0 O]) H := hP
      have hD : va_D A (List.flatten [wTop ad, wSt cy ad 1 z f, wSa cy ad, wSt cy ad 63 (Zs 0) (Fs 0), wSt cy ad 70 (Zs 1) (Fs 1), wSv cy ad sv, wOt cy o0 O]) := hD
      refine lv_astore_n (lv' := [(3, .ref q9), (0, .ref (ad 0)), (1, .int (iI x)), (2, .ref o0)]) hx hb dL_saveState_12 rfl hl (by decide) rfl (fun ls hl => ?_)
      refine lv_iconst (v := iI 1) hx hb dL_saveState_13 rfl ?_
      refine W.widen (k := 1) (n := 6 * 1) (by decide) (by decide) ?_
      exact z_iret hx hb hr hlocks hS (Zs, Fs, sv, O) (show ((iI 1) = iI 0 ∧ ∃ v : Int32, ((x = 0 ∨ x = 1) ∧ v = iI (M.1.length : Int) ∧ RXS sv Zs Fs (fun j => if j = x.toNat then some M else sl j)) ∧ O 0 = lI v.toInt) ∨ ((iI 1) = iI 1 ∧ (¬ (x = 0 ∨ x = 1)) ∧ Zs = Zs ∧ Fs = Fs ∧ sv = sv) from (Or.inr ⟨rfl, hcond, rfl, rfl, rfl⟩)) hP dL_saveState_14
  · --
    obtain ⟨Zs1_1, Fs1_1, sv1_1⟩ := u_1
    have hw_1 : (x = 0 ∨ x = 1) ∧ r_1 = iI (M.1.length : Int) ∧ RXS sv1_1 Zs1_1 Fs1_1 (fun j => if j = x.toNat then some M else sl j) := hw_1
    have hP : va_P D vwCl (List.flatten [wTop ad, wSt cy ad 1 z f, wSa cy ad, wSt cy ad 63 (Zs1_1 0) (Fs1_1 0), wSt cy ad 70 (Zs1_1 1) (Fs1_1 1), wSv cy ad sv1_1, wOt cy o0 O]) H := hP
    have hD : va_D A (List.flatten [wTop ad, wSt cy ad 1 z f, wSa cy ad, wSt cy ad 63 (Zs1_1 0) (Fs1_1 0), wSt cy ad 70 (Zs1_1 1) (Fs1_1 1), wSv cy ad sv1_1, wOt cy o0 O]) := hD
    refine z_i2l hx hb (r_l r_1) dL_saveState_7 ?_
    refine z_last hx hb hK hP hD hS 24 rfl dL_saveState_8 (fun H locs hP hD hS => ?_)
    have hP : va_P D vwCl (List.flatten [wTop ad, wSt cy ad 1 z f, wSa cy ad, wSt cy ad 63 (Zs1_1 0) (Fs1_1 0), wSt cy ad 70 (Zs1_1 1) (Fs1_1 1), wSv cy ad sv1_1, wOt cy o0 (vp_updL O 0 (lI r_1.toInt))]) H := hP
    have hD : va_D A (List.flatten [wTop ad, wSt cy ad 1 z f, wSa cy ad, wSt cy ad 63 (Zs1_1 0) (Fs1_1 0), wSt cy ad 70 (Zs1_1 1) (Fs1_1 1), wSv cy ad sv1_1, wOt cy o0 (vp_updL O 0 (lI r_1.toInt))]) := hD
    refine lv_goto (tgt := 15) hx hb dL_saveState_9 (by decide) ?_
    refine lv_iconst (v := iI 0) hx hb dL_saveState_15 rfl ?_
    refine W.widen (k := 1) (n := 6 * 1) (by decide) (by decide) ?_
    exact z_iret hx hb hr hlocks hS (Zs1_1, Fs1_1, sv1_1, vp_updL O 0 (lI r_1.toInt)) (show ((iI 0) = iI 0 ∧ ∃ v : Int32, ((x = 0 ∨ x = 1) ∧ v = iI (M.1.length : Int) ∧ RXS sv1_1 Zs1_1 Fs1_1 (fun j => if j = x.toNat then some M else sl j)) ∧ (vp_updL O 0 (lI r_1.toInt)) 0 = lI v.toInt) ∨ ((iI 0) = iI 1 ∧ (¬ (x = 0 ∨ x = 1)) ∧ Zs1_1 = Zs ∧ Fs1_1 = Fs ∧ sv1_1 = sv) from (Or.inl ⟨rfl, r_1, hw_1, by simp [vp_updL]⟩)) hP dL_saveState_16
set_option maxHeartbeats 4000000 in
set_option maxRecDepth 100000 in
theorem c_L_loadState (l : Launch) (hfl : l.stackTraces = false) (D : va_G) (cy : Nat → ClassId) (ad : Nat → Nat) (z : Nat → Int) (f : Nat → Nat → Int32) (M : MS) (nx : Int) (ct : Int) (Zh : Nat → Nat → Int) (Fh : Nat → Nat → Nat → Int32) (h : List MS) (Zs : Nat → Nat → Int) (Fs : Nat → Nat → Nat → Int32) (sv : Nat → Int32) (sl : Nat → Option MS) (x : Int) (o0 : Nat) (O : Nat → Int64) (hR : RS z f M) (hM : MOk M) (hH : RXH nx ct Zh Fh h) (hSl : RXS sv Zs Fs sl) (hx1 : -2147483648 ≤ x ∧ x < 2147483648) : Ni l D cy yL_loadState wsL_loadState 8 133 2 [.ref (ad 0), .int (iI x), .ref o0] (List.flatten [wTop ad, wSt cy ad 1 z f, wHb ad ct, wKb cy ad nx, wSt cy ad 20 (Zh 0) (Fh 0), wSt cy ad 27 (Zh 1) (Fh 1), wSt cy ad 34 (Zh 2) (Fh 2), wSt cy ad 41 (Zh 3) (Fh 3), wSt cy ad 48 (Zh 4) (Fh 4), wSt cy ad 55 (Zh 5) (Fh 5), wSa cy ad, wSt cy ad 63 (Zs 0) (Fs 0), wSt cy ad 70 (Zs 1) (Fs 1), wSv cy ad sv, wOt cy o0 O]) (fun (r : Int32) (u : (Nat → Int) × (Nat → Nat → Int32) × Int × Int × (Nat → Nat → Int) × (Nat → Nat → Nat → Int32) × (Nat → Int64)) => (r = iI 0 ∧ ∃ v : Int32, ((x = 0 ∨ x = 1) ∧ (∃ M2 : MS, sl x.toNat = some M2 ∧ v = iI (M2.1.length : Int) ∧ RS u.1 u.2.1 M2) ∧ RXH u.2.2.1 u.2.2.2.1 u.2.2.2.2.1 u.2.2.2.2.2.1 (pushH h M)) ∧ u.2.2.2.2.2.2 0 = lI v.toInt) ∨ (r = iI 1 ∧ (¬ (x = 0 ∨ x = 1)) ∧ u.1 = z ∧ u.2.1 = f ∧ u.2.2.1 = nx ∧ u.2.2.2.1 = ct ∧ u.2.2.2.2.1 = Zh ∧ u.2.2.2.2.2.1 = Fh) ∨ (r = iI 2 ∧ ((x = 0 ∨ x = 1) ∧ sl x.toNat = none) ∧ u.1 = z ∧ u.2.1 = f ∧ u.2.2.1 = nx ∧ u.2.2.2.1 = ct ∧ u.2.2.2.2.1 = Zh ∧ u.2.2.2.2.2.1 = Fh)) (fun u : (Nat → Int) × (Nat → Nat → Int32) × Int × Int × (Nat → Nat → Int) × (Nat → Nat → Nat → Int32) × (Nat → Int64) => (List.flatten [wTop ad, wSt cy ad 1 u.1 u.2.1, wHb ad u.2.2.2.1, wKb cy ad u.2.2.1, wSt cy ad 20 (u.2.2.2.2.1 0) (u.2.2.2.2.2.1 0), wSt cy ad 27 (u.2.2.2.2.1 1) (u.2.2.2.2.2.1 1), wSt cy ad 34 (u.2.2.2.2.1 2) (u.2.2.2.2.2.1 2), wSt cy ad 41 (u.2.2.2.2.1 3) (u.2.2.2.2.2.1 3), wSt cy ad 48 (u.2.2.2.2.1 4) (u.2.2.2.2.2.1 4), wSt cy ad 55 (u.2.2.2.2.1 5) (u.2.2.2.2.2.1 5), wSa cy ad, wSt cy ad 63 (Zs 0) (Fs 0), wSt cy ad 70 (Zs 1) (Fs 1), wSv cy ad sv, wOt cy o0 u.2.2.2.2.2.2])) := by
  refine Ni_of (cc := cL_loadState) (maxL := 4) (ret := (some .int)) (hh := [(0, 9, 12, 25), (0, 9, 15, 13)]) (by decide) rfl rfl ?_
  intro p e s m args below meth c A hx hb hr hts hown hlocks hml htab hP hK hD hT hC hZ hA ls hl
  have hS : va_S A s.heap s.heap [] := va_S.rf
  have hl : lv_has ls 4 [(0, .ref (ad 0)), (1, .int (iI x)), (2, .ref o0)] := hl
  have hP : va_P D vwCl (List.flatten [wTop ad, wSt cy ad 1 z f, wHb ad ct, wKb cy ad nx, wSt cy ad 20 (Zh 0) (Fh 0), wSt cy ad 27 (Zh 1) (Fh 1), wSt cy ad 34 (Zh 2) (Fh 2), wSt cy ad 41 (Zh 3) (Fh 3), wSt cy ad 48 (Zh 4) (Fh 4), wSt cy ad 55 (Zh 5) (Fh 5), wSa cy ad, wSt cy ad 63 (Zs 0) (Fs 0), wSt cy ad 70 (Zs 1) (Fs 1), wSv cy ad sv, wOt cy o0 O]) s.heap := hP
  have hD : va_D A (List.flatten [wTop ad, wSt cy ad 1 z f, wHb ad ct, wKb cy ad nx, wSt cy ad 20 (Zh 0) (Fh 0), wSt cy ad 27 (Zh 1) (Fh 1), wSt cy ad 34 (Zh 2) (Fh 2), wSt cy ad 41 (Zh 3) (Fh 3), wSt cy ad 48 (Zh 4) (Fh 4), wSt cy ad 55 (Zh 5) (Fh 5), wSa cy ad, wSt cy ad 63 (Zs 0) (Fs 0), wSt cy ad 70 (Zs 1) (Fs 1), wSv cy ad sv, wOt cy o0 O]) := hD
  refine lv_aload_n hx hb dL_loadState_0 rfl (lv_at hl 2 rfl) ?_
  refine lv_iconst (v := iI 0) hx hb dL_loadState_1 rfl ?_
  refine lv_aload_n hx hb dL_loadState_2 rfl (lv_at hl 0 rfl) ?_
  refine lv_iload_n hx hb dL_loadState_3 rfl (lv_at hl 1 rfl) ?_
  refine h_gVi (n := 1) (b := ad 0) (As := [.int (iI x)]) (rest := [.int (iI 0), .ref o0]) ⟨hx, hb, hml, hown, hts⟩ (c_X4_loadState l hfl D cy ad z f M nx ct Zh Fh h Zs Fs sv sl x (by first | assumption | omega) (by first | assumption | omega) (by first | assumption | omega) (by first | assumption | omega) (by first | assumption | omega)) gL_loadState_X4_loadState rfl (by decide +kernel) ⟨Nat.le_of_ble_eq_true rfl, Nat.le_of_ble_eq_true rfl⟩ hK hT hC hZ hP hS (Fp.blocks hP hD hS hA (cs := [wTop ad, wSt cy ad 1 z f, wHb ad ct, wKb cy ad nx, wSt cy ad 20 (Zh 0) (Fh 0), wSt cy ad 27 (Zh 1) (Fh 1), wSt cy ad 34 (Zh 2) (Fh 2), wSt cy ad 41 (Zh 3) (Fh 3), wSt cy ad 48 (Zh 4) (Fh 4), wSt cy ad 55 (Zh 5) (Fh 5), wSa cy ad, wSt cy ad 63 (Zs 0) (Fs 0), wSt cy ad 70 (Zs 1) (Fs 1), wSv cy ad sv]) (nb := fun (u : (Nat → Int) × (Nat → Nat → Int32) × Int × Int × (Nat → Nat → Int) × (Nat → Nat → Nat → Int32)) => [wTop ad, wSt cy ad 1 u.1 u.2.1, wHb ad u.2.2.2.1, wKb cy ad u.2.2.1, wSt cy ad 20 (u.2.2.2.2.1 0) (u.2.2.2.2.2 0), wSt cy ad 27 (u.2.2.2.2.1 1) (u.2.2.2.2.2 1), wSt cy ad 34 (u.2.2.2.2.1 2) (u.2.2.2.2.2 2), wSt cy ad 41 (u.2.2.2.2.1 3) (u.2.2.2.2.2 3), wSt cy ad 48 (u.2.2.2.2.1 4) (u.2.2.2.2.2 4), wSt cy ad 55 (u.2.2.2.2.1 5) (u.2.2.2.2.2 5), wSa cy ad, wSt cy ad 63 (Zs 0) (Fs 0), wSt cy ad 70 (Zs 1) (Fs 1), wSv cy ad sv]) (nbs := fun (u : (Nat → Int) × (Nat → Nat → Int32) × Int × Int × (Nat → Nat → Int) × (Nat → Nat → Nat → Int32)) => [wTop ad, wSt cy ad 1 u.1 u.2.1, wHb ad u.2.2.2.1, wKb cy ad u.2.2.1, wSt cy ad 20 (u.2.2.2.2.1 0) (u.2.2.2.2.2 0), wSt cy ad 27 (u.2.2.2.2.1 1) (u.2.2.2.2.2 1), wSt cy ad 34 (u.2.2.2.2.1 2) (u.2.2.2.2.2 2), wSt cy ad 41 (u.2.2.2.2.1 3) (u.2.2.2.2.2 3), wSt cy ad 48 (u.2.2.2.2.1 4) (u.2.2.2.2.2 4), wSt cy ad 55 (u.2.2.2.2.1 5) (u.2.2.2.2.2 5), wSa cy ad, wSt cy ad 63 (Zs 0) (Fs 0), wSt cy ad 70 (Zs 1) (Fs 1), wSv cy ad sv, wOt cy o0 O]) [0, 1, 2, 3, 4, 5, 6, 7, 8, 9, 10, 11, 12, 13] rfl rfl rfl (fun _ => rfl) (fun _ => rfl) (fun _ => rfl)) (Fp.same hP hD hS hA [0, 1, 2, 3, 4, 5, 6, 7, 8, 9, 10, 11, 12, 13, 14, 15, 16, 17, 18, 19, 20, 21, 22, 23, 24, 25, 26, 27, 28, 29, 30, 31, 32, 33, 34, 35, 36, 37, 38, 39, 40, 41, 42, 43, 44, 45, 46, 47, 48, 49, 50, 51, 52, 53, 54, 55, 56, 57, 58, 59, 60, 61, 62, 63, 64, 65, 66, 67] rfl rfl (fun _ => rfl)) 0 4 rfl rfl rfl rfl hl.1 rfl (Nat.le_of_ble_eq_true rfl) dL_loadState_4 ⟨by decide, by decide⟩ (fun E ce q9 H locs hpx hP hD hS hce hcv hcl => ?_) (fun r_1 u_1 H locs hw_1 hP hD hS => ?_)
  · --
    rcases hpx with ⟨rfl, hcond⟩ | ⟨rfl, hcond⟩
    · --
      refine vx_catch (name := "java/lang/IndexOutOfBoundsException") hown [] _ _ (htab.trans rfl) (by intro z hz; cases hz) (by decide) (by decide) (hts (.classLink RL 25 "java/lang/IndexOutOfBoundsException") (by decide +kernel)) (va_Nw.use rfl (hC.1 xIOB (List.mem_of_getElem? (i := 2) rfl))) hce hcv hcl ?_
      refine W.eq (g2 := F0 m 12 ls [.ref q9]) rfl ?_
      have hP : va_P D vwCl (List.flatten [wTop ad, wSt cy ad 1 z f, wHb ad ct, wKb cy ad nx, wSt cy ad 20 (Zh 0) (Fh 0), wSt cy ad 27 (Zh 1) (Fh 1), wSt cy ad 34 (Zh 2) (Fh 2), wSt cy ad 41 (Zh 3) (Fh 3), wSt cy ad 48 (Zh 4) (Fh 4), wSt cy ad 55 (Zh 5) (Fh 5), wSa cy ad, wSt cy ad 63 (Zs 0) (Fs 0), wSt cy ad 70 (Zs 1) (Fs 1), wSv cy ad sv, wOt cy o0 O]) H := hP
      have hD : va_D A (List.flatten [wTop ad, wSt cy ad 1 z f, wHb ad ct, wKb cy ad nx, wSt cy ad 20 (Zh 0) (Fh 0), wSt cy ad 27 (Zh 1) (Fh 1), wSt cy ad 34 (Zh 2) (Fh 2), wSt cy ad 41 (Zh 3) (Fh 3), wSt cy ad 48 (Zh 4) (Fh 4), wSt cy ad 55 (Zh 5) (Fh 5), wSa cy ad, wSt cy ad 63 (Zs 0) (Fs 0), wSt cy ad 70 (Zs 1) (Fs 1), wSv cy ad sv, wOt cy o0 O]) := hD
      refine lv_astore_n (lv' := [(3, .ref q9), (0, .ref (ad 0)), (1, .int (iI x)), (2, .ref o0)]) hx hb dL_loadState_12 rfl hl (by decide) rfl (fun ls hl => ?_)
      refine lv_iconst (v := iI 1) hx hb dL_loadState_13 rfl ?_
      refine W.widen (k := 2) (n := 6 * 2) (by decide) (by decide) ?_
      exact z_iret hx hb hr hlocks hS (z, f, nx, ct, Zh, Fh, O) (show ((iI 1) = iI 0 ∧ ∃ v : Int32, ((x = 0 ∨ x = 1) ∧ (∃ M2 : MS, sl x.toNat = some M2 ∧ v = iI (M2.1.length : Int) ∧ RS z f M2) ∧ RXH nx ct Zh Fh (pushH h M)) ∧ O 0 = lI v.toInt) ∨ ((iI 1) = iI 1 ∧ (¬ (x = 0 ∨ x = 1)) ∧ z = z ∧ f = f ∧ nx = nx ∧ ct = ct ∧ Zh = Zh ∧ Fh = Fh) ∨ ((iI 1) = iI 2 ∧ ((x = 0 ∨ x = 1) ∧ sl x.toNat = none) ∧ z = z ∧ f = f ∧ nx = nx ∧ ct = ct ∧ Zh = Zh ∧ Fh = Fh) from (Or.inr (Or.inl ⟨rfl, hcond, rfl, rfl, rfl, rfl, rfl, rfl⟩))) hP dL_loadState_14
    · --
      refine vx_catch (name := "java/lang/IllegalStateException") hown [_] _ _ (htab.trans rfl) (by
          intro z hz
          rcases List.mem_singleton.mp hz with rfl
          exact Or.inr ⟨by decide, "java/lang/IndexOutOfBoundsException", hts (.classLink RL 25 "java/lang/IndexOutOfBoundsException") (by decide +kernel), hC.2.2.1⟩) (by decide) (by decide) (hts (.classLink RL 13 "java/lang/IllegalStateException") (by decide +kernel)) (va_Nw.use rfl (hC.1 xISE (List.mem_of_getElem? (i := 0) rfl))) hce hcv hcl ?_
      refine W.eq (g2 := F0 m 15 ls [.ref q9]) rfl ?_
      have hP : va_P D vwCl (List.flatten [wTop ad, wSt cy ad 1 z f, wHb ad ct, wKb cy ad nx, wSt cy ad 20 (Zh 0) (Fh 0), wSt cy ad 27 (Zh 1) (Fh 1), wSt cy ad 34 (Zh 2) (Fh 2), wSt cy ad 41 (Zh 3) (Fh 3), wSt cy ad 48 (Zh 4) (Fh 4), wSt cy ad 55 (Zh 5) (Fh 5), wSa cy ad, wSt cy ad 63 (Zs 0) (Fs 0), wSt cy ad 70 (Zs 1) (Fs 1), wSv cy ad sv, wOt cy o0 O]) H := hP
      have hD : va_D A (List.flatten [wTop ad, wSt cy ad 1 z f, wHb ad ct, wKb cy ad nx, wSt cy ad 20 (Zh 0) (Fh 0), wSt cy ad 27 (Zh 1) (Fh 1), wSt cy ad 34 (Zh 2) (Fh 2), wSt cy ad 41 (Zh 3) (Fh 3), wSt cy ad 48 (Zh 4) (Fh 4), wSt cy ad 55 (Zh 5) (Fh 5), wSa cy ad, wSt cy ad 63 (Zs 0) (Fs 0), wSt cy ad 70 (Zs 1) (Fs 1), wSv cy ad sv, wOt cy o0 O]) := hD
      refine lv_astore_n (lv' := [(3, .ref q9), (0, .ref (ad 0)), (1, .int (iI x)), (2, .ref o0)]) hx hb dL_loadState_15 rfl hl (by decide) rfl (fun ls hl => ?_)
      refine lv_iconst (v := iI 2) hx hb dL_loadState_16 rfl ?_
      refine W.widen (k := 2) (n := 6 * 2) (by decide) (by decide) ?_
      exact z_iret hx hb hr hlocks hS (z, f, nx, ct, Zh, Fh, O) (show ((iI 2) = iI 0 ∧ ∃ v : Int32, ((x = 0 ∨ x = 1) ∧ (∃ M2 : MS, sl x.toNat = some M2 ∧ v = iI (M2.1.length : Int) ∧ RS z f M2) ∧ RXH nx ct Zh Fh (pushH h M)) ∧ O 0 = lI v.toInt) ∨ ((iI 2) = iI 1 ∧ (¬ (x = 0 ∨ x = 1)) ∧ z = z ∧ f = f ∧ nx = nx ∧ ct = ct ∧ Zh = Zh ∧ Fh = Fh) ∨ ((iI 2) = iI 2 ∧ ((x = 0 ∨ x = 1) ∧ sl x.toNat = none) ∧ z = z ∧ f = f ∧ nx = nx ∧ ct = ct ∧ Zh = Zh ∧ Fh = Fh) from (Or.inr (Or.inr ⟨rfl, hcond, rfl, rfl, rfl, rfl, rfl, rfl⟩))) hP dL_loadState_17
  · --
    obtain ⟨z1_1, f1_1, nx1_1, ct1_1, Zh1_1, Fh1_1⟩ := u_1
    have hw_1 : (x = 0 ∨ x = 1) ∧ (∃ M2 : MS, sl x.toNat = some M2 ∧ r_1 = iI (M2.1.length : Int) ∧ RS z1_1 f1_1 M2) ∧ RXH nx1_1 ct1_1 Zh1_1 Fh1_1 (pushH h M) := hw_1
    have hP : va_P D vwCl (List.flatten [wTop ad, wSt cy ad 1 z1_1 f1_1, wHb ad ct1_1, wKb cy ad nx1_1, wSt cy ad 20 (Zh1_1 0) (Fh1_1 0), wSt cy ad 27 (Zh1_1 1) (Fh1_1 1), wSt cy ad 34 (Zh1_1 2) (Fh1_1 2), wSt cy ad 41 (Zh1_1 3) (Fh1_1 3), wSt cy ad 48 (Zh1_1 4) (Fh1_1 4), wSt cy ad 55 (Zh1_1 5) (Fh1_1 5), wSa cy ad, wSt cy ad 63 (Zs 0) (Fs 0), wSt cy ad 70 (Zs 1) (Fs 1), wSv cy ad sv, wOt cy o0 O]) H := hP
    have hD : va_D A (List.flatten [wTop ad, wSt cy ad 1 z1_1 f1_1, wHb ad ct1_1, wKb cy ad nx1_1, wSt cy ad 20 (Zh1_1 0) (Fh1_1 0), wSt cy ad 27 (Zh1_1 1) (Fh1_1 1), wSt cy ad 34 (Zh1_1 2) (Fh1_1 2), wSt cy ad 41 (Zh1_1 3) (Fh1_1 3), wSt cy ad 48 (Zh1_1 4) (Fh1_1 4), wSt cy ad 55 (Zh1_1 5) (Fh1_1 5), wSa cy ad, wSt cy ad 63 (Zs 0) (Fs 0), wSt cy ad 70 (Zs 1) (Fs 1), wSv cy ad sv, wOt cy o0 O]) := hD
    refine z_i2l hx hb (r_l r_1) dL_loadState_7 ?_
    refine z_last hx hb hK hP hD hS 68 rfl dL_loadState_8 (fun H locs hP hD hS => ?_)
    have hP : va_P D vwCl (List.flatten [wTop ad, wSt cy ad 1 z1_1 f1_1, wHb ad ct1_1, wKb cy ad nx1_1, wSt cy ad 20 (Zh1_1 0) (Fh1_1 0), wSt cy ad 27 (Zh1_1 1) (Fh1_1 1), wSt cy ad 34 (Zh1_1 2) (Fh1_1 2), wSt cy ad 41 (Zh1_1 3) (Fh1_1 3), wSt cy ad 48 (Zh1_1 4) (Fh1_1 4), wSt cy ad 55 (Zh1_1 5) (Fh1_1 5), wSa cy ad, wSt cy ad 63 (Zs 0) (Fs 0), wSt cy ad 70 (Zs 1) (Fs 1), wSv cy ad sv, wOt cy o0 (vp_updL O 0 (lI r_1.toInt))]) H := hP
    have hD : va_D A (List.flatten [wTop ad, wSt cy ad 1 z1_1 f1_1, wHb ad ct1_1, wKb cy ad nx1_1, wSt cy ad 20 (Zh1_1 0) (Fh1_1 0), wSt cy ad 27 (Zh1_1 1) (Fh1_1 1), wSt cy ad 34 (Zh1_1 2) (Fh1_1 2), wSt cy ad 41 (Zh1_1 3) (Fh1_1 3), wSt cy ad 48 (Zh1_1 4) (Fh1_1 4), wSt cy ad 55 (Zh1_1 5) (Fh1_1 5), wSa cy ad, wSt cy ad 63 (Zs 0) (Fs 0), wSt cy ad 70 (Zs 1) (Fs 1), wSv cy ad sv, wOt cy o0 (vp_updL O 0 (lI r_1.toInt))]) := hD
    refine lv_goto (tgt := 18) hx hb dL_loadState_9 (by decide) ?_
    refine lv_iconst (v := iI 0) hx hb dL_loadState_18 rfl ?_
    refine W.widen (k := 2) (n := 6 * 2) (by decide) (by decide) ?_
    exact z_iret hx hb hr hlocks hS (z1_1, f1_1, nx1_1, ct1_1, Zh1_1, Fh1_1, vp_updL O 0 (lI r_1.toInt)) (show ((iI 0) = iI 0 ∧ ∃ v : Int32, ((x = 0 ∨ x = 1) ∧ (∃ M2 : MS, sl x.toNat = some M2 ∧ v = iI (M2.1.length : Int) ∧ RS z1_1 f1_1 M2) ∧ RXH nx1_1 ct1_1 Zh1_1 Fh1_1 (pushH h M)) ∧ (vp_updL O 0 (lI r_1.toInt)) 0 = lI v.toInt) ∨ ((iI 0) = iI 1 ∧ (¬ (x = 0 ∨ x = 1)) ∧ z1_1 = z ∧ f1_1 = f ∧ nx1_1 = nx ∧ ct1_1 = ct ∧ Zh1_1 = Zh ∧ Fh1_1 = Fh) ∨ ((iI 0) = iI 2 ∧ ((x = 0 ∨ x = 1) ∧ sl x.toNat = none) ∧ z1_1 = z ∧ f1_1 = f ∧ nx1_1 = nx ∧ ct1_1 = ct ∧ Zh1_1 = Zh ∧ Fh1_1 = Fh) from (Or.inl ⟨rfl, r_1, hw_1, by simp [vp_updL]⟩)) hP dL_loadState_19

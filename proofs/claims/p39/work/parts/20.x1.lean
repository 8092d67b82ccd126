theorem dX4_refuseUnlessIn_0 : decode cX4_refuseUnlessIn 0 = .ok (.aload_n 0, 1) := by decide +kernel
theorem dX4_refuseUnlessIn_1 : decode cX4_refuseUnlessIn 1 = .ok (.iload_n 1, 1) := by decide +kernel
theorem dX4_refuseUnlessIn_2 : decode cX4_refuseUnlessIn 2 = .ok (.invokevirtual 210, 3) := by decide +kernel
theorem dX4_refuseUnlessIn_5 : decode cX4_refuseUnlessIn 5 = .ok (.ifCond .ne 13, 3) := by decide +kernel
theorem dX4_refuseUnlessIn_8 : decode cX4_refuseUnlessIn 8 = .ok (.new 165, 3) := by decide +kernel
theorem dX4_refuseUnlessIn_11 : decode cX4_refuseUnlessIn 11 = .ok (.dup, 1) := by decide +kernel
theorem dX4_refuseUnlessIn_12 : decode cX4_refuseUnlessIn 12 = .ok (.ldc 213, 2) := by decide +kernel
theorem dX4_refuseUnlessIn_14 : decode cX4_refuseUnlessIn 14 = .ok (.invokespecial 169, 3) := by decide +kernel
theorem dX4_refuseUnlessIn_17 : decode cX4_refuseUnlessIn 17 = .ok (.athrow, 1) := by decide +kernel
theorem dX4_refuseUnlessIn_18 : decode cX4_refuseUnlessIn 18 = .ok (.return_, 1) := by decide +kernel
set_option maxRecDepth 20000 in
theorem ggX4_refuseUnlessIn_X2_has : GoodIn wsX4_refuseUnlessIn wsX2_has := goodIn_r _ [7, 8, 9, 10] (by decide +kernel) (by decide +kernel)
set_option maxRecDepth 20000 in
theorem gX4_refuseUnlessIn_X2_has : GoodIn wsX4_refuseUnlessIn (wsV RX4 210 RX2 yX2_has wsX2_has) := goodIn_app (goodIn_of _ (by decide +kernel)) ggX4_refuseUnlessIn_X2_has
theorem dX4_refuseUnlessLetter_0 : decode cX4_refuseUnlessLetter 0 = .ok (.iload_n 0, 1) := by decide +kernel
theorem dX4_refuseUnlessLetter_1 : decode cX4_refuseUnlessLetter 1 = .ok (.ifCond .lt 9, 3) := by decide +kernel
theorem dX4_refuseUnlessLetter_4 : decode cX4_refuseUnlessLetter 4 = .ok (.iload_n 0, 1) := by decide +kernel
theorem dX4_refuseUnlessLetter_5 : decode cX4_refuseUnlessLetter 5 = .ok (.bipush 26, 2) := by decide +kernel
theorem dX4_refuseUnlessLetter_7 : decode cX4_refuseUnlessLetter 7 = .ok (.if_icmp .lt 13, 3) := by decide +kernel
theorem dX4_refuseUnlessLetter_10 : decode cX4_refuseUnlessLetter 10 = .ok (.new 179, 3) := by decide +kernel
theorem dX4_refuseUnlessLetter_13 : decode cX4_refuseUnlessLetter 13 = .ok (.dup, 1) := by decide +kernel
theorem dX4_refuseUnlessLetter_14 : decode cX4_refuseUnlessLetter 14 = .ok (.ldc 215, 2) := by decide +kernel
theorem dX4_refuseUnlessLetter_16 : decode cX4_refuseUnlessLetter 16 = .ok (.invokespecial 183, 3) := by decide +kernel
theorem dX4_refuseUnlessLetter_19 : decode cX4_refuseUnlessLetter 19 = .ok (.athrow, 1) := by decide +kernel
theorem dX4_refuseUnlessLetter_20 : decode cX4_refuseUnlessLetter 20 = .ok (.return_, 1) := by decide +kernel
theorem dX4_refuseUnlessSlot_0 : decode cX4_refuseUnlessSlot 0 = .ok (.iload_n 0, 1) := by decide +kernel
theorem dX4_refuseUnlessSlot_1 : decode cX4_refuseUnlessSlot 1 = .ok (.ifCond .lt 8, 3) := by decide +kernel
theorem dX4_refuseUnlessSlot_4 : decode cX4_refuseUnlessSlot 4 = .ok (.iload_n 0, 1) := by decide +kernel
theorem dX4_refuseUnlessSlot_5 : decode cX4_refuseUnlessSlot 5 = .ok (.iconst 2, 1) := by decide +kernel
theorem dX4_refuseUnlessSlot_6 : decode cX4_refuseUnlessSlot 6 = .ok (.if_icmp .lt 13, 3) := by decide +kernel
theorem dX4_refuseUnlessSlot_9 : decode cX4_refuseUnlessSlot 9 = .ok (.new 165, 3) := by decide +kernel
theorem dX4_refuseUnlessSlot_12 : decode cX4_refuseUnlessSlot 12 = .ok (.dup, 1) := by decide +kernel
theorem dX4_refuseUnlessSlot_13 : decode cX4_refuseUnlessSlot 13 = .ok (.ldc 217, 2) := by decide +kernel
theorem dX4_refuseUnlessSlot_15 : decode cX4_refuseUnlessSlot 15 = .ok (.invokespecial 169, 3) := by decide +kernel
theorem dX4_refuseUnlessSlot_18 : decode cX4_refuseUnlessSlot 18 = .ok (.athrow, 1) := by decide +kernel
theorem dX4_refuseUnlessSlot_19 : decode cX4_refuseUnlessSlot 19 = .ok (.return_, 1) := by decide +kernel
theorem dX4_lineLength_0 : decode cX4_lineLength 0 = .ok (.aload_n 0, 1) := by decide +kernel
theorem dX4_lineLength_1 : decode cX4_lineLength 1 = .ok (.getfield 10, 3) := by decide +kernel
theorem dX4_lineLength_4 : decode cX4_lineLength 4 = .ok (.getfield 57, 3) := by decide +kernel
theorem dX4_lineLength_7 : decode cX4_lineLength 7 = .ok (.invokevirtual 67, 3) := by decide +kernel
theorem dX4_lineLength_10 : decode cX4_lineLength 10 = .ok (.ireturn, 1) := by decide +kernel
set_option maxRecDepth 20000 in
theorem ggX4_lineLength_X2_size : GoodIn wsX4_lineLength wsX2_size := goodIn_r _ [6, 7, 23, 24] (by decide +kernel) (by decide +kernel)
set_option maxRecDepth 20000 in
theorem gX4_lineLength_X2_size : GoodIn wsX4_lineLength (wsV RX4 67 RX2 yX2_size wsX2_size) := goodIn_app (goodIn_of _ (by decide +kernel)) ggX4_lineLength_X2_size
theorem dX4_wordLength_0 : decode cX4_wordLength 0 = .ok (.aload_n 0, 1) := by decide +kernel
theorem dX4_wordLength_1 : decode cX4_wordLength 1 = .ok (.getfield 10, 3) := by decide +kernel
theorem dX4_wordLength_4 : decode cX4_wordLength 4 = .ok (.getfield 71, 3) := by decide +kernel
theorem dX4_wordLength_7 : decode cX4_wordLength 7 = .ok (.invokevirtual 67, 3) := by decide +kernel
theorem dX4_wordLength_10 : decode cX4_wordLength 10 = .ok (.ireturn, 1) := by decide +kernel
set_option maxRecDepth 20000 in
theorem ggX4_wordLength_X2_size : GoodIn wsX4_wordLength wsX2_size := goodIn_r _ [6, 7, 23, 24] (by decide +kernel) (by decide +kernel)
set_option maxRecDepth 20000 in
theorem gX4_wordLength_X2_size : GoodIn wsX4_wordLength (wsV RX4 67 RX2 yX2_size wsX2_size) := goodIn_app (goodIn_of _ (by decide +kernel)) ggX4_wordLength_X2_size
theorem dX4_foundCount_0 : decode cX4_foundCount 0 = .ok (.aload_n 0, 1) := by decide +kernel
theorem dX4_foundCount_1 : decode cX4_foundCount 1 = .ok (.getfield 10, 3) := by decide +kernel
theorem dX4_foundCount_4 : decode cX4_foundCount 4 = .ok (.getfield 127, 3) := by decide +kernel
theorem dX4_foundCount_7 : decode cX4_foundCount 7 = .ok (.invokevirtual 67, 3) := by decide +kernel
theorem dX4_foundCount_10 : decode cX4_foundCount 10 = .ok (.ireturn, 1) := by decide +kernel
set_option maxRecDepth 20000 in
theorem ggX4_foundCount_X2_size : GoodIn wsX4_foundCount wsX2_size := goodIn_r _ [6, 7, 23, 24] (by decide +kernel) (by decide +kernel)
set_option maxRecDepth 20000 in
theorem gX4_foundCount_X2_size : GoodIn wsX4_foundCount (wsV RX4 67 RX2 yX2_size wsX2_size) := goodIn_app (goodIn_of _ (by decide +kernel)) ggX4_foundCount_X2_size
theorem dX4_place_0 : decode cX4_place 0 = .ok (.aload_n 0, 1) := by decide +kernel
theorem dX4_place_1 : decode cX4_place 1 = .ok (.getfield 10, 3) := by decide +kernel
theorem dX4_place_4 : decode cX4_place 4 = .ok (.getfield 121, 3) := by decide +kernel
theorem dX4_place_7 : decode cX4_place 7 = .ok (.ireturn, 1) := by decide +kernel
theorem dX4_lookCount_0 : decode cX4_lookCount 0 = .ok (.aload_n 0, 1) := by decide +kernel
theorem dX4_lookCount_1 : decode cX4_lookCount 1 = .ok (.getfield 10, 3) := by decide +kernel
theorem dX4_lookCount_4 : decode cX4_lookCount 4 = .ok (.getfield 102, 3) := by decide +kernel
theorem dX4_lookCount_7 : decode cX4_lookCount 7 = .ok (.ireturn, 1) := by decide +kernel
theorem dX4_comparedCount_0 : decode cX4_comparedCount 0 = .ok (.aload_n 0, 1) := by decide +kernel
theorem dX4_comparedCount_1 : decode cX4_comparedCount 1 = .ok (.getfield 10, 3) := by decide +kernel
theorem dX4_comparedCount_4 : decode cX4_comparedCount 4 = .ok (.getfield 124, 3) := by decide +kernel
theorem dX4_comparedCount_7 : decode cX4_comparedCount 7 = .ok (.ireturn, 1) := by decide +kernel
theorem dX4_isOver_0 : decode cX4_isOver 0 = .ok (.aload_n 0, 1) := by decide +kernel
theorem dX4_isOver_1 : decode cX4_isOver 1 = .ok (.getfield 10, 3) := by decide +kernel
theorem dX4_isOver_4 : decode cX4_isOver 4 = .ok (.invokevirtual 81, 3) := by decide +kernel
theorem dX4_isOver_7 : decode cX4_isOver 7 = .ok (.ireturn, 1) := by decide +kernel
set_option maxRecDepth 20000 in
theorem ggX4_isOver_X3_hasEnded : GoodIn wsX4_isOver wsX3_hasEnded := goodIn_r _ [6, 7, 8, 9, 10, 11, 12, 13, 14, 15, 16, 17, 5, 18, 19, 20, 21, 22, 23, 24, 25, 26, 27, 35, 36, 37, 38, 39, 40, 41, 42, 43, 44] (by decide +kernel) (by decide +kernel)
set_option maxRecDepth 20000 in
theorem gX4_isOver_X3_hasEnded : GoodIn wsX4_isOver (wsV RX4 81 RX3 yX3_hasEnded wsX3_hasEnded) := goodIn_app (goodIn_of _ (by decide +kernel)) ggX4_isOver_X3_hasEnded
theorem dX4_skippedPlaces_0 : decode cX4_skippedPlaces 0 = .ok (.aload_n 0, 1) := by decide +kernel
theorem dX4_skippedPlaces_1 : decode cX4_skippedPlaces 1 = .ok (.getfield 10, 3) := by decide +kernel
theorem dX4_skippedPlaces_4 : decode cX4_skippedPlaces 4 = .ok (.getfield 121, 3) := by decide +kernel
theorem dX4_skippedPlaces_7 : decode cX4_skippedPlaces 7 = .ok (.aload_n 0, 1) := by decide +kernel
theorem dX4_skippedPlaces_8 : decode cX4_skippedPlaces 8 = .ok (.getfield 10, 3) := by decide +kernel
theorem dX4_skippedPlaces_11 : decode cX4_skippedPlaces 11 = .ok (.invokevirtual 130, 3) := by decide +kernel
theorem dX4_skippedPlaces_14 : decode cX4_skippedPlaces 14 = .ok (.invokestatic 133, 3) := by decide +kernel
theorem dX4_skippedPlaces_17 : decode cX4_skippedPlaces 17 = .ok (.aload_n 0, 1) := by decide +kernel
theorem dX4_skippedPlaces_18 : decode cX4_skippedPlaces 18 = .ok (.getfield 10, 3) := by decide +kernel
theorem dX4_skippedPlaces_21 : decode cX4_skippedPlaces 21 = .ok (.getfield 102, 3) := by decide +kernel
theorem dX4_skippedPlaces_24 : decode cX4_skippedPlaces 24 = .ok (.isub, 1) := by decide +kernel
theorem dX4_skippedPlaces_25 : decode cX4_skippedPlaces 25 = .ok (.ireturn, 1) := by decide +kernel
set_option maxRecDepth 20000 in
theorem ggX4_skippedPlaces_X3_beginnings : GoodIn wsX4_skippedPlaces wsX3_beginnings := goodIn_r _ [10, 11, 12, 13, 14, 4, 15, 16, 17, 18, 19, 20, 21, 29, 30, 31, 32, 33, 34, 35, 36, 37, 38] (by decide +kernel) (by decide +kernel)
set_option maxRecDepth 20000 in
theorem gX4_skippedPlaces_X3_beginnings : GoodIn wsX4_skippedPlaces (wsV RX4 130 RX3 yX3_beginnings wsX3_beginnings) := goodIn_app (goodIn_of _ (by decide +kernel)) ggX4_skippedPlaces_X3_beginnings
theorem dX4_lineLetter_0 : decode cX4_lineLetter 0 = .ok (.aload_n 0, 1) := by decide +kernel
theorem dX4_lineLetter_1 : decode cX4_lineLetter 1 = .ok (.getfield 10, 3) := by decide +kernel
theorem dX4_lineLetter_4 : decode cX4_lineLetter 4 = .ok (.getfield 57, 3) := by decide +kernel
theorem dX4_lineLetter_7 : decode cX4_lineLetter 7 = .ok (.iload_n 1, 1) := by decide +kernel
theorem dX4_lineLetter_8 : decode cX4_lineLetter 8 = .ok (.invokestatic 106, 3) := by decide +kernel
theorem dX4_lineLetter_11 : decode cX4_lineLetter 11 = .ok (.aload_n 0, 1) := by decide +kernel
theorem dX4_lineLetter_12 : decode cX4_lineLetter 12 = .ok (.getfield 10, 3) := by decide +kernel
theorem dX4_lineLetter_15 : decode cX4_lineLetter 15 = .ok (.getfield 57, 3) := by decide +kernel
theorem dX4_lineLetter_18 : decode cX4_lineLetter 18 = .ok (.iload_n 1, 1) := by decide +kernel
theorem dX4_lineLetter_19 : decode cX4_lineLetter 19 = .ok (.invokevirtual 113, 3) := by decide +kernel
theorem dX4_lineLetter_22 : decode cX4_lineLetter 22 = .ok (.ireturn, 1) := by decide +kernel
set_option maxRecDepth 20000 in
theorem ggX4_lineLetter_X4_refuseUnlessIn : GoodIn wsX4_lineLetter wsX4_refuseUnlessIn := goodIn_ca (goodIn_r _ [5, 6, 7, 8, 9, 10, 11, 12, 13, 35, 36] (by decide +kernel) (by decide +kernel)) (goodIn_sub (fun _ h => List.mem_cons_of_mem _ (List.mem_append_right _ h)) (by decide +kernel))
set_option maxRecDepth 20000 in
theorem gX4_lineLetter_X4_refuseUnlessIn : GoodIn wsX4_lineLetter (va_wsS RX4 106 yX4_refuseUnlessIn wsX4_refuseUnlessIn) := goodIn_app (goodIn_of _ (by decide +kernel)) ggX4_lineLetter_X4_refuseUnlessIn
set_option maxRecDepth 20000 in
theorem ggX4_lineLetter_X2_at : GoodIn wsX4_lineLetter wsX2_at := goodIn_r _ [17, 18, 19, 9, 10, 11, 12, 13, 35, 36] (by decide +kernel) (by decide +kernel)
set_option maxRecDepth 20000 in
theorem gX4_lineLetter_X2_at : GoodIn wsX4_lineLetter (wsV RX4 113 RX2 yX2_at wsX2_at) := goodIn_app (goodIn_of _ (by decide +kernel)) ggX4_lineLetter_X2_at
theorem dX4_wordLetter_0 : decode cX4_wordLetter 0 = .ok (.aload_n 0, 1) := by decide +kernel
theorem dX4_wordLetter_1 : decode cX4_wordLetter 1 = .ok (.getfield 10, 3) := by decide +kernel
theorem dX4_wordLetter_4 : decode cX4_wordLetter 4 = .ok (.getfield 71, 3) := by decide +kernel
theorem dX4_wordLetter_7 : decode cX4_wordLetter 7 = .ok (.iload_n 1, 1) := by decide +kernel
theorem dX4_wordLetter_8 : decode cX4_wordLetter 8 = .ok (.invokestatic 106, 3) := by decide +kernel
theorem dX4_wordLetter_11 : decode cX4_wordLetter 11 = .ok (.aload_n 0, 1) := by decide +kernel
theorem dX4_wordLetter_12 : decode cX4_wordLetter 12 = .ok (.getfield 10, 3) := by decide +kernel
theorem dX4_wordLetter_15 : decode cX4_wordLetter 15 = .ok (.getfield 71, 3) := by decide +kernel
theorem dX4_wordLetter_18 : decode cX4_wordLetter 18 = .ok (.iload_n 1, 1) := by decide +kernel
theorem dX4_wordLetter_19 : decode cX4_wordLetter 19 = .ok (.invokevirtual 113, 3) := by decide +kernel
theorem dX4_wordLetter_22 : decode cX4_wordLetter 22 = .ok (.ireturn, 1) := by decide +kernel
set_option maxRecDepth 20000 in
theorem ggX4_wordLetter_X4_refuseUnlessIn : GoodIn wsX4_wordLetter wsX4_refuseUnlessIn := goodIn_ca (goodIn_r _ [5, 6, 7, 8, 9, 10, 11, 12, 13, 35, 36] (by decide +kernel) (by decide +kernel)) (goodIn_sub (fun _ h => List.mem_cons_of_mem _ (List.mem_append_right _ h)) (by decide +kernel))
set_option maxRecDepth 20000 in
theorem gX4_wordLetter_X4_refuseUnlessIn : GoodIn wsX4_wordLetter (va_wsS RX4 106 yX4_refuseUnlessIn wsX4_refuseUnlessIn) := goodIn_app (goodIn_of _ (by decide +kernel)) ggX4_wordLetter_X4_refuseUnlessIn
set_option maxRecDepth 20000 in
theorem ggX4_wordLetter_X2_at : GoodIn wsX4_wordLetter wsX2_at := goodIn_r _ [17, 18, 19, 9, 10, 11, 12, 13, 35, 36] (by decide +kernel) (by decide +kernel)
set_option maxRecDepth 20000 in
theorem gX4_wordLetter_X2_at : GoodIn wsX4_wordLetter (wsV RX4 113 RX2 yX2_at wsX2_at) := goodIn_app (goodIn_of _ (by decide +kernel)) ggX4_wordLetter_X2_at
theorem dX4_foundPlace_0 : decode cX4_foundPlace 0 = .ok (.aload_n 0, 1) := by decide +kernel
theorem dX4_foundPlace_1 : decode cX4_foundPlace 1 = .ok (.getfield 10, 3) := by decide +kernel
theorem dX4_foundPlace_4 : decode cX4_foundPlace 4 = .ok (.getfield 127, 3) := by decide +kernel
theorem dX4_foundPlace_7 : decode cX4_foundPlace 7 = .ok (.iload_n 1, 1) := by decide +kernel
theorem dX4_foundPlace_8 : decode cX4_foundPlace 8 = .ok (.invokestatic 106, 3) := by decide +kernel
theorem dX4_foundPlace_11 : decode cX4_foundPlace 11 = .ok (.aload_n 0, 1) := by decide +kernel
theorem dX4_foundPlace_12 : decode cX4_foundPlace 12 = .ok (.getfield 10, 3) := by decide +kernel
theorem dX4_foundPlace_15 : decode cX4_foundPlace 15 = .ok (.getfield 127, 3) := by decide +kernel
theorem dX4_foundPlace_18 : decode cX4_foundPlace 18 = .ok (.iload_n 1, 1) := by decide +kernel
theorem dX4_foundPlace_19 : decode cX4_foundPlace 19 = .ok (.invokevirtual 113, 3) := by decide +kernel
theorem dX4_foundPlace_22 : decode cX4_foundPlace 22 = .ok (.ireturn, 1) := by decide +kernel
set_option maxRecDepth 20000 in
theorem ggX4_foundPlace_X4_refuseUnlessIn : GoodIn wsX4_foundPlace wsX4_refuseUnlessIn := goodIn_ca (goodIn_r _ [5, 6, 7, 8, 9, 10, 11, 12, 13, 35, 36] (by decide +kernel) (by decide +kernel)) (goodIn_sub (fun _ h => List.mem_cons_of_mem _ (List.mem_append_right _ h)) (by decide +kernel))
set_option maxRecDepth 20000 in
theorem gX4_foundPlace_X4_refuseUnlessIn : GoodIn wsX4_foundPlace (va_wsS RX4 106 yX4_refuseUnlessIn wsX4_refuseUnlessIn) := goodIn_app (goodIn_of _ (by decide +kernel)) ggX4_foundPlace_X4_refuseUnlessIn
set_option maxRecDepth 20000 in
theorem ggX4_foundPlace_X2_at : GoodIn wsX4_foundPlace wsX2_at := goodIn_r _ [17, 18, 19, 9, 10, 11, 12, 13, 35, 36] (by decide +kernel) (by decide +kernel)
set_option maxRecDepth 20000 in
theorem gX4_foundPlace_X2_at : GoodIn wsX4_foundPlace (wsV RX4 113 RX2 yX2_at wsX2_at) := goodIn_app (goodIn_of _ (by decide +kernel)) ggX4_foundPlace_X2_at
theorem dX4_lastPlaceOf_0 : decode cX4_lastPlaceOf 0 = .ok (.iload_n 1, 1) := by decide +kernel
theorem dX4_lastPlaceOf_1 : decode cX4_lastPlaceOf 1 = .ok (.invokestatic 110, 3) := by decide +kernel
theorem dX4_lastPlaceOf_4 : decode cX4_lastPlaceOf 4 = .ok (.aload_n 0, 1) := by decide +kernel
theorem dX4_lastPlaceOf_5 : decode cX4_lastPlaceOf 5 = .ok (.getfield 10, 3) := by decide +kernel
theorem dX4_lastPlaceOf_8 : decode cX4_lastPlaceOf 8 = .ok (.getfield 71, 3) := by decide +kernel
theorem dX4_lastPlaceOf_11 : decode cX4_lastPlaceOf 11 = .ok (.iload_n 1, 1) := by decide +kernel
theorem dX4_lastPlaceOf_12 : decode cX4_lastPlaceOf 12 = .ok (.invokevirtual 139, 3) := by decide +kernel
theorem dX4_lastPlaceOf_15 : decode cX4_lastPlaceOf 15 = .ok (.ireturn, 1) := by decide +kernel
set_option maxRecDepth 20000 in
theorem ggX4_lastPlaceOf_X4_refuseUnlessLetter : GoodIn wsX4_lastPlaceOf wsX4_refuseUnlessLetter := goodIn_ca (goodIn_r _ [5, 6, 7] (by decide +kernel) (by decide +kernel)) (goodIn_sub (fun _ h => List.mem_cons_of_mem _ (List.mem_append_right _ h)) (by decide +kernel))
set_option maxRecDepth 20000 in
theorem gX4_lastPlaceOf_X4_refuseUnlessLetter : GoodIn wsX4_lastPlaceOf (va_wsS RX4 110 yX4_refuseUnlessLetter wsX4_refuseUnlessLetter) := goodIn_app (goodIn_of _ (by decide +kernel)) ggX4_lastPlaceOf_X4_refuseUnlessLetter
set_option maxRecDepth 20000 in
theorem ggX4_lastPlaceOf_X2_lastPlaceWith : GoodIn wsX4_lastPlaceOf wsX2_lastPlaceWith := goodIn_r _ [12, 13, 14, 30, 31] (by decide +kernel) (by decide +kernel)
set_option maxRecDepth 20000 in
theorem gX4_lastPlaceOf_X2_lastPlaceWith : GoodIn wsX4_lastPlaceOf (wsV RX4 139 RX2 yX2_lastPlaceWith wsX2_lastPlaceWith) := goodIn_app (goodIn_of _ (by decide +kernel)) ggX4_lastPlaceOf_X2_lastPlaceWith
theorem dX4_letterSkip_0 : decode cX4_letterSkip 0 = .ok (.aload_n 0, 1) := by decide +kernel
theorem dX4_letterSkip_1 : decode cX4_letterSkip 1 = .ok (.getfield 10, 3) := by decide +kernel
theorem dX4_letterSkip_4 : decode cX4_letterSkip 4 = .ok (.getfield 71, 3) := by decide +kernel
theorem dX4_letterSkip_7 : decode cX4_letterSkip 7 = .ok (.iload_n 1, 1) := by decide +kernel
theorem dX4_letterSkip_8 : decode cX4_letterSkip 8 = .ok (.invokestatic 106, 3) := by decide +kernel
theorem dX4_letterSkip_11 : decode cX4_letterSkip 11 = .ok (.iload_n 2, 1) := by decide +kernel
theorem dX4_letterSkip_12 : decode cX4_letterSkip 12 = .ok (.invokestatic 110, 3) := by decide +kernel
theorem dX4_letterSkip_15 : decode cX4_letterSkip 15 = .ok (.aload_n 0, 1) := by decide +kernel
theorem dX4_letterSkip_16 : decode cX4_letterSkip 16 = .ok (.getfield 10, 3) := by decide +kernel
theorem dX4_letterSkip_19 : decode cX4_letterSkip 19 = .ok (.iload_n 1, 1) := by decide +kernel
theorem dX4_letterSkip_20 : decode cX4_letterSkip 20 = .ok (.iload_n 2, 1) := by decide +kernel
theorem dX4_letterSkip_21 : decode cX4_letterSkip 21 = .ok (.invokevirtual 142, 3) := by decide +kernel
theorem dX4_letterSkip_24 : decode cX4_letterSkip 24 = .ok (.ireturn, 1) := by decide +kernel
set_option maxRecDepth 20000 in
theorem ggX4_letterSkip_X4_refuseUnlessIn : GoodIn wsX4_letterSkip wsX4_refuseUnlessIn := goodIn_ca (goodIn_r _ [5, 6, 7, 8, 9, 10, 11, 12, 13, 45, 46] (by decide +kernel) (by decide +kernel)) (goodIn_sub (fun _ h => List.mem_cons_of_mem _ (List.mem_append_left _ (List.mem_append_right _ h))) (by decide +kernel))
set_option maxRecDepth 20000 in
theorem gX4_letterSkip_X4_refuseUnlessIn : GoodIn wsX4_letterSkip (va_wsS RX4 106 yX4_refuseUnlessIn wsX4_refuseUnlessIn) := goodIn_app (goodIn_of _ (by decide +kernel)) ggX4_letterSkip_X4_refuseUnlessIn
set_option maxRecDepth 20000 in
theorem ggX4_letterSkip_X4_refuseUnlessLetter : GoodIn wsX4_letterSkip wsX4_refuseUnlessLetter := goodIn_ca (goodIn_r _ [16, 17, 18] (by decide +kernel) (by decide +kernel)) (goodIn_sub (fun _ h => List.mem_cons_of_mem _ (List.mem_append_right _ h)) (by decide +kernel))
set_option maxRecDepth 20000 in
theorem gX4_letterSkip_X4_refuseUnlessLetter : GoodIn wsX4_letterSkip (va_wsS RX4 110 yX4_refuseUnlessLetter wsX4_refuseUnlessLetter) := goodIn_app (goodIn_of _ (by decide +kernel)) ggX4_letterSkip_X4_refuseUnlessLetter
set_option maxRecDepth 20000 in
theorem ggX4_letterSkip_X3_skipByLetter : GoodIn wsX4_letterSkip wsX3_skipByLetter := goodIn_r _ [23, 24, 25, 26, 27, 11, 28, 13, 29, 37, 38, 39, 40, 41, 42, 43, 44, 45, 46] (by decide +kernel) (by decide +kernel)
set_option maxRecDepth 20000 in
theorem gX4_letterSkip_X3_skipByLetter : GoodIn wsX4_letterSkip (wsV RX4 142 RX3 yX3_skipByLetter wsX3_skipByLetter) := goodIn_app (goodIn_of _ (by decide +kernel)) ggX4_letterSkip_X3_skipByLetter
theorem dX4_endFits_0 : decode cX4_endFits 0 = .ok (.iload_n 1, 1) := by decide +kernel
theorem dX4_endFits_1 : decode cX4_endFits 1 = .ok (.iload_n 2, 1) := by decide +kernel
theorem dX4_endFits_2 : decode cX4_endFits 2 = .ok (.if_icmp .lt 20, 3) := by decide +kernel
theorem dX4_endFits_5 : decode cX4_endFits 5 = .ok (.aload_n 0, 1) := by decide +kernel
theorem dX4_endFits_6 : decode cX4_endFits 6 = .ok (.iload_n 1, 1) := by decide +kernel
theorem dX4_endFits_7 : decode cX4_endFits 7 = .ok (.invokevirtual 113, 3) := by decide +kernel
theorem dX4_endFits_10 : decode cX4_endFits 10 = .ok (.aload_n 0, 1) := by decide +kernel
theorem dX4_endFits_11 : decode cX4_endFits 11 = .ok (.iload_n 1, 1) := by decide +kernel
theorem dX4_endFits_12 : decode cX4_endFits 12 = .ok (.iload_n 2, 1) := by decide +kernel
theorem dX4_endFits_13 : decode cX4_endFits 13 = .ok (.isub, 1) := by decide +kernel
theorem dX4_endFits_14 : decode cX4_endFits 14 = .ok (.invokevirtual 113, 3) := by decide +kernel
theorem dX4_endFits_17 : decode cX4_endFits 17 = .ok (.if_icmp .ne 5, 3) := by decide +kernel
theorem dX4_endFits_20 : decode cX4_endFits 20 = .ok (.iconst 0, 1) := by decide +kernel
theorem dX4_endFits_21 : decode cX4_endFits 21 = .ok (.ireturn, 1) := by decide +kernel
theorem dX4_endFits_22 : decode cX4_endFits 22 = .ok (.iload_n 1, 1) := by decide +kernel
theorem dX4_endFits_23 : decode cX4_endFits 23 = .ok (.iconst 1, 1) := by decide +kernel
theorem dX4_endFits_24 : decode cX4_endFits 24 = .ok (.iadd, 1) := by decide +kernel
theorem dX4_endFits_25 : decode cX4_endFits 25 = .ok (.iload_n 2, 1) := by decide +kernel
theorem dX4_endFits_26 : decode cX4_endFits 26 = .ok (.invokestatic 232, 3) := by decide +kernel
theorem dX4_endFits_29 : decode cX4_endFits 29 = .ok (.istore_n 3, 1) := by decide +kernel
theorem dX4_endFits_30 : decode cX4_endFits 30 = .ok (.iload_n 3, 1) := by decide +kernel
theorem dX4_endFits_31 : decode cX4_endFits 31 = .ok (.aload_n 0, 1) := by decide +kernel
theorem dX4_endFits_32 : decode cX4_endFits 32 = .ok (.invokevirtual 67, 3) := by decide +kernel
theorem dX4_endFits_35 : decode cX4_endFits 35 = .ok (.if_icmp .ge 26, 3) := by decide +kernel
theorem dX4_endFits_38 : decode cX4_endFits 38 = .ok (.aload_n 0, 1) := by decide +kernel
theorem dX4_endFits_39 : decode cX4_endFits 39 = .ok (.iload_n 3, 1) := by decide +kernel
theorem dX4_endFits_40 : decode cX4_endFits 40 = .ok (.invokevirtual 113, 3) := by decide +kernel
theorem dX4_endFits_43 : decode cX4_endFits 43 = .ok (.aload_n 0, 1) := by decide +kernel
theorem dX4_endFits_44 : decode cX4_endFits 44 = .ok (.iload_n 3, 1) := by decide +kernel
theorem dX4_endFits_45 : decode cX4_endFits 45 = .ok (.iload_n 2, 1) := by decide +kernel
theorem dX4_endFits_46 : decode cX4_endFits 46 = .ok (.isub, 1) := by decide +kernel
theorem dX4_endFits_47 : decode cX4_endFits 47 = .ok (.invokevirtual 113, 3) := by decide +kernel
theorem dX4_endFits_50 : decode cX4_endFits 50 = .ok (.if_icmp .eq 5, 3) := by decide +kernel
theorem dX4_endFits_53 : decode cX4_endFits 53 = .ok (.iconst 0, 1) := by decide +kernel
theorem dX4_endFits_54 : decode cX4_endFits 54 = .ok (.ireturn, 1) := by decide +kernel
theorem dX4_endFits_55 : decode cX4_endFits 55 = .ok (.iinc 3 1, 3) := by decide +kernel
theorem dX4_endFits_58 : decode cX4_endFits 58 = .ok (.goto (-28), 3) := by decide +kernel
theorem dX4_endFits_61 : decode cX4_endFits 61 = .ok (.iconst 1, 1) := by decide +kernel
theorem dX4_endFits_62 : decode cX4_endFits 62 = .ok (.ireturn, 1) := by decide +kernel
set_option maxRecDepth 20000 in
theorem ggX4_endFits_X2_at : GoodIn wsX4_endFits wsX2_at := goodIn_r _ [9, 10, 11, 12, 13, 8, 14, 15, 20, 21] (by decide +kernel) (by decide +kernel)
set_option maxRecDepth 20000 in
theorem gX4_endFits_X2_at : GoodIn wsX4_endFits (wsV RX4 113 RX2 yX2_at wsX2_at) := goodIn_app (goodIn_of _ (by decide +kernel)) ggX4_endFits_X2_at
set_option maxRecDepth 20000 in
theorem ggX4_endFits_X2_size : GoodIn wsX4_endFits wsX2_size := goodIn_r _ [19, 15, 20, 21] (by decide +kernel) (by decide +kernel)
set_option maxRecDepth 20000 in
theorem gX4_endFits_X2_size : GoodIn wsX4_endFits (wsV RX4 67 RX2 yX2_size wsX2_size) := goodIn_app (goodIn_of _ (by decide +kernel)) ggX4_endFits_X2_size
theorem dX4_endSkipByTrying_0 : decode cX4_endSkipByTrying 0 = .ok (.aload_n 0, 1) := by decide +kernel
theorem dX4_endSkipByTrying_1 : decode cX4_endSkipByTrying 1 = .ok (.getfield 10, 3) := by decide +kernel
theorem dX4_endSkipByTrying_4 : decode cX4_endSkipByTrying 4 = .ok (.getfield 71, 3) := by decide +kernel
theorem dX4_endSkipByTrying_7 : decode cX4_endSkipByTrying 7 = .ok (.iload_n 1, 1) := by decide +kernel
theorem dX4_endSkipByTrying_8 : decode cX4_endSkipByTrying 8 = .ok (.invokestatic 106, 3) := by decide +kernel
theorem dX4_endSkipByTrying_11 : decode cX4_endSkipByTrying 11 = .ok (.aload_n 0, 1) := by decide +kernel
theorem dX4_endSkipByTrying_12 : decode cX4_endSkipByTrying 12 = .ok (.getfield 10, 3) := by decide +kernel
theorem dX4_endSkipByTrying_15 : decode cX4_endSkipByTrying 15 = .ok (.getfield 71, 3) := by decide +kernel
theorem dX4_endSkipByTrying_18 : decode cX4_endSkipByTrying 18 = .ok (.invokevirtual 67, 3) := by decide +kernel
theorem dX4_endSkipByTrying_21 : decode cX4_endSkipByTrying 21 = .ok (.istore_n 2, 1) := by decide +kernel
theorem dX4_endSkipByTrying_22 : decode cX4_endSkipByTrying 22 = .ok (.iconst 1, 1) := by decide +kernel
theorem dX4_endSkipByTrying_23 : decode cX4_endSkipByTrying 23 = .ok (.istore_n 3, 1) := by decide +kernel
theorem dX4_endSkipByTrying_24 : decode cX4_endSkipByTrying 24 = .ok (.iload_n 3, 1) := by decide +kernel
theorem dX4_endSkipByTrying_25 : decode cX4_endSkipByTrying 25 = .ok (.iload_n 2, 1) := by decide +kernel
theorem dX4_endSkipByTrying_26 : decode cX4_endSkipByTrying 26 = .ok (.if_icmp .ge 26, 3) := by decide +kernel
theorem dX4_endSkipByTrying_29 : decode cX4_endSkipByTrying 29 = .ok (.aload_n 0, 1) := by decide +kernel
theorem dX4_endSkipByTrying_30 : decode cX4_endSkipByTrying 30 = .ok (.getfield 10, 3) := by decide +kernel
theorem dX4_endSkipByTrying_33 : decode cX4_endSkipByTrying 33 = .ok (.getfield 71, 3) := by decide +kernel
theorem dX4_endSkipByTrying_36 : decode cX4_endSkipByTrying 36 = .ok (.iload_n 1, 1) := by decide +kernel
theorem dX4_endSkipByTrying_37 : decode cX4_endSkipByTrying 37 = .ok (.iload_n 3, 1) := by decide +kernel
theorem dX4_endSkipByTrying_38 : decode cX4_endSkipByTrying 38 = .ok (.invokestatic 148, 3) := by decide +kernel
theorem dX4_endSkipByTrying_41 : decode cX4_endSkipByTrying 41 = .ok (.ifCond .eq 5, 3) := by decide +kernel
theorem dX4_endSkipByTrying_44 : decode cX4_endSkipByTrying 44 = .ok (.iload_n 3, 1) := by decide +kernel
theorem dX4_endSkipByTrying_45 : decode cX4_endSkipByTrying 45 = .ok (.ireturn, 1) := by decide +kernel
theorem dX4_endSkipByTrying_46 : decode cX4_endSkipByTrying 46 = .ok (.iinc 3 1, 3) := by decide +kernel
theorem dX4_endSkipByTrying_49 : decode cX4_endSkipByTrying 49 = .ok (.goto (-25), 3) := by decide +kernel
theorem dX4_endSkipByTrying_52 : decode cX4_endSkipByTrying 52 = .ok (.iload_n 2, 1) := by decide +kernel
theorem dX4_endSkipByTrying_53 : decode cX4_endSkipByTrying 53 = .ok (.ireturn, 1) := by decide +kernel
set_option maxRecDepth 20000 in
theorem ggX4_endSkipByTrying_X4_refuseUnlessIn : GoodIn wsX4_endSkipByTrying wsX4_refuseUnlessIn := goodIn_ca (goodIn_r _ [5, 6, 7, 8, 9, 10, 11, 12, 13, 46, 47] (by decide +kernel) (by decide +kernel)) (goodIn_sub (fun _ h => List.mem_cons_of_mem _ (List.mem_append_right _ h)) (by decide +kernel))
set_option maxRecDepth 20000 in
theorem gX4_endSkipByTrying_X4_refuseUnlessIn : GoodIn wsX4_endSkipByTrying (va_wsS RX4 106 yX4_refuseUnlessIn wsX4_refuseUnlessIn) := goodIn_app (goodIn_of _ (by decide +kernel)) ggX4_endSkipByTrying_X4_refuseUnlessIn
set_option maxRecDepth 20000 in
theorem ggX4_endSkipByTrying_X2_size : GoodIn wsX4_endSkipByTrying wsX2_size := goodIn_r _ [17, 13, 46, 47] (by decide +kernel) (by decide +kernel)
set_option maxRecDepth 20000 in
theorem gX4_endSkipByTrying_X2_size : GoodIn wsX4_endSkipByTrying (wsV RX4 67 RX2 yX2_size wsX2_size) := goodIn_app (goodIn_of _ (by decide +kernel)) ggX4_endSkipByTrying_X2_size
set_option maxRecDepth 20000 in
theorem ggX4_endSkipByTrying_X4_endFits : GoodIn wsX4_endSkipByTrying wsX4_endFits := goodIn_r _ [20, 21, 22, 23, 24, 25, 26, 27, 11, 28, 29, 30, 9, 10, 12, 13, 14, 15, 16, 17, 46, 47] (by decide +kernel) (by decide +kernel)
set_option maxRecDepth 20000 in
theorem gX4_endSkipByTrying_X4_endFits : GoodIn wsX4_endSkipByTrying (va_wsS RX4 148 yX4_endFits wsX4_endFits) := goodIn_app (goodIn_of _ (by decide +kernel)) ggX4_endSkipByTrying_X4_endFits
theorem dX4_wordStandsAt_0 : decode cX4_wordStandsAt 0 = .ok (.iconst 0, 1) := by decide +kernel
theorem dX4_wordStandsAt_1 : decode cX4_wordStandsAt 1 = .ok (.istore_n 2, 1) := by decide +kernel
theorem dX4_wordStandsAt_2 : decode cX4_wordStandsAt 2 = .ok (.iload_n 2, 1) := by decide +kernel
theorem dX4_wordStandsAt_3 : decode cX4_wordStandsAt 3 = .ok (.aload_n 0, 1) := by decide +kernel
theorem dX4_wordStandsAt_4 : decode cX4_wordStandsAt 4 = .ok (.getfield 10, 3) := by decide +kernel
theorem dX4_wordStandsAt_7 : decode cX4_wordStandsAt 7 = .ok (.getfield 71, 3) := by decide +kernel
theorem dX4_wordStandsAt_10 : decode cX4_wordStandsAt 10 = .ok (.invokevirtual 67, 3) := by decide +kernel
theorem dX4_wordStandsAt_13 : decode cX4_wordStandsAt 13 = .ok (.if_icmp .ge 38, 3) := by decide +kernel
theorem dX4_wordStandsAt_16 : decode cX4_wordStandsAt 16 = .ok (.aload_n 0, 1) := by decide +kernel
theorem dX4_wordStandsAt_17 : decode cX4_wordStandsAt 17 = .ok (.getfield 10, 3) := by decide +kernel
theorem dX4_wordStandsAt_20 : decode cX4_wordStandsAt 20 = .ok (.getfield 57, 3) := by decide +kernel
theorem dX4_wordStandsAt_23 : decode cX4_wordStandsAt 23 = .ok (.iload_n 1, 1) := by decide +kernel
theorem dX4_wordStandsAt_24 : decode cX4_wordStandsAt 24 = .ok (.iload_n 2, 1) := by decide +kernel
theorem dX4_wordStandsAt_25 : decode cX4_wordStandsAt 25 = .ok (.iadd, 1) := by decide +kernel
theorem dX4_wordStandsAt_26 : decode cX4_wordStandsAt 26 = .ok (.invokevirtual 113, 3) := by decide +kernel
theorem dX4_wordStandsAt_29 : decode cX4_wordStandsAt 29 = .ok (.aload_n 0, 1) := by decide +kernel
theorem dX4_wordStandsAt_30 : decode cX4_wordStandsAt 30 = .ok (.getfield 10, 3) := by decide +kernel
theorem dX4_wordStandsAt_33 : decode cX4_wordStandsAt 33 = .ok (.getfield 71, 3) := by decide +kernel
theorem dX4_wordStandsAt_36 : decode cX4_wordStandsAt 36 = .ok (.iload_n 2, 1) := by decide +kernel
theorem dX4_wordStandsAt_37 : decode cX4_wordStandsAt 37 = .ok (.invokevirtual 113, 3) := by decide +kernel
theorem dX4_wordStandsAt_40 : decode cX4_wordStandsAt 40 = .ok (.if_icmp .eq 5, 3) := by decide +kernel
theorem dX4_wordStandsAt_43 : decode cX4_wordStandsAt 43 = .ok (.iconst 0, 1) := by decide +kernel
theorem dX4_wordStandsAt_44 : decode cX4_wordStandsAt 44 = .ok (.ireturn, 1) := by decide +kernel
theorem dX4_wordStandsAt_45 : decode cX4_wordStandsAt 45 = .ok (.iinc 2 1, 3) := by decide +kernel
theorem dX4_wordStandsAt_48 : decode cX4_wordStandsAt 48 = .ok (.goto (-46), 3) := by decide +kernel
theorem dX4_wordStandsAt_51 : decode cX4_wordStandsAt 51 = .ok (.iconst 1, 1) := by decide +kernel
theorem dX4_wordStandsAt_52 : decode cX4_wordStandsAt 52 = .ok (.ireturn, 1) := by decide +kernel
set_option maxRecDepth 20000 in
theorem ggX4_wordStandsAt_X2_size : GoodIn wsX4_wordStandsAt wsX2_size := goodIn_r _ [6, 7, 32, 33] (by decide +kernel) (by decide +kernel)
set_option maxRecDepth 20000 in
theorem gX4_wordStandsAt_X2_size : GoodIn wsX4_wordStandsAt (wsV RX4 67 RX2 yX2_size wsX2_size) := goodIn_app (goodIn_of _ (by decide +kernel)) ggX4_wordStandsAt_X2_size
set_option maxRecDepth 20000 in
theorem ggX4_wordStandsAt_X2_at : GoodIn wsX4_wordStandsAt wsX2_at := goodIn_r _ [11, 12, 13, 14, 15, 5, 16, 7, 32, 33] (by decide +kernel) (by decide +kernel)
set_option maxRecDepth 20000 in
theorem gX4_wordStandsAt_X2_at : GoodIn wsX4_wordStandsAt (wsV RX4 113 RX2 yX2_at wsX2_at) := goodIn_app (goodIn_of _ (by decide +kernel)) ggX4_wordStandsAt_X2_at
theorem dX4_occurrencesByTrying_0 : decode cX4_occurrencesByTrying 0 = .ok (.aload_n 0, 1) := by decide +kernel
theorem dX4_occurrencesByTrying_1 : decode cX4_occurrencesByTrying 1 = .ok (.getfield 10, 3) := by decide +kernel
theorem dX4_occurrencesByTrying_4 : decode cX4_occurrencesByTrying 4 = .ok (.getfield 71, 3) := by decide +kernel
theorem dX4_occurrencesByTrying_7 : decode cX4_occurrencesByTrying 7 = .ok (.invokevirtual 158, 3) := by decide +kernel
theorem dX4_occurrencesByTrying_10 : decode cX4_occurrencesByTrying 10 = .ok (.ifCond .eq 5, 3) := by decide +kernel
theorem dX4_occurrencesByTrying_13 : decode cX4_occurrencesByTrying 13 = .ok (.iconst 0, 1) := by decide +kernel
theorem dX4_occurrencesByTrying_14 : decode cX4_occurrencesByTrying 14 = .ok (.ireturn, 1) := by decide +kernel
theorem dX4_occurrencesByTrying_15 : decode cX4_occurrencesByTrying 15 = .ok (.iconst 0, 1) := by decide +kernel
theorem dX4_occurrencesByTrying_16 : decode cX4_occurrencesByTrying 16 = .ok (.istore_n 1, 1) := by decide +kernel
theorem dX4_occurrencesByTrying_17 : decode cX4_occurrencesByTrying 17 = .ok (.iconst 0, 1) := by decide +kernel
theorem dX4_occurrencesByTrying_18 : decode cX4_occurrencesByTrying 18 = .ok (.istore_n 2, 1) := by decide +kernel
theorem dX4_occurrencesByTrying_19 : decode cX4_occurrencesByTrying 19 = .ok (.iload_n 2, 1) := by decide +kernel
theorem dX4_occurrencesByTrying_20 : decode cX4_occurrencesByTrying 20 = .ok (.aload_n 0, 1) := by decide +kernel
theorem dX4_occurrencesByTrying_21 : decode cX4_occurrencesByTrying 21 = .ok (.getfield 10, 3) := by decide +kernel
theorem dX4_occurrencesByTrying_24 : decode cX4_occurrencesByTrying 24 = .ok (.invokevirtual 130, 3) := by decide +kernel
theorem dX4_occurrencesByTrying_27 : decode cX4_occurrencesByTrying 27 = .ok (.if_icmp .ge 20, 3) := by decide +kernel
theorem dX4_occurrencesByTrying_30 : decode cX4_occurrencesByTrying 30 = .ok (.aload_n 0, 1) := by decide +kernel
theorem dX4_occurrencesByTrying_31 : decode cX4_occurrencesByTrying 31 = .ok (.iload_n 2, 1) := by decide +kernel
theorem dX4_occurrencesByTrying_32 : decode cX4_occurrencesByTrying 32 = .ok (.invokevirtual 161, 3) := by decide +kernel
theorem dX4_occurrencesByTrying_35 : decode cX4_occurrencesByTrying 35 = .ok (.ifCond .eq 6, 3) := by decide +kernel
theorem dX4_occurrencesByTrying_38 : decode cX4_occurrencesByTrying 38 = .ok (.iinc 1 1, 3) := by decide +kernel
theorem dX4_occurrencesByTrying_41 : decode cX4_occurrencesByTrying 41 = .ok (.iinc 2 1, 3) := by decide +kernel
theorem dX4_occurrencesByTrying_44 : decode cX4_occurrencesByTrying 44 = .ok (.goto (-25), 3) := by decide +kernel
theorem dX4_occurrencesByTrying_47 : decode cX4_occurrencesByTrying 47 = .ok (.iload_n 1, 1) := by decide +kernel
theorem dX4_occurrencesByTrying_48 : decode cX4_occurrencesByTrying 48 = .ok (.ireturn, 1) := by decide +kernel
set_option maxRecDepth 20000 in
theorem ggX4_occurrencesByTrying_X2_isEmpty : GoodIn wsX4_occurrencesByTrying wsX2_isEmpty := goodIn_r _ [6, 7, 53, 54] (by decide +kernel) (by decide +kernel)
set_option maxRecDepth 20000 in
theorem gX4_occurrencesByTrying_X2_isEmpty : GoodIn wsX4_occurrencesByTrying (wsV RX4 158 RX2 yX2_isEmpty wsX2_isEmpty) := goodIn_app (goodIn_of _ (by decide +kernel)) ggX4_occurrencesByTrying_X2_isEmpty
set_option maxRecDepth 20000 in
theorem ggX4_occurrencesByTrying_X3_beginnings : GoodIn wsX4_occurrencesByTrying wsX3_beginnings := goodIn_r _ [12, 13, 14, 15, 16, 17, 18, 19, 20, 21, 5, 22, 7, 45, 46, 47, 48, 49, 50, 51, 52, 53, 54] (by decide +kernel) (by decide +kernel)
set_option maxRecDepth 20000 in
theorem gX4_occurrencesByTrying_X3_beginnings : GoodIn wsX4_occurrencesByTrying (wsV RX4 130 RX3 yX3_beginnings wsX3_beginnings) := goodIn_app (goodIn_of _ (by decide +kernel)) ggX4_occurrencesByTrying_X3_beginnings
set_option maxRecDepth 20000 in
theorem ggX4_occurrencesByTrying_X4_wordStandsAt : GoodIn wsX4_occurrencesByTrying wsX4_wordStandsAt := goodIn_r _ [27, 1, 28, 20, 21, 5, 22, 7, 29, 30, 31, 32, 33, 34, 35, 36, 37, 38, 39, 40, 41, 42, 43, 44, 45, 46, 47, 48, 49, 50, 51, 52, 53, 54] (by decide +kernel) (by decide +kernel)
set_option maxRecDepth 20000 in
theorem gX4_occurrencesByTrying_X4_wordStandsAt : GoodIn wsX4_occurrencesByTrying (wsV RX4 161 RX4 yX4_wordStandsAt wsX4_wordStandsAt) := goodIn_app (goodIn_of _ (by decide +kernel)) ggX4_occurrencesByTrying_X4_wordStandsAt
theorem dX4_differenceAt_0 : decode cX4_differenceAt 0 = .ok (.iload_n 1, 1) := by decide +kernel
theorem dX4_differenceAt_1 : decode cX4_differenceAt 1 = .ok (.ifCond .lt 14, 3) := by decide +kernel
theorem dX4_differenceAt_4 : decode cX4_differenceAt 4 = .ok (.iload_n 1, 1) := by decide +kernel
theorem dX4_differenceAt_5 : decode cX4_differenceAt 5 = .ok (.aload_n 0, 1) := by decide +kernel
theorem dX4_differenceAt_6 : decode cX4_differenceAt 6 = .ok (.getfield 10, 3) := by decide +kernel
theorem dX4_differenceAt_9 : decode cX4_differenceAt 9 = .ok (.invokevirtual 130, 3) := by decide +kernel
theorem dX4_differenceAt_12 : decode cX4_differenceAt 12 = .ok (.if_icmp .lt 13, 3) := by decide +kernel
theorem dX4_differenceAt_15 : decode cX4_differenceAt 15 = .ok (.new 165, 3) := by decide +kernel
theorem dX4_differenceAt_18 : decode cX4_differenceAt 18 = .ok (.dup, 1) := by decide +kernel
theorem dX4_differenceAt_19 : decode cX4_differenceAt 19 = .ok (.ldc 167, 2) := by decide +kernel
theorem dX4_differenceAt_21 : decode cX4_differenceAt 21 = .ok (.invokespecial 169, 3) := by decide +kernel
theorem dX4_differenceAt_24 : decode cX4_differenceAt 24 = .ok (.athrow, 1) := by decide +kernel
theorem dX4_differenceAt_25 : decode cX4_differenceAt 25 = .ok (.aload_n 0, 1) := by decide +kernel
theorem dX4_differenceAt_26 : decode cX4_differenceAt 26 = .ok (.getfield 10, 3) := by decide +kernel
theorem dX4_differenceAt_29 : decode cX4_differenceAt 29 = .ok (.getfield 71, 3) := by decide +kernel
theorem dX4_differenceAt_32 : decode cX4_differenceAt 32 = .ok (.invokevirtual 158, 3) := by decide +kernel
theorem dX4_differenceAt_35 : decode cX4_differenceAt 35 = .ok (.ifCond .eq 13, 3) := by decide +kernel
theorem dX4_differenceAt_38 : decode cX4_differenceAt 38 = .ok (.new 85, 3) := by decide +kernel
theorem dX4_differenceAt_41 : decode cX4_differenceAt 41 = .ok (.dup, 1) := by decide +kernel
theorem dX4_differenceAt_42 : decode cX4_differenceAt 42 = .ok (.ldc 170, 2) := by decide +kernel
theorem dX4_differenceAt_44 : decode cX4_differenceAt 44 = .ok (.invokespecial 89, 3) := by decide +kernel
theorem dX4_differenceAt_47 : decode cX4_differenceAt 47 = .ok (.athrow, 1) := by decide +kernel
theorem dX4_differenceAt_48 : decode cX4_differenceAt 48 = .ok (.aload_n 0, 1) := by decide +kernel
theorem dX4_differenceAt_49 : decode cX4_differenceAt 49 = .ok (.getfield 10, 3) := by decide +kernel
theorem dX4_differenceAt_52 : decode cX4_differenceAt 52 = .ok (.iload_n 1, 1) := by decide +kernel
theorem dX4_differenceAt_53 : decode cX4_differenceAt 53 = .ok (.invokevirtual 172, 3) := by decide +kernel
theorem dX4_differenceAt_56 : decode cX4_differenceAt 56 = .ok (.ireturn, 1) := by decide +kernel
set_option maxRecDepth 20000 in
theorem ggX4_differenceAt_X3_beginnings : GoodIn wsX4_differenceAt wsX3_beginnings := goodIn_r _ [10, 11, 12, 13, 14, 15, 16, 17, 18, 19, 20, 21, 22, 47, 48, 49, 50, 51, 52, 53, 54, 55, 56] (by decide +kernel) (by decide +kernel)
set_option maxRecDepth 20000 in
theorem gX4_differenceAt_X3_beginnings : GoodIn wsX4_differenceAt (wsV RX4 130 RX3 yX3_beginnings wsX3_beginnings) := goodIn_app (goodIn_of _ (by decide +kernel)) ggX4_differenceAt_X3_beginnings
set_option maxRecDepth 20000 in
theorem ggX4_differenceAt_X2_isEmpty : GoodIn wsX4_differenceAt wsX2_isEmpty := goodIn_r _ [26, 22, 55, 56] (by decide +kernel) (by decide +kernel)
set_option maxRecDepth 20000 in
theorem gX4_differenceAt_X2_isEmpty : GoodIn wsX4_differenceAt (wsV RX4 158 RX2 yX2_isEmpty wsX2_isEmpty) := goodIn_app (goodIn_of _ (by decide +kernel)) ggX4_differenceAt_X2_isEmpty
set_option maxRecDepth 20000 in
theorem ggX4_differenceAt_X3_lastDifferenceAt : GoodIn wsX4_differenceAt wsX3_lastDifferenceAt := goodIn_r _ [30, 12, 11, 17, 18, 19, 20, 21, 22, 31, 32, 33, 34, 35, 36, 37, 38, 39, 47, 48, 49, 50, 51, 52, 53, 54, 55, 56] (by decide +kernel) (by decide +kernel)
set_option maxRecDepth 20000 in
theorem gX4_differenceAt_X3_lastDifferenceAt : GoodIn wsX4_differenceAt (wsV RX4 172 RX3 yX3_lastDifferenceAt wsX3_lastDifferenceAt) := goodIn_app (goodIn_of _ (by decide +kernel)) ggX4_differenceAt_X3_lastDifferenceAt
def RS (z : Nat → Int) (f : Nat → Nat → Int32) (M : MS) : Prop := Rep (z 0) (f 0) M.1 ∧ Rep (z 1) (f 1) M.2.1 ∧ Rep (z 2) (f 2) M.2.2.1 ∧ z 3 = M.2.2.2.1 ∧ z 4 = M.2.2.2.2.1 ∧ z 5 = M.2.2.2.2.2.1 ∧ z 6 = M.2.2.2.2.2.2.1 ∧ z 7 = M.2.2.2.2.2.2.2
theorem Rep.gl {n : Int} {g : Nat → Int32} {l : List Int32} (h : Rep n g l) : ∀ j : Nat, j < l.length → g j = gl l j := h.2
theorem lastF_gl {n : Int} {g : Nat → Int32} {l : List Int32} {x : Int32} (h : Rep n g l) : lastF n.toNat g x = lastF l.length (gl l) x := by
  rw [show n.toNat = l.length by have := h.1; omega]
  exact lastF_congr h.2
theorem md_gl {z0 z1 : Int} {f0 f1 : Nat → Int32} {M : MS} {x : Int} (h0 : Rep z0 f0 M.1) (h1 : Rep z1 f1 M.2.1) (hx : 0 ≤ x ∧ x + (M.2.1.length : Int) ≤ (M.1.length : Int)) : diffF z1.toNat f1 f0 x = mD M x := by
  rw [show z1.toNat = M.2.1.length by have := h1.1; omega]
  exact diffF_congr hx.1 h1.2 (fun j a b => h0.2 j (by omega))
theorem end_gl {n : Int} {g : Nat → Int32} {l : List Int32} {x q : Int} (h : Rep n g l) (hx : 0 ≤ x ∧ x < (l.length : Int)) (hq : q = (endF n.toNat g x.toNat : Int)) : q = (endF l.length (gl l) x.toNat : Int) := by
  rw [hq, show n.toNat = l.length by have := h.1; omega, endF_congr h.2 (by omega)]
  rfl
theorem FitP_start {W : Nat → Int32} {p q i : Int} (h : q ≤ p → ¬ W p.toNat = W (p.toNat - q.toNat)) (hi : i ≤ p + 1 ∨ i ≤ q) : FitP W p q i := ⟨h, fun x a b c => by omega⟩
theorem FitP_go {W : Nat → Int32} {p q i : Int} (h0 : 0 ≤ p ∧ p < i ∧ q ≤ i ∧ 0 ≤ q) (h : FitP W p q i) (hW : W i.toNat = W (i - q).toNat) : FitP W p q (i + 1) := (FitP_s (by omega)).mpr ⟨h, fun _ => by rw [show i.toNat - q.toNat = (i - q).toNat by omega]; exact hW⟩
theorem FitP_down {W : Nat → Int32} {p q i m : Int} (h : FitP W p q i) (hm : m ≤ i) : FitP W p q m := ⟨h.1, fun x a b c => h.2 x (by omega) b c⟩
theorem stand_step {W L : Nat → Int32} {x i : Int} (h0 : 0 ≤ i) (h : ∀ j : Nat, (j : Int) < i → W j = L (x + (j : Int)).toNat) (hi : L (x + i).toNat = W i.toNat) : ∀ j : Nat, (j : Int) < i + 1 → W j = L (x + (j : Int)).toNat := by
  intro j hj
  by_cases e : j = i.toNat
  · rw [e, show ((i.toNat : Nat) : Int) = i by omega]; exact hi.symm
  · exact h j (by omega)

set_option maxHeartbeats 4000000 in
set_option maxRecDepth 100000 in
theorem c_X4_refuseUnlessIn (l : Launch) (hfl : l.stackTraces = false) (D : va_G) (cy : Nat → ClassId) (h0 : Nat) (a0 : Nat) (n : Int) (x : Int) (hn : 0 ≤ n ∧ n < 2147483648) (hx1 : -2147483648 ≤ x ∧ x < 2147483648) : Xv l D cy yX4_refuseUnlessIn wsX4_refuseUnlessIn 6 92 1 [.ref h0, .int (iI x)] [(h0, .inr (2, [.ref a0, .int (iI n)]))] (fun (u : Unit) => 0 ≤ x ∧ x < n) (fun u : Unit => [(h0, .inr (2, [.ref a0, .int (iI n)]))]) (fun E => E = xIOB ∧ ¬ (0 ≤ x ∧ x < n)) := by
  refine Xv_of (cc := cX4_refuseUnlessIn) (maxL := 2) (ret := none) (by decide) rfl rfl ?_
  intro p e s m args below meth c A hx hb hr hts hown hlocks hml htab hP hK hD hT hC hZ hA ls hl
  have hS : va_S A s.heap s.heap [] := va_S.rf
  have hl : lv_has ls 2 [(0, .ref h0), (1, .int (iI x))] := hl
  refine lv_aload_n hx hb dX4_refuseUnlessIn_0 rfl (lv_at hl 0 rfl) ?_
  refine lv_iload_n hx hb dX4_refuseUnlessIn_1 rfl (lv_at hl 1 rfl) ?_
  refine z_gVi (n := 1) (b := h0) (As := [.int (iI x)]) (rest := []) ⟨hx, hb, hml, hown, hts⟩ (c_X2_has l D cy h0 a0 n x (by first | assumption | omega) (by first | assumption | omega)) gX4_refuseUnlessIn_X2_has rfl (by decide +kernel) ⟨Nat.le_of_ble_eq_true rfl, Nat.le_of_ble_eq_true rfl⟩ hK hT hP hS (Fp.same hP hD hS hA [0] rfl rfl (fun _ => rfl)) 0 2 rfl rfl rfl rfl hl.1 rfl (Nat.le_of_ble_eq_true rfl) dX4_refuseUnlessIn_2 ⟨Nat.zero_le _, Nat.zero_le _⟩ (fun r_1 u_1 H locs hw_1 hP hD hS => ?_)
  have hw_1 : (0 ≤ x ∧ x < n ∧ r_1 = iI 1) ∨ (¬ (0 ≤ x ∧ x < n) ∧ r_1 = iI 0) := hw_1
  have hP : va_P D vwCl [(h0, .inr (2, [.ref a0, .int (iI n)]))] H := hP
  have hD : va_D A [(h0, .inr (2, [.ref a0, .int (iI n)]))] := hD
  rcases hw_1 with ⟨h_1, g_1, rfl⟩ | ⟨h_1, rfl⟩
  · --
    refine z_if_ne (tgt := 18) hx hb (iI_t (by omega) (by omega)) dX4_refuseUnlessIn_5 (by decide) (fun _ => ?_) (fun c2 => absurd c2 (by omega))
    exact x_vret hx hb hr hlocks hS () (show 0 ≤ x ∧ x < n from (by omega)) hP dX4_refuseUnlessIn_18 (by decide) (by decide)
  · --
    refine z_if_ne (tgt := 18) hx hb (iI_t (by omega) (by omega)) dX4_refuseUnlessIn_5 (by decide) (fun c3 => absurd c3 (by omega)) (fun _ => ?_)
    exact x_throw (cls := xIOB) (text := "there is no such place") (ik := 165) (is := 213) (ic := 169) (Ts := wsX4_refuseUnlessIn) hx hb hfl hown (by decide +kernel) (by decide +kernel) hts (by decide +kernel) (by decide +kernel) (by decide +kernel) x_ng2 x_gw2 hT hC (by decide +kernel) hZ hS (hl.1.trans hml.symm) dX4_refuseUnlessIn_8 dX4_refuseUnlessIn_11 dX4_refuseUnlessIn_12 dX4_refuseUnlessIn_14 dX4_refuseUnlessIn_17 htab (by decide) (by decide) (by decide) (by decide) hlocks hP (⟨rfl, by assumption⟩) (by decide) (by decide)
set_option maxHeartbeats 4000000 in
set_option maxRecDepth 100000 in
theorem c_X4_refuseUnlessLetter (l : Launch) (hfl : l.stackTraces = false) (D : va_G) (cy : Nat → ClassId) (x : Int) (hx1 : -2147483648 ≤ x ∧ x < 2147483648) : Xv l D cy yX4_refuseUnlessLetter wsX4_refuseUnlessLetter 6 92 1 [.int (iI x)] [] (fun (u : Unit) => 0 ≤ x ∧ x ≤ 25) (fun u : Unit => []) (fun E => E = xIAE ∧ ¬ (0 ≤ x ∧ x ≤ 25)) := by
  refine Xv_of (cc := cX4_refuseUnlessLetter) (maxL := 1) (ret := none) (by decide) rfl rfl ?_
  intro p e s m args below meth c A hx hb hr hts hown hlocks hml htab hP hK hD hT hC hZ hA ls hl
  have hS : va_S A s.heap s.heap [] := va_S.rf
  have hl : lv_has ls 1 [(0, .int (iI x))] := hl
  refine lv_iload_n hx hb dX4_refuseUnlessLetter_0 rfl (lv_at hl 0 rfl) ?_
  refine z_if_lt (tgt := 10) hx hb (iI_t (by omega) (by omega)) dX4_refuseUnlessLetter_1 (by decide) (fun c1 => ?_) (fun c1 => ?_)
  · --
    exact x_throw (cls := xIAE) (text := "there is no such letter") (ik := 179) (is := 215) (ic := 183) (Ts := wsX4_refuseUnlessLetter) hx hb hfl hown (by decide +kernel) (by decide +kernel) hts (by decide +kernel) (by decide +kernel) (by decide +kernel) x_ng3 x_gw3 hT hC (by decide +kernel) hZ hS (hl.1.trans hml.symm) dX4_refuseUnlessLetter_10 dX4_refuseUnlessLetter_13 dX4_refuseUnlessLetter_14 dX4_refuseUnlessLetter_16 dX4_refuseUnlessLetter_19 htab (by decide) (by decide) (by decide) (by decide) hlocks hP (⟨rfl, by omega⟩) (by decide) (by decide)
  · --
    refine lv_iload_n hx hb dX4_refuseUnlessLetter_4 rfl (lv_at hl 0 rfl) ?_
    refine lv_bipush (v := iI 26) hx hb dX4_refuseUnlessLetter_5 (by decide +kernel) ?_
    refine z_icmp_lt (tgt := 20) hx hb (iI_t (by omega) (by omega)) (iI_t (by omega) (by omega)) dX4_refuseUnlessLetter_7 (by decide) (fun c2 => ?_) (fun c2 => ?_)
    · --
      exact x_vret hx hb hr hlocks hS () (show 0 ≤ x ∧ x ≤ 25 from (by omega)) hP dX4_refuseUnlessLetter_20 (by decide) (by decide)
    · --
      exact x_throw (cls := xIAE) (text := "there is no such letter") (ik := 179) (is := 215) (ic := 183) (Ts := wsX4_refuseUnlessLetter) hx hb hfl hown (by decide +kernel) (by decide +kernel) hts (by decide +kernel) (by decide +kernel) (by decide +kernel) x_ng3 x_gw3 hT hC (by decide +kernel) hZ hS (hl.1.trans hml.symm) dX4_refuseUnlessLetter_10 dX4_refuseUnlessLetter_13 dX4_refuseUnlessLetter_14 dX4_refuseUnlessLetter_16 dX4_refuseUnlessLetter_19 htab (by decide) (by decide) (by decide) (by decide) hlocks hP (⟨rfl, by omega⟩) (by decide) (by decide)
set_option maxHeartbeats 4000000 in
set_option maxRecDepth 100000 in
theorem c_X4_refuseUnlessSlot (l : Launch) (hfl : l.stackTraces = false) (D : va_G) (cy : Nat → ClassId) (x : Int) (hx1 : -2147483648 ≤ x ∧ x < 2147483648) : Xv l D cy yX4_refuseUnlessSlot wsX4_refuseUnlessSlot 6 92 1 [.int (iI x)] [] (fun (u : Unit) => x = 0 ∨ x = 1) (fun u : Unit => []) (fun E => E = xIOB ∧ ¬ (x = 0 ∨ x = 1)) := by
  refine Xv_of (cc := cX4_refuseUnlessSlot) (maxL := 1) (ret := none) (by decide) rfl rfl ?_
  intro p e s m args below meth c A hx hb hr hts hown hlocks hml htab hP hK hD hT hC hZ hA ls hl
  have hS : va_S A s.heap s.heap [] := va_S.rf
  have hl : lv_has ls 1 [(0, .int (iI x))] := hl
  refine lv_iload_n hx hb dX4_refuseUnlessSlot_0 rfl (lv_at hl 0 rfl) ?_
  refine z_if_lt (tgt := 9) hx hb (iI_t (by omega) (by omega)) dX4_refuseUnlessSlot_1 (by decide) (fun c1 => ?_) (fun c1 => ?_)
  · --
    exact x_throw (cls := xIOB) (text := "there is no such slot") (ik := 165) (is := 217) (ic := 169) (Ts := wsX4_refuseUnlessSlot) hx hb hfl hown (by decide +kernel) (by decide +kernel) hts (by decide +kernel) (by decide +kernel) (by decide +kernel) x_ng2 x_gw2 hT hC (by decide +kernel) hZ hS (hl.1.trans hml.symm) dX4_refuseUnlessSlot_9 dX4_refuseUnlessSlot_12 dX4_refuseUnlessSlot_13 dX4_refuseUnlessSlot_15 dX4_refuseUnlessSlot_18 htab (by decide) (by decide) (by decide) (by decide) hlocks hP (⟨rfl, by omega⟩) (by decide) (by decide)
  · --
    refine lv_iload_n hx hb dX4_refuseUnlessSlot_4 rfl (lv_at hl 0 rfl) ?_
    refine lv_iconst (v := iI 2) hx hb dX4_refuseUnlessSlot_5 rfl ?_
    refine z_icmp_lt (tgt := 19) hx hb (iI_t (by omega) (by omega)) (iI_t (by omega) (by omega)) dX4_refuseUnlessSlot_6 (by decide) (fun c2 => ?_) (fun c2 => ?_)
    · --
      exact x_vret hx hb hr hlocks hS () (show x = 0 ∨ x = 1 from (by omega)) hP dX4_refuseUnlessSlot_19 (by decide) (by decide)
    · --
      exact x_throw (cls := xIOB) (text := "there is no such slot") (ik := 165) (is := 217) (ic := 169) (Ts := wsX4_refuseUnlessSlot) hx hb hfl hown (by decide +kernel) (by decide +kernel) hts (by decide +kernel) (by decide +kernel) (by decide +kernel) x_ng2 x_gw2 hT hC (by decide +kernel) hZ hS (hl.1.trans hml.symm) dX4_refuseUnlessSlot_9 dX4_refuseUnlessSlot_12 dX4_refuseUnlessSlot_13 dX4_refuseUnlessSlot_15 dX4_refuseUnlessSlot_18 htab (by decide) (by decide) (by decide) (by decide) hlocks hP (⟨rfl, by omega⟩) (by decide) (by decide)
set_option maxHeartbeats 4000000 in
set_option maxRecDepth 100000 in
theorem c_X4_lineLength (l : Launch) (D : va_G) (cy : Nat → ClassId) (ad : Nat → Nat) (z : Nat → Int) (f : Nat → Nat → Int32) (M : MS) (hR : RS z f M) (hM : MOk M) : Ci l D cy yX4_lineLength wsX4_lineLength 1 20 [.ref (ad 0)] (List.flatten [wTop ad, wSt cy ad 1 z f]) (fun (r : Int32) (u : Unit) => r = iI (M.1.length : Int)) (fun u : Unit => (List.flatten [wTop ad, wSt cy ad 1 z f])) := by
  refine Ci_of (cc := cX4_lineLength) (maxL := 1) (ret := (some .int)) (by decide) rfl rfl ?_
  intro p e s m args below meth c A hx hb hr hts hown hlocks hml hP hK hD hT hA ls hl
  have hS : va_S A s.heap s.heap [] := va_S.rf
  have hl : lv_has ls 1 [(0, .ref (ad 0))] := hl
  have hP : va_P D vwCl (List.flatten [wTop ad, wSt cy ad 1 z f]) s.heap := hP
  have hD : va_D A (List.flatten [wTop ad, wSt cy ad 1 z f]) := hD
  have hiX3 : ∀ w ∈ wsX30, w ∈ wsX4_lineLength := by decide +kernel
  have hiX4 : ∀ w ∈ wsX40, w ∈ wsX4_lineLength := by decide +kernel
  obtain ⟨r0, r1, r2, r3, r4, r5, r6, r7⟩ := id hR
  obtain ⟨o1, o2, o3, o4, o5, o6, o7, o8, o9, o10, o11, o12, o13, o14, o15⟩ := id hM
  have q0 := r0.1
  have q1 := r1.1
  have q2 := r2.1
  refine lv_aload_n hx hb dX4_lineLength_0 rfl (lv_at hl 0 rfl) ?_
  refine va_get (D := D) (ci := 4) (v := .ref (ad 1)) (C := RX4) (T := TX4) (N := 7) hx hb hts hiX4 hown hK hP 0 rfl rfl 0 (by decide) (hts (.fieldLink RX4 10 "BackwardSearch" "state" "LBackwardSearch$State;") (by decide +kernel)) (fun _ h9 => h9) rfl dX4_lineLength_1 ?_
  refine va_getN (D := D) (ci := 3) (v := .ref (ad 2)) (C := RX3) (T := TX3) (N := 8) (host := RX4) hx hb hts hiX3 hown hK hP 1 rfl rfl 0 (by decide) (va_Nw.use rfl (hT.1 _ (List.mem_of_getElem? (i := 0) rfl))) (fun _ h9 => h9) rfl dX4_lineLength_4 ?_
  refine z_gVi (n := 0) (b := ad 2) (As := []) (rest := []) ⟨hx, hb, hml, hown, hts⟩ (c_X2_size l D cy (ad 2) (ad 3) (z 0) ) gX4_lineLength_X2_size rfl (by decide +kernel) ⟨Nat.le_of_ble_eq_true rfl, Nat.le_of_ble_eq_true rfl⟩ hK hT hP hS (Fp.same hP hD hS hA [2] rfl rfl (fun _ => rfl)) 2 2 rfl rfl rfl rfl hl.1 rfl (Nat.le_of_ble_eq_true rfl) dX4_lineLength_7 ⟨Nat.zero_le _, Nat.zero_le _⟩ (fun r_1 u_1 H locs hw_1 hP hD hS => ?_)
  have hw_1 : r_1 = iI (z 0) := hw_1
  have hP : va_P D vwCl (List.flatten [wTop ad, wSt cy ad 1 z f]) H := hP
  have hD : va_D A (List.flatten [wTop ad, wSt cy ad 1 z f]) := hD
  obtain rfl := hw_1
  exact z_iret hx hb hr hlocks hS () (show (iI (z 0)) = iI (M.1.length : Int) from (congrArg iI q0)) hP dX4_lineLength_10
set_option maxHeartbeats 4000000 in
set_option maxRecDepth 100000 in
theorem c_X4_wordLength (l : Launch) (D : va_G) (cy : Nat → ClassId) (ad : Nat → Nat) (z : Nat → Int) (f : Nat → Nat → Int32) (M : MS) (hR : RS z f M) (hM : MOk M) : Ci l D cy yX4_wordLength wsX4_wordLength 1 20 [.ref (ad 0)] (List.flatten [wTop ad, wSt cy ad 1 z f]) (fun (r : Int32) (u : Unit) => r = iI (M.2.1.length : Int)) (fun u : Unit => (List.flatten [wTop ad, wSt cy ad 1 z f])) := by
  refine Ci_of (cc := cX4_wordLength) (maxL := 1) (ret := (some .int)) (by decide) rfl rfl ?_
  intro p e s m args below meth c A hx hb hr hts hown hlocks hml hP hK hD hT hA ls hl
  have hS : va_S A s.heap s.heap [] := va_S.rf
  have hl : lv_has ls 1 [(0, .ref (ad 0))] := hl
  have hP : va_P D vwCl (List.flatten [wTop ad, wSt cy ad 1 z f]) s.heap := hP
  have hD : va_D A (List.flatten [wTop ad, wSt cy ad 1 z f]) := hD
  have hiX3 : ∀ w ∈ wsX30, w ∈ wsX4_wordLength := by decide +kernel
  have hiX4 : ∀ w ∈ wsX40, w ∈ wsX4_wordLength := by decide +kernel
  obtain ⟨r0, r1, r2, r3, r4, r5, r6, r7⟩ := id hR
  obtain ⟨o1, o2, o3, o4, o5, o6, o7, o8, o9, o10, o11, o12, o13, o14, o15⟩ := id hM
  have q0 := r0.1
  have q1 := r1.1
  have q2 := r2.1
  refine lv_aload_n hx hb dX4_wordLength_0 rfl (lv_at hl 0 rfl) ?_
  refine va_get (D := D) (ci := 4) (v := .ref (ad 1)) (C := RX4) (T := TX4) (N := 7) hx hb hts hiX4 hown hK hP 0 rfl rfl 0 (by decide) (hts (.fieldLink RX4 10 "BackwardSearch" "state" "LBackwardSearch$State;") (by decide +kernel)) (fun _ h9 => h9) rfl dX4_wordLength_1 ?_
  refine va_getN (D := D) (ci := 3) (v := .ref (ad 4)) (C := RX3) (T := TX3) (N := 8) (host := RX4) hx hb hts hiX3 hown hK hP 1 rfl rfl 1 (by decide) (va_Nw.use rfl (hT.1 _ (List.mem_of_getElem? (i := 1) rfl))) (fun _ h9 => h9) rfl dX4_wordLength_4 ?_
  refine z_gVi (n := 0) (b := ad 4) (As := []) (rest := []) ⟨hx, hb, hml, hown, hts⟩ (c_X2_size l D cy (ad 4) (ad 5) (z 1) ) gX4_wordLength_X2_size rfl (by decide +kernel) ⟨Nat.le_of_ble_eq_true rfl, Nat.le_of_ble_eq_true rfl⟩ hK hT hP hS (Fp.same hP hD hS hA [4] rfl rfl (fun _ => rfl)) 4 2 rfl rfl rfl rfl hl.1 rfl (Nat.le_of_ble_eq_true rfl) dX4_wordLength_7 ⟨Nat.zero_le _, Nat.zero_le _⟩ (fun r_1 u_1 H locs hw_1 hP hD hS => ?_)
  have hw_1 : r_1 = iI (z 1) := hw_1
  have hP : va_P D vwCl (List.flatten [wTop ad, wSt cy ad 1 z f]) H := hP
  have hD : va_D A (List.flatten [wTop ad, wSt cy ad 1 z f]) := hD
  obtain rfl := hw_1
  exact z_iret hx hb hr hlocks hS () (show (iI (z 1)) = iI (M.2.1.length : Int) from (congrArg iI q1)) hP dX4_wordLength_10
set_option maxHeartbeats 4000000 in
set_option maxRecDepth 100000 in
theorem c_X4_foundCount (l : Launch) (D : va_G) (cy : Nat → ClassId) (ad : Nat → Nat) (z : Nat → Int) (f : Nat → Nat → Int32) (M : MS) (hR : RS z f M) (hM : MOk M) : Ci l D cy yX4_foundCount wsX4_foundCount 1 20 [.ref (ad 0)] (List.flatten [wTop ad, wSt cy ad 1 z f]) (fun (r : Int32) (u : Unit) => r = iI (M.2.2.1.length : Int)) (fun u : Unit => (List.flatten [wTop ad, wSt cy ad 1 z f])) := by
  refine Ci_of (cc := cX4_foundCount) (maxL := 1) (ret := (some .int)) (by decide) rfl rfl ?_
  intro p e s m args below meth c A hx hb hr hts hown hlocks hml hP hK hD hT hA ls hl
  have hS : va_S A s.heap s.heap [] := va_S.rf
  have hl : lv_has ls 1 [(0, .ref (ad 0))] := hl
  have hP : va_P D vwCl (List.flatten [wTop ad, wSt cy ad 1 z f]) s.heap := hP
  have hD : va_D A (List.flatten [wTop ad, wSt cy ad 1 z f]) := hD
  have hiX3 : ∀ w ∈ wsX30, w ∈ wsX4_foundCount := by decide +kernel
  have hiX4 : ∀ w ∈ wsX40, w ∈ wsX4_foundCount := by decide +kernel
  obtain ⟨r0, r1, r2, r3, r4, r5, r6, r7⟩ := id hR
  obtain ⟨o1, o2, o3, o4, o5, o6, o7, o8, o9, o10, o11, o12, o13, o14, o15⟩ := id hM
  have q0 := r0.1
  have q1 := r1.1
  have q2 := r2.1
  refine lv_aload_n hx hb dX4_foundCount_0 rfl (lv_at hl 0 rfl) ?_
  refine va_get (D := D) (ci := 4) (v := .ref (ad 1)) (C := RX4) (T := TX4) (N := 7) hx hb hts hiX4 hown hK hP 0 rfl rfl 0 (by decide) (hts (.fieldLink RX4 10 "BackwardSearch" "state" "LBackwardSearch$State;") (by decide +kernel)) (fun _ h9 => h9) rfl dX4_foundCount_1 ?_
  refine va_getN (D := D) (ci := 3) (v := .ref (ad 6)) (C := RX3) (T := TX3) (N := 8) (host := RX4) hx hb hts hiX3 hown hK hP 1 rfl rfl 2 (by decide) (va_Nw.use rfl (hT.1 _ (List.mem_of_getElem? (i := 2) rfl))) (fun _ h9 => h9) rfl dX4_foundCount_4 ?_
  refine z_gVi (n := 0) (b := ad 6) (As := []) (rest := []) ⟨hx, hb, hml, hown, hts⟩ (c_X2_size l D cy (ad 6) (ad 7) (z 2) ) gX4_foundCount_X2_size rfl (by decide +kernel) ⟨Nat.le_of_ble_eq_true rfl, Nat.le_of_ble_eq_true rfl⟩ hK hT hP hS (Fp.same hP hD hS hA [6] rfl rfl (fun _ => rfl)) 6 2 rfl rfl rfl rfl hl.1 rfl (Nat.le_of_ble_eq_true rfl) dX4_foundCount_7 ⟨Nat.zero_le _, Nat.zero_le _⟩ (fun r_1 u_1 H locs hw_1 hP hD hS => ?_)
  have hw_1 : r_1 = iI (z 2) := hw_1
  have hP : va_P D vwCl (List.flatten [wTop ad, wSt cy ad 1 z f]) H := hP
  have hD : va_D A (List.flatten [wTop ad, wSt cy ad 1 z f]) := hD
  obtain rfl := hw_1
  exact z_iret hx hb hr hlocks hS () (show (iI (z 2)) = iI (M.2.2.1.length : Int) from (congrArg iI q2)) hP dX4_foundCount_10
set_option maxHeartbeats 4000000 in
set_option maxRecDepth 100000 in
theorem c_X4_place (l : Launch) (D : va_G) (cy : Nat → ClassId) (ad : Nat → Nat) (z : Nat → Int) (f : Nat → Nat → Int32) (M : MS) (hR : RS z f M) (hM : MOk M) : Ci l D cy yX4_place wsX4_place 0 0 [.ref (ad 0)] (List.flatten [wTop ad, wSt cy ad 1 z f]) (fun (r : Int32) (u : Unit) => r = iI M.2.2.2.2.2.1) (fun u : Unit => (List.flatten [wTop ad, wSt cy ad 1 z f])) := by
  refine Ci_of (cc := cX4_place) (maxL := 1) (ret := (some .int)) (by decide) rfl rfl ?_
  intro p e s m args below meth c A hx hb hr hts hown hlocks hml hP hK hD hT hA ls hl
  have hS : va_S A s.heap s.heap [] := va_S.rf
  have hl : lv_has ls 1 [(0, .ref (ad 0))] := hl
  have hP : va_P D vwCl (List.flatten [wTop ad, wSt cy ad 1 z f]) s.heap := hP
  have hD : va_D A (List.flatten [wTop ad, wSt cy ad 1 z f]) := hD
  have hiX3 : ∀ w ∈ wsX30, w ∈ wsX4_place := by decide +kernel
  have hiX4 : ∀ w ∈ wsX40, w ∈ wsX4_place := by decide +kernel
  obtain ⟨r0, r1, r2, r3, r4, r5, r6, r7⟩ := id hR
  obtain ⟨o1, o2, o3, o4, o5, o6, o7, o8, o9, o10, o11, o12, o13, o14, o15⟩ := id hM
  have q0 := r0.1
  have q1 := r1.1
  have q2 := r2.1
  refine lv_aload_n hx hb dX4_place_0 rfl (lv_at hl 0 rfl) ?_
  refine va_get (D := D) (ci := 4) (v := .ref (ad 1)) (C := RX4) (T := TX4) (N := 7) hx hb hts hiX4 hown hK hP 0 rfl rfl 0 (by decide) (hts (.fieldLink RX4 10 "BackwardSearch" "state" "LBackwardSearch$State;") (by decide +kernel)) (fun _ h9 => h9) rfl dX4_place_1 ?_
  refine va_getN (D := D) (ci := 3) (v := .int (iI (z 5))) (C := RX3) (T := TX3) (N := 8) (host := RX4) hx hb hts hiX3 hown hK hP 1 rfl rfl 5 (by decide) (va_Nw.use rfl (hT.1 _ (List.mem_of_getElem? (i := 3) rfl))) (fun _ h9 => h9) rfl dX4_place_4 ?_
  exact z_iret hx hb hr hlocks hS () (show (iI (z 5)) = iI M.2.2.2.2.2.1 from (congrArg iI r5)) hP dX4_place_7
set_option maxHeartbeats 4000000 in
set_option maxRecDepth 100000 in
theorem c_X4_lookCount (l : Launch) (D : va_G) (cy : Nat → ClassId) (ad : Nat → Nat) (z : Nat → Int) (f : Nat → Nat → Int32) (M : MS) (hR : RS z f M) (hM : MOk M) : Ci l D cy yX4_lookCount wsX4_lookCount 0 0 [.ref (ad 0)] (List.flatten [wTop ad, wSt cy ad 1 z f]) (fun (r : Int32) (u : Unit) => r = iI M.2.2.2.2.2.2.1) (fun u : Unit => (List.flatten [wTop ad, wSt cy ad 1 z f])) := by
  refine Ci_of (cc := cX4_lookCount) (maxL := 1) (ret := (some .int)) (by decide) rfl rfl ?_
  intro p e s m args below meth c A hx hb hr hts hown hlocks hml hP hK hD hT hA ls hl
  have hS : va_S A s.heap s.heap [] := va_S.rf
  have hl : lv_has ls 1 [(0, .ref (ad 0))] := hl
  have hP : va_P D vwCl (List.flatten [wTop ad, wSt cy ad 1 z f]) s.heap := hP
  have hD : va_D A (List.flatten [wTop ad, wSt cy ad 1 z f]) := hD
  have hiX3 : ∀ w ∈ wsX30, w ∈ wsX4_lookCount := by decide +kernel
  have hiX4 : ∀ w ∈ wsX40, w ∈ wsX4_lookCount := by decide +kernel
  obtain ⟨r0, r1, r2, r3, r4, r5, r6, r7⟩ := id hR
  obtain ⟨o1, o2, o3, o4, o5, o6, o7, o8, o9, o10, o11, o12, o13, o14, o15⟩ := id hM
  have q0 := r0.1
  have q1 := r1.1
  have q2 := r2.1
  refine lv_aload_n hx hb dX4_lookCount_0 rfl (lv_at hl 0 rfl) ?_
  refine va_get (D := D) (ci := 4) (v := .ref (ad 1)) (C := RX4) (T := TX4) (N := 7) hx hb hts hiX4 hown hK hP 0 rfl rfl 0 (by decide) (hts (.fieldLink RX4 10 "BackwardSearch" "state" "LBackwardSearch$State;") (by decide +kernel)) (fun _ h9 => h9) rfl dX4_lookCount_1 ?_
  refine va_getN (D := D) (ci := 3) (v := .int (iI (z 6))) (C := RX3) (T := TX3) (N := 8) (host := RX4) hx hb hts hiX3 hown hK hP 1 rfl rfl 6 (by decide) (va_Nw.use rfl (hT.1 _ (List.mem_of_getElem? (i := 4) rfl))) (fun _ h9 => h9) rfl dX4_lookCount_4 ?_
  exact z_iret hx hb hr hlocks hS () (show (iI (z 6)) = iI M.2.2.2.2.2.2.1 from (congrArg iI r6)) hP dX4_lookCount_7
set_option maxHeartbeats 4000000 in
set_option maxRecDepth 100000 in
theorem c_X4_comparedCount (l : Launch) (D : va_G) (cy : Nat → ClassId) (ad : Nat → Nat) (z : Nat → Int) (f : Nat → Nat → Int32) (M : MS) (hR : RS z f M) (hM : MOk M) : Ci l D cy yX4_comparedCount wsX4_comparedCount 0 0 [.ref (ad 0)] (List.flatten [wTop ad, wSt cy ad 1 z f]) (fun (r : Int32) (u : Unit) => r = iI M.2.2.2.2.2.2.2) (fun u : Unit => (List.flatten [wTop ad, wSt cy ad 1 z f])) := by
  refine Ci_of (cc := cX4_comparedCount) (maxL := 1) (ret := (some .int)) (by decide) rfl rfl ?_
  intro p e s m args below meth c A hx hb hr hts hown hlocks hml hP hK hD hT hA ls hl
  have hS : va_S A s.heap s.heap [] := va_S.rf
  have hl : lv_has ls 1 [(0, .ref (ad 0))] := hl
  have hP : va_P D vwCl (List.flatten [wTop ad, wSt cy ad 1 z f]) s.heap := hP
  have hD : va_D A (List.flatten [wTop ad, wSt cy ad 1 z f]) := hD
  have hiX3 : ∀ w ∈ wsX30, w ∈ wsX4_comparedCount := by decide +kernel
  have hiX4 : ∀ w ∈ wsX40, w ∈ wsX4_comparedCount := by decide +kernel
  obtain ⟨r0, r1, r2, r3, r4, r5, r6, r7⟩ := id hR
  obtain ⟨o1, o2, o3, o4, o5, o6, o7, o8, o9, o10, o11, o12, o13, o14, o15⟩ := id hM
  have q0 := r0.1
  have q1 := r1.1
  have q2 := r2.1
  refine lv_aload_n hx hb dX4_comparedCount_0 rfl (lv_at hl 0 rfl) ?_
  refine va_get (D := D) (ci := 4) (v := .ref (ad 1)) (C := RX4) (T := TX4) (N := 7) hx hb hts hiX4 hown hK hP 0 rfl rfl 0 (by decide) (hts (.fieldLink RX4 10 "BackwardSearch" "state" "LBackwardSearch$State;") (by decide +kernel)) (fun _ h9 => h9) rfl dX4_comparedCount_1 ?_
  refine va_getN (D := D) (ci := 3) (v := .int (iI (z 7))) (C := RX3) (T := TX3) (N := 8) (host := RX4) hx hb hts hiX3 hown hK hP 1 rfl rfl 7 (by decide) (va_Nw.use rfl (hT.1 _ (List.mem_of_getElem? (i := 5) rfl))) (fun _ h9 => h9) rfl dX4_comparedCount_4 ?_
  exact z_iret hx hb hr hlocks hS () (show (iI (z 7)) = iI M.2.2.2.2.2.2.2 from (congrArg iI r7)) hP dX4_comparedCount_7
set_option maxHeartbeats 4000000 in
set_option maxRecDepth 100000 in
theorem c_X4_isOver (l : Launch) (D : va_G) (cy : Nat → ClassId) (ad : Nat → Nat) (z : Nat → Int) (f : Nat → Nat → Int32) (M : MS) (hR : RS z f M) (hM : MOk M) : Ci l D cy yX4_isOver wsX4_isOver 3 61 [.ref (ad 0)] (List.flatten [wTop ad, wSt cy ad 1 z f]) (fun (r : Int32) (u : Unit) => ((mOver M) ∧ r = iI 1) ∨ (¬ (mOver M) ∧ r = iI 0)) (fun u : Unit => (List.flatten [wTop ad, wSt cy ad 1 z f])) := by
  refine Ci_of (cc := cX4_isOver) (maxL := 1) (ret := (some .boolean)) (by decide) rfl rfl ?_
  intro p e s m args below meth c A hx hb hr hts hown hlocks hml hP hK hD hT hA ls hl
  have hS : va_S A s.heap s.heap [] := va_S.rf
  have hl : lv_has ls 1 [(0, .ref (ad 0))] := hl
  have hP : va_P D vwCl (List.flatten [wTop ad, wSt cy ad 1 z f]) s.heap := hP
  have hD : va_D A (List.flatten [wTop ad, wSt cy ad 1 z f]) := hD
  have hiX4 : ∀ w ∈ wsX40, w ∈ wsX4_isOver := by decide +kernel
  obtain ⟨r0, r1, r2, r3, r4, r5, r6, r7⟩ := id hR
  obtain ⟨o1, o2, o3, o4, o5, o6, o7, o8, o9, o10, o11, o12, o13, o14, o15⟩ := id hM
  have q0 := r0.1
  have q1 := r1.1
  have q2 := r2.1
  refine lv_aload_n hx hb dX4_isOver_0 rfl (lv_at hl 0 rfl) ?_
  refine va_get (D := D) (ci := 4) (v := .ref (ad 1)) (C := RX4) (T := TX4) (N := 7) hx hb hts hiX4 hown hK hP 0 rfl rfl 0 (by decide) (hts (.fieldLink RX4 10 "BackwardSearch" "state" "LBackwardSearch$State;") (by decide +kernel)) (fun _ h9 => h9) rfl dX4_isOver_1 ?_
  refine z_gVi (n := 0) (b := ad 1) (As := []) (rest := []) ⟨hx, hb, hml, hown, hts⟩ (c_X3_hasEnded l D cy (ad 1) (ad 2) (ad 3) (ad 4) (ad 5) (ad 6) (z 0) (z 1) (z 3) (z 4) (z 5) (z 6) (z 7) (by first | assumption | omega)) gX4_isOver_X3_hasEnded rfl (by decide +kernel) ⟨Nat.le_of_ble_eq_true rfl, Nat.le_of_ble_eq_true rfl⟩ hK hT hP hS (Fp.same hP hD hS hA [1, 2, 4] rfl rfl (fun _ => rfl)) 1 3 rfl rfl rfl rfl hl.1 rfl (Nat.le_of_ble_eq_true rfl) dX4_isOver_4 ⟨Nat.zero_le _, Nat.zero_le _⟩ (fun r_1 u_1 H locs hw_1 hP hD hS => ?_)
  have hw_1 : (((z 1) = 0 ∨ (z 0) - (z 1) + 1 ≤ (z 5)) ∧ r_1 = iI 1) ∨ (¬ ((z 1) = 0 ∨ (z 0) - (z 1) + 1 ≤ (z 5)) ∧ r_1 = iI 0) := hw_1
  have hP : va_P D vwCl (List.flatten [wTop ad, wSt cy ad 1 z f]) H := hP
  have hD : va_D A (List.flatten [wTop ad, wSt cy ad 1 z f]) := hD
  rcases hw_1 with ⟨h_1, rfl⟩ | ⟨h_1, rfl⟩
  · --
    exact z_zret hx hb hr hlocks (by decide +kernel) hS () (show ((mOver M) ∧ (iI 1) = iI 1) ∨ (¬ (mOver M) ∧ (iI 1) = iI 0) from (by first | exact Or.inl ⟨by simp only [mOver]; omega, rfl⟩ | exact Or.inr ⟨by simp only [mOver]; omega, rfl⟩)) hP dX4_isOver_7
  · --
    exact z_zret hx hb hr hlocks (by decide +kernel) hS () (show ((mOver M) ∧ (iI 0) = iI 1) ∨ (¬ (mOver M) ∧ (iI 0) = iI 0) from (by first | exact Or.inl ⟨by simp only [mOver]; omega, rfl⟩ | exact Or.inr ⟨by simp only [mOver]; omega, rfl⟩)) hP dX4_isOver_7
set_option maxHeartbeats 4000000 in
set_option maxRecDepth 100000 in
theorem c_X4_skippedPlaces (l : Launch) (D : va_G) (cy : Nat → ClassId) (ad : Nat → Nat) (z : Nat → Int) (f : Nat → Nat → Int32) (M : MS) (hR : RS z f M) (hM : MOk M) : Ci l D cy yX4_skippedPlaces wsX4_skippedPlaces 2 41 [.ref (ad 0)] (List.flatten [wTop ad, wSt cy ad 1 z f]) (fun (r : Int32) (u : Unit) => r = iI (min M.2.2.2.2.2.1 (max ((M.1.length : Int) - (M.2.1.length : Int) + 1) 0) - M.2.2.2.2.2.2.1)) (fun u : Unit => (List.flatten [wTop ad, wSt cy ad 1 z f])) := by
  refine Ci_of (cc := cX4_skippedPlaces) (maxL := 1) (ret := (some .int)) (by decide) rfl rfl ?_
  intro p e s m args below meth c A hx hb hr hts hown hlocks hml hP hK hD hT hA ls hl
  have hS : va_S A s.heap s.heap [] := va_S.rf
  have hl : lv_has ls 1 [(0, .ref (ad 0))] := hl
  have hP : va_P D vwCl (List.flatten [wTop ad, wSt cy ad 1 z f]) s.heap := hP
  have hD : va_D A (List.flatten [wTop ad, wSt cy ad 1 z f]) := hD
  have hiX3 : ∀ w ∈ wsX30, w ∈ wsX4_skippedPlaces := by decide +kernel
  have hiX4 : ∀ w ∈ wsX40, w ∈ wsX4_skippedPlaces := by decide +kernel
  obtain ⟨r0, r1, r2, r3, r4, r5, r6, r7⟩ := id hR
  obtain ⟨o1, o2, o3, o4, o5, o6, o7, o8, o9, o10, o11, o12, o13, o14, o15⟩ := id hM
  have q0 := r0.1
  have q1 := r1.1
  have q2 := r2.1
  refine lv_aload_n hx hb dX4_skippedPlaces_0 rfl (lv_at hl 0 rfl) ?_
  refine va_get (D := D) (ci := 4) (v := .ref (ad 1)) (C := RX4) (T := TX4) (N := 7) hx hb hts hiX4 hown hK hP 0 rfl rfl 0 (by decide) (hts (.fieldLink RX4 10 "BackwardSearch" "state" "LBackwardSearch$State;") (by decide +kernel)) (fun _ h9 => h9) rfl dX4_skippedPlaces_1 ?_
  refine va_getN (D := D) (ci := 3) (v := .int (iI (z 5))) (C := RX3) (T := TX3) (N := 8) (host := RX4) hx hb hts hiX3 hown hK hP 1 rfl rfl 5 (by decide) (va_Nw.use rfl (hT.1 _ (List.mem_of_getElem? (i := 3) rfl))) (fun _ h9 => h9) rfl dX4_skippedPlaces_4 ?_
  refine lv_aload_n hx hb dX4_skippedPlaces_7 rfl (lv_at hl 0 rfl) ?_
  refine va_get (D := D) (ci := 4) (v := .ref (ad 1)) (C := RX4) (T := TX4) (N := 7) hx hb hts hiX4 hown hK hP 0 rfl rfl 0 (by decide) (hts (.fieldLink RX4 10 "BackwardSearch" "state" "LBackwardSearch$State;") (by decide +kernel)) (fun _ h9 => h9) rfl dX4_skippedPlaces_8 ?_
  refine z_gVi (n := 0) (b := ad 1) (As := []) (rest := [.int (iI (z 5))]) ⟨hx, hb, hml, hown, hts⟩ (c_X3_beginnings l D cy (ad 1) (ad 2) (ad 3) (ad 4) (ad 5) (ad 6) (z 0) (z 1) (z 3) (z 4) (z 5) (z 6) (z 7) (by first | assumption | omega)) gX4_skippedPlaces_X3_beginnings rfl (by decide +kernel) ⟨Nat.le_of_ble_eq_true rfl, Nat.le_of_ble_eq_true rfl⟩ hK hT hP hS (Fp.same hP hD hS hA [1, 2, 4] rfl rfl (fun _ => rfl)) 1 3 rfl rfl rfl rfl hl.1 rfl (Nat.le_of_ble_eq_true rfl) dX4_skippedPlaces_11 ⟨Nat.zero_le _, Nat.zero_le _⟩ (fun r_1 u_1 H locs hw_1 hP hD hS => ?_)
  have hw_1 : r_1 = iI (max ((z 0) - (z 1) + 1) 0) := hw_1
  have hP : va_P D vwCl (List.flatten [wTop ad, wSt cy ad 1 z f]) H := hP
  have hD : va_D A (List.flatten [wTop ad, wSt cy ad 1 z f]) := hD
  obtain rfl := hw_1
  refine z_mmin (hml := hml.trans hl.1.symm) hx hb hown (hts (.methodLink RX4 133 Lib.Math.min.name) (by decide +kernel)) (hts (.static Lib.Math.min.name) (by decide +kernel)) (hts (.initialized "java/lang/Math") (by decide +kernel)) (hts (.code Lib.Math.min.name Lib.Math.min.code 2 (some .int)) (by decide +kernel)) (Nat.le_of_ble_eq_true rfl) (Nat.le_of_ble_eq_true rfl) (Nat.zero_le _) (Nat.zero_le _) (by omega) (by omega) (by omega) (by omega) dX4_skippedPlaces_14 (fun z_2 e_2 => ?_)
  refine lv_aload_n hx hb dX4_skippedPlaces_17 rfl (lv_at hl 0 rfl) ?_
  refine va_get (D := D) (ci := 4) (v := .ref (ad 1)) (C := RX4) (T := TX4) (N := 7) hx hb hts hiX4 hown hK hP 0 rfl rfl 0 (by decide) (hts (.fieldLink RX4 10 "BackwardSearch" "state" "LBackwardSearch$State;") (by decide +kernel)) (fun _ h9 => h9) rfl dX4_skippedPlaces_18 ?_
  refine va_getN (D := D) (ci := 3) (v := .int (iI (z 6))) (C := RX3) (T := TX3) (N := 8) (host := RX4) hx hb hts hiX3 hown hK hP 1 rfl rfl 6 (by decide) (va_Nw.use rfl (hT.1 _ (List.mem_of_getElem? (i := 4) rfl))) (fun _ h9 => h9) rfl dX4_skippedPlaces_21 ?_
  refine z_sub hx hb dX4_skippedPlaces_24 ?_
  exact z_iret hx hb hr hlocks hS () (show (iI (z_2 - (z 6))) = iI (min M.2.2.2.2.2.1 (max ((M.1.length : Int) - (M.2.1.length : Int) + 1) 0) - M.2.2.2.2.2.2.1) from (congrArg iI (by omega))) hP dX4_skippedPlaces_25
set_option maxHeartbeats 4000000 in
set_option maxRecDepth 100000 in
theorem c_X4_lineLetter (l : Launch) (hfl : l.stackTraces = false) (D : va_G) (cy : Nat → ClassId) (ad : Nat → Nat) (z : Nat → Int) (f : Nat → Nat → Int32) (M : MS) (x : Int) (hR : RS z f M) (hM : MOk M) (hx1 : -2147483648 ≤ x ∧ x < 2147483648) : Xi l D cy yX4_lineLetter wsX4_lineLetter 7 113 1 [.ref (ad 0), .int (iI x)] (List.flatten [wTop ad, wSt cy ad 1 z f]) (fun (r : Int32) (u : Unit) => (0 ≤ x ∧ x < (M.1.length : Int)) ∧ r = gl M.1 x.toNat) (fun u : Unit => (List.flatten [wTop ad, wSt cy ad 1 z f])) (fun E => E = xIOB ∧ ¬ (0 ≤ x ∧ x < (M.1.length : Int))) := by
  refine Xi_of (cc := cX4_lineLetter) (maxL := 2) (ret := (some .int)) (by decide) rfl rfl ?_
  intro p e s m args below meth c A hx hb hr hts hown hlocks hml htab hP hK hD hT hC hZ hA ls hl
  have hS : va_S A s.heap s.heap [] := va_S.rf
  have hl : lv_has ls 2 [(0, .ref (ad 0)), (1, .int (iI x))] := hl
  have hP : va_P D vwCl (List.flatten [wTop ad, wSt cy ad 1 z f]) s.heap := hP
  have hD : va_D A (List.flatten [wTop ad, wSt cy ad 1 z f]) := hD
  have hiX3 : ∀ w ∈ wsX30, w ∈ wsX4_lineLetter := by decide +kernel
  have hiX4 : ∀ w ∈ wsX40, w ∈ wsX4_lineLetter := by decide +kernel
  obtain ⟨r0, r1, r2, r3, r4, r5, r6, r7⟩ := id hR
  obtain ⟨o1, o2, o3, o4, o5, o6, o7, o8, o9, o10, o11, o12, o13, o14, o15⟩ := id hM
  have q0 := r0.1
  have q1 := r1.1
  have q2 := r2.1
  refine lv_aload_n hx hb dX4_lineLetter_0 rfl (lv_at hl 0 rfl) ?_
  refine va_get (D := D) (ci := 4) (v := .ref (ad 1)) (C := RX4) (T := TX4) (N := 7) hx hb hts hiX4 hown hK hP 0 rfl rfl 0 (by decide) (hts (.fieldLink RX4 10 "BackwardSearch" "state" "LBackwardSearch$State;") (by decide +kernel)) (fun _ h9 => h9) rfl dX4_lineLetter_1 ?_
  refine va_getN (D := D) (ci := 3) (v := .ref (ad 2)) (C := RX3) (T := TX3) (N := 8) (host := RX4) hx hb hts hiX3 hown hK hP 1 rfl rfl 0 (by decide) (va_Nw.use rfl (hT.1 _ (List.mem_of_getElem? (i := 0) rfl))) (fun _ h9 => h9) rfl dX4_lineLetter_4 ?_
  refine lv_iload_n hx hb dX4_lineLetter_7 rfl (lv_at hl 1 rfl) ?_
  refine x_gSv (n := 2) (As := [.ref (ad 2), .int (iI x)]) (rest := []) ⟨hx, hb, hml, hown, hts⟩ (c_X4_refuseUnlessIn l hfl D cy (ad 2) (ad 3) (z 0) x (by first | assumption | omega) (by first | assumption | omega)) gX4_lineLetter_X4_refuseUnlessIn rfl (by decide +kernel) ⟨Nat.le_of_ble_eq_true rfl, Nat.le_of_ble_eq_true rfl⟩ hK hT hC hZ htab hlocks hS (Fp.same hP hD hS hA [2] rfl rfl (fun _ => rfl)) (fun _ => rfl) (fun E hE => ⟨hE.1, fun h => hE.2 (by omega)⟩) () rfl hl.1 rfl (Nat.le_of_ble_eq_true rfl) dX4_lineLetter_8 ⟨by decide, by decide⟩ (by decide) (by decide) (fun  u_1 H locs hw_1 hP hD hS => ?_)
  have hw_1 : 0 ≤ x ∧ x < (z 0) := hw_1
  have hP : va_P D vwCl (List.flatten [wTop ad, wSt cy ad 1 z f]) H := hP
  have hD : va_D A (List.flatten [wTop ad, wSt cy ad 1 z f]) := hD
  have hin := hw_1
  refine lv_aload_n hx hb dX4_lineLetter_11 rfl (lv_at hl 0 rfl) ?_
  refine va_get (D := D) (ci := 4) (v := .ref (ad 1)) (C := RX4) (T := TX4) (N := 7) hx hb hts hiX4 hown hK hP 0 rfl rfl 0 (by decide) (hts (.fieldLink RX4 10 "BackwardSearch" "state" "LBackwardSearch$State;") (by decide +kernel)) (fun _ h9 => h9) rfl dX4_lineLetter_12 ?_
  refine va_getN (D := D) (ci := 3) (v := .ref (ad 2)) (C := RX3) (T := TX3) (N := 8) (host := RX4) hx hb hts hiX3 hown hK hP 1 rfl rfl 0 (by decide) (va_Nw.use rfl (hT.1 _ (List.mem_of_getElem? (i := 0) rfl))) (fun _ h9 => h9) rfl dX4_lineLetter_15 ?_
  refine lv_iload_n hx hb dX4_lineLetter_18 rfl (lv_at hl 1 rfl) ?_
  refine z_gVi (n := 1) (b := ad 2) (As := [.int (iI x)]) (rest := []) ⟨hx, hb, hml, hown, hts⟩ (c_X2_at l D cy (ad 2) (ad 3) 60 (z 0) (f 0) x (by first | assumption | omega) (by first | assumption | omega)) gX4_lineLetter_X2_at rfl (by decide +kernel) ⟨Nat.le_of_ble_eq_true rfl, Nat.le_of_ble_eq_true rfl⟩ hK hT hP hS (Fp.same hP hD hS hA [2, 3] rfl rfl (fun _ => rfl)) 2 2 rfl rfl rfl rfl hl.1 rfl (Nat.le_of_ble_eq_true rfl) dX4_lineLetter_19 ⟨by decide, by decide⟩ (fun r_2 u_2 H locs hw_2 hP hD hS => ?_)
  have hw_2 : (0 ≤ x ∧ x < (z 0) ∧ r_2 = (f 0) x.toNat) ∨ (¬ (0 ≤ x ∧ x < (z 0)) ∧ r_2 = iI (-1)) := hw_2
  have hP : va_P D vwCl (List.flatten [wTop ad, wSt cy ad 1 z f]) H := hP
  have hD : va_D A (List.flatten [wTop ad, wSt cy ad 1 z f]) := hD
  rcases hw_2 with ⟨h_2, g_2, rfl⟩ | ⟨h_2, rfl⟩
  · --
    exact x_iret hx hb hr hlocks hS () (show (0 ≤ x ∧ x < (M.1.length : Int)) ∧ ((f 0) x.toNat) = gl M.1 x.toNat from ⟨by omega, (r0.2 x.toNat (by omega)).trans rfl⟩) hP dX4_lineLetter_22 (by decide) (by decide)
  · --
    exfalso; omega
set_option maxHeartbeats 4000000 in
set_option maxRecDepth 100000 in
theorem c_X4_wordLetter (l : Launch) (hfl : l.stackTraces = false) (D : va_G) (cy : Nat → ClassId) (ad : Nat → Nat) (z : Nat → Int) (f : Nat → Nat → Int32) (M : MS) (x : Int) (hR : RS z f M) (hM : MOk M) (hx1 : -2147483648 ≤ x ∧ x < 2147483648) : Xi l D cy yX4_wordLetter wsX4_wordLetter 7 113 1 [.ref (ad 0), .int (iI x)] (List.flatten [wTop ad, wSt cy ad 1 z f]) (fun (r : Int32) (u : Unit) => (0 ≤ x ∧ x < (M.2.1.length : Int)) ∧ r = gl M.2.1 x.toNat) (fun u : Unit => (List.flatten [wTop ad, wSt cy ad 1 z f])) (fun E => E = xIOB ∧ ¬ (0 ≤ x ∧ x < (M.2.1.length : Int))) := by
  refine Xi_of (cc := cX4_wordLetter) (maxL := 2) (ret := (some .int)) (by decide) rfl rfl ?_
  intro p e s m args below meth c A hx hb hr hts hown hlocks hml htab hP hK hD hT hC hZ hA ls hl
  have hS : va_S A s.heap s.heap [] := va_S.rf
  have hl : lv_has ls 2 [(0, .ref (ad 0)), (1, .int (iI x))] := hl
  have hP : va_P D vwCl (List.flatten [wTop ad, wSt cy ad 1 z f]) s.heap := hP
  have hD : va_D A (List.flatten [wTop ad, wSt cy ad 1 z f]) := hD
  have hiX3 : ∀ w ∈ wsX30, w ∈ wsX4_wordLetter := by decide +kernel
  have hiX4 : ∀ w ∈ wsX40, w ∈ wsX4_wordLetter := by decide +kernel
  obtain ⟨r0, r1, r2, r3, r4, r5, r6, r7⟩ := id hR
  obtain ⟨o1, o2, o3, o4, o5, o6, o7, o8, o9, o10, o11, o12, o13, o14, o15⟩ := id hM
  have q0 := r0.1
  have q1 := r1.1
  have q2 := r2.1
  refine lv_aload_n hx hb dX4_wordLetter_0 rfl (lv_at hl 0 rfl) ?_
  refine va_get (D := D) (ci := 4) (v := .ref (ad 1)) (C := RX4) (T := TX4) (N := 7) hx hb hts hiX4 hown hK hP 0 rfl rfl 0 (by decide) (hts (.fieldLink RX4 10 "BackwardSearch" "state" "LBackwardSearch$State;") (by decide +kernel)) (fun _ h9 => h9) rfl dX4_wordLetter_1 ?_
  refine va_getN (D := D) (ci := 3) (v := .ref (ad 4)) (C := RX3) (T := TX3) (N := 8) (host := RX4) hx hb hts hiX3 hown hK hP 1 rfl rfl 1 (by decide) (va_Nw.use rfl (hT.1 _ (List.mem_of_getElem? (i := 1) rfl))) (fun _ h9 => h9) rfl dX4_wordLetter_4 ?_
  refine lv_iload_n hx hb dX4_wordLetter_7 rfl (lv_at hl 1 rfl) ?_
  refine x_gSv (n := 2) (As := [.ref (ad 4), .int (iI x)]) (rest := []) ⟨hx, hb, hml, hown, hts⟩ (c_X4_refuseUnlessIn l hfl D cy (ad 4) (ad 5) (z 1) x (by first | assumption | omega) (by first | assumption | omega)) gX4_wordLetter_X4_refuseUnlessIn rfl (by decide +kernel) ⟨Nat.le_of_ble_eq_true rfl, Nat.le_of_ble_eq_true rfl⟩ hK hT hC hZ htab hlocks hS (Fp.same hP hD hS hA [4] rfl rfl (fun _ => rfl)) (fun _ => rfl) (fun E hE => ⟨hE.1, fun h => hE.2 (by omega)⟩) () rfl hl.1 rfl (Nat.le_of_ble_eq_true rfl) dX4_wordLetter_8 ⟨by decide, by decide⟩ (by decide) (by decide) (fun  u_1 H locs hw_1 hP hD hS => ?_)
  have hw_1 : 0 ≤ x ∧ x < (z 1) := hw_1
  have hP : va_P D vwCl (List.flatten [wTop ad, wSt cy ad 1 z f]) H := hP
  have hD : va_D A (List.flatten [wTop ad, wSt cy ad 1 z f]) := hD
  have hin := hw_1
  refine lv_aload_n hx hb dX4_wordLetter_11 rfl (lv_at hl 0 rfl) ?_
  refine va_get (D := D) (ci := 4) (v := .ref (ad 1)) (C := RX4) (T := TX4) (N := 7) hx hb hts hiX4 hown hK hP 0 rfl rfl 0 (by decide) (hts (.fieldLink RX4 10 "BackwardSearch" "state" "LBackwardSearch$State;") (by decide +kernel)) (fun _ h9 => h9) rfl dX4_wordLetter_12 ?_
  refine va_getN (D := D) (ci := 3) (v := .ref (ad 4)) (C := RX3) (T := TX3) (N := 8) (host := RX4) hx hb hts hiX3 hown hK hP 1 rfl rfl 1 (by decide) (va_Nw.use rfl (hT.1 _ (List.mem_of_getElem? (i := 1) rfl))) (fun _ h9 => h9) rfl dX4_wordLetter_15 ?_
  refine lv_iload_n hx hb dX4_wordLetter_18 rfl (lv_at hl 1 rfl) ?_
  refine z_gVi (n := 1) (b := ad 4) (As := [.int (iI x)]) (rest := []) ⟨hx, hb, hml, hown, hts⟩ (c_X2_at l D cy (ad 4) (ad 5) 16 (z 1) (f 1) x (by first | assumption | omega) (by first | assumption | omega)) gX4_wordLetter_X2_at rfl (by decide +kernel) ⟨Nat.le_of_ble_eq_true rfl, Nat.le_of_ble_eq_true rfl⟩ hK hT hP hS (Fp.same hP hD hS hA [4, 5] rfl rfl (fun _ => rfl)) 4 2 rfl rfl rfl rfl hl.1 rfl (Nat.le_of_ble_eq_true rfl) dX4_wordLetter_19 ⟨by decide, by decide⟩ (fun r_2 u_2 H locs hw_2 hP hD hS => ?_)
  have hw_2 : (0 ≤ x ∧ x < (z 1) ∧ r_2 = (f 1) x.toNat) ∨ (¬ (0 ≤ x ∧ x < (z 1)) ∧ r_2 = iI (-1)) := hw_2
  have hP : va_P D vwCl (List.flatten [wTop ad, wSt cy ad 1 z f]) H := hP
  have hD : va_D A (List.flatten [wTop ad, wSt cy ad 1 z f]) := hD
  rcases hw_2 with ⟨h_2, g_2, rfl⟩ | ⟨h_2, rfl⟩
  · --
    exact x_iret hx hb hr hlocks hS () (show (0 ≤ x ∧ x < (M.2.1.length : Int)) ∧ ((f 1) x.toNat) = gl M.2.1 x.toNat from ⟨by omega, (r1.2 x.toNat (by omega)).trans rfl⟩) hP dX4_wordLetter_22 (by decide) (by decide)
  · --
    exfalso; omega
set_option maxHeartbeats 4000000 in
set_option maxRecDepth 100000 in
theorem c_X4_foundPlace (l : Launch) (hfl : l.stackTraces = false) (D : va_G) (cy : Nat → ClassId) (ad : Nat → Nat) (z : Nat → Int) (f : Nat → Nat → Int32) (M : MS) (x : Int) (hR : RS z f M) (hM : MOk M) (hx1 : -2147483648 ≤ x ∧ x < 2147483648) : Xi l D cy yX4_foundPlace wsX4_foundPlace 7 113 1 [.ref (ad 0), .int (iI x)] (List.flatten [wTop ad, wSt cy ad 1 z f]) (fun (r : Int32) (u : Unit) => (0 ≤ x ∧ x < (M.2.2.1.length : Int)) ∧ r = gl M.2.2.1 x.toNat) (fun u : Unit => (List.flatten [wTop ad, wSt cy ad 1 z f])) (fun E => E = xIOB ∧ ¬ (0 ≤ x ∧ x < (M.2.2.1.length : Int))) := by
  refine Xi_of (cc := cX4_foundPlace) (maxL := 2) (ret := (some .int)) (by decide) rfl rfl ?_
  intro p e s m args below meth c A hx hb hr hts hown hlocks hml htab hP hK hD hT hC hZ hA ls hl
  have hS : va_S A s.heap s.heap [] := va_S.rf
  have hl : lv_has ls 2 [(0, .ref (ad 0)), (1, .int (iI x))] := hl
  have hP : va_P D vwCl (List.flatten [wTop ad, wSt cy ad 1 z f]) s.heap := hP
  have hD : va_D A (List.flatten [wTop ad, wSt cy ad 1 z f]) := hD
  have hiX3 : ∀ w ∈ wsX30, w ∈ wsX4_foundPlace := by decide +kernel
  have hiX4 : ∀ w ∈ wsX40, w ∈ wsX4_foundPlace := by decide +kernel
  obtain ⟨r0, r1, r2, r3, r4, r5, r6, r7⟩ := id hR
  obtain ⟨o1, o2, o3, o4, o5, o6, o7, o8, o9, o10, o11, o12, o13, o14, o15⟩ := id hM
  have q0 := r0.1
  have q1 := r1.1
  have q2 := r2.1
  refine lv_aload_n hx hb dX4_foundPlace_0 rfl (lv_at hl 0 rfl) ?_
  refine va_get (D := D) (ci := 4) (v := .ref (ad 1)) (C := RX4) (T := TX4) (N := 7) hx hb hts hiX4 hown hK hP 0 rfl rfl 0 (by decide) (hts (.fieldLink RX4 10 "BackwardSearch" "state" "LBackwardSearch$State;") (by decide +kernel)) (fun _ h9 => h9) rfl dX4_foundPlace_1 ?_
  refine va_getN (D := D) (ci := 3) (v := .ref (ad 6)) (C := RX3) (T := TX3) (N := 8) (host := RX4) hx hb hts hiX3 hown hK hP 1 rfl rfl 2 (by decide) (va_Nw.use rfl (hT.1 _ (List.mem_of_getElem? (i := 2) rfl))) (fun _ h9 => h9) rfl dX4_foundPlace_4 ?_
  refine lv_iload_n hx hb dX4_foundPlace_7 rfl (lv_at hl 1 rfl) ?_
  refine x_gSv (n := 2) (As := [.ref (ad 6), .int (iI x)]) (rest := []) ⟨hx, hb, hml, hown, hts⟩ (c_X4_refuseUnlessIn l hfl D cy (ad 6) (ad 7) (z 2) x (by first | assumption | omega) (by first | assumption | omega)) gX4_foundPlace_X4_refuseUnlessIn rfl (by decide +kernel) ⟨Nat.le_of_ble_eq_true rfl, Nat.le_of_ble_eq_true rfl⟩ hK hT hC hZ htab hlocks hS (Fp.same hP hD hS hA [6] rfl rfl (fun _ => rfl)) (fun _ => rfl) (fun E hE => ⟨hE.1, fun h => hE.2 (by omega)⟩) () rfl hl.1 rfl (Nat.le_of_ble_eq_true rfl) dX4_foundPlace_8 ⟨by decide, by decide⟩ (by decide) (by decide) (fun  u_1 H locs hw_1 hP hD hS => ?_)
  have hw_1 : 0 ≤ x ∧ x < (z 2) := hw_1
  have hP : va_P D vwCl (List.flatten [wTop ad, wSt cy ad 1 z f]) H := hP
  have hD : va_D A (List.flatten [wTop ad, wSt cy ad 1 z f]) := hD
  have hin := hw_1
  refine lv_aload_n hx hb dX4_foundPlace_11 rfl (lv_at hl 0 rfl) ?_
  refine va_get (D := D) (ci := 4) (v := .ref (ad 1)) (C := RX4) (T := TX4) (N := 7) hx hb hts hiX4 hown hK hP 0 rfl rfl 0 (by decide) (hts (.fieldLink RX4 10 "BackwardSearch" "state" "LBackwardSearch$State;") (by decide +kernel)) (fun _ h9 => h9) rfl dX4_foundPlace_12 ?_
  refine va_getN (D := D) (ci := 3) (v := .ref (ad 6)) (C := RX3) (T := TX3) (N := 8) (host := RX4) hx hb hts hiX3 hown hK hP 1 rfl rfl 2 (by decide) (va_Nw.use rfl (hT.1 _ (List.mem_of_getElem? (i := 2) rfl))) (fun _ h9 => h9) rfl dX4_foundPlace_15 ?_
  refine lv_iload_n hx hb dX4_foundPlace_18 rfl (lv_at hl 1 rfl) ?_
  refine z_gVi (n := 1) (b := ad 6) (As := [.int (iI x)]) (rest := []) ⟨hx, hb, hml, hown, hts⟩ (c_X2_at l D cy (ad 6) (ad 7) 60 (z 2) (f 2) x (by first | assumption | omega) (by first | assumption | omega)) gX4_foundPlace_X2_at rfl (by decide +kernel) ⟨Nat.le_of_ble_eq_true rfl, Nat.le_of_ble_eq_true rfl⟩ hK hT hP hS (Fp.same hP hD hS hA [6, 7] rfl rfl (fun _ => rfl)) 6 2 rfl rfl rfl rfl hl.1 rfl (Nat.le_of_ble_eq_true rfl) dX4_foundPlace_19 ⟨by decide, by decide⟩ (fun r_2 u_2 H locs hw_2 hP hD hS => ?_)
  have hw_2 : (0 ≤ x ∧ x < (z 2) ∧ r_2 = (f 2) x.toNat) ∨ (¬ (0 ≤ x ∧ x < (z 2)) ∧ r_2 = iI (-1)) := hw_2
  have hP : va_P D vwCl (List.flatten [wTop ad, wSt cy ad 1 z f]) H := hP
  have hD : va_D A (List.flatten [wTop ad, wSt cy ad 1 z f]) := hD
  rcases hw_2 with ⟨h_2, g_2, rfl⟩ | ⟨h_2, rfl⟩
  · --
    exact x_iret hx hb hr hlocks hS () (show (0 ≤ x ∧ x < (M.2.2.1.length : Int)) ∧ ((f 2) x.toNat) = gl M.2.2.1 x.toNat from ⟨by omega, (r2.2 x.toNat (by omega)).trans rfl⟩) hP dX4_foundPlace_22 (by decide) (by decide)
  · --
    exfalso; omega
set_option maxHeartbeats 4000000 in
set_option maxRecDepth 100000 in
theorem c_X4_lastPlaceOf (l : Launch) (hfl : l.stackTraces = false) (D : va_G) (cy : Nat → ClassId) (ad : Nat → Nat) (z : Nat → Int) (f : Nat → Nat → Int32) (M : MS) (x : Int) (hR : RS z f M) (hM : MOk M) (hx1 : -2147483648 ≤ x ∧ x < 2147483648) : Xi l D cy yX4_lastPlaceOf wsX4_lastPlaceOf 7 112 1 [.ref (ad 0), .int (iI x)] (List.flatten [wTop ad, wSt cy ad 1 z f]) (fun (r : Int32) (u : Unit) => (0 ≤ x ∧ x ≤ 25) ∧ r = iI (lastF M.2.1.length (gl M.2.1) (iI x))) (fun u : Unit => (List.flatten [wTop ad, wSt cy ad 1 z f])) (fun E => E = xIAE ∧ ¬ (0 ≤ x ∧ x ≤ 25)) := by
  refine Xi_of (cc := cX4_lastPlaceOf) (maxL := 2) (ret := (some .int)) (by decide) rfl rfl ?_
  intro p e s m args below meth c A hx hb hr hts hown hlocks hml htab hP hK hD hT hC hZ hA ls hl
  have hS : va_S A s.heap s.heap [] := va_S.rf
  have hl : lv_has ls 2 [(0, .ref (ad 0)), (1, .int (iI x))] := hl
  have hP : va_P D vwCl (List.flatten [wTop ad, wSt cy ad 1 z f]) s.heap := hP
  have hD : va_D A (List.flatten [wTop ad, wSt cy ad 1 z f]) := hD
  have hiX3 : ∀ w ∈ wsX30, w ∈ wsX4_lastPlaceOf := by decide +kernel
  have hiX4 : ∀ w ∈ wsX40, w ∈ wsX4_lastPlaceOf := by decide +kernel
  obtain ⟨r0, r1, r2, r3, r4, r5, r6, r7⟩ := id hR
  obtain ⟨o1, o2, o3, o4, o5, o6, o7, o8, o9, o10, o11, o12, o13, o14, o15⟩ := id hM
  have q0 := r0.1
  have q1 := r1.1
  have q2 := r2.1
  refine lv_iload_n hx hb dX4_lastPlaceOf_0 rfl (lv_at hl 1 rfl) ?_
  refine x_gSv (n := 1) (As := [.int (iI x)]) (rest := []) ⟨hx, hb, hml, hown, hts⟩ (c_X4_refuseUnlessLetter l hfl D cy x (by first | assumption | omega)) gX4_lastPlaceOf_X4_refuseUnlessLetter rfl (by decide +kernel) ⟨Nat.le_of_ble_eq_true rfl, Nat.le_of_ble_eq_true rfl⟩ hK hT hC hZ htab hlocks hS (Fp.same hP hD hS hA [] rfl rfl (fun _ => rfl)) (fun _ => rfl) (fun E hE => hE) () rfl hl.1 rfl (Nat.le_of_ble_eq_true rfl) dX4_lastPlaceOf_1 ⟨by decide, by decide⟩ (by decide) (by decide) (fun  u_1 H locs hw_1 hP hD hS => ?_)
  have hw_1 : 0 ≤ x ∧ x ≤ 25 := hw_1
  have hP : va_P D vwCl (List.flatten [wTop ad, wSt cy ad 1 z f]) H := hP
  have hD : va_D A (List.flatten [wTop ad, wSt cy ad 1 z f]) := hD
  refine lv_aload_n hx hb dX4_lastPlaceOf_4 rfl (lv_at hl 0 rfl) ?_
  refine va_get (D := D) (ci := 4) (v := .ref (ad 1)) (C := RX4) (T := TX4) (N := 7) hx hb hts hiX4 hown hK hP 0 rfl rfl 0 (by decide) (hts (.fieldLink RX4 10 "BackwardSearch" "state" "LBackwardSearch$State;") (by decide +kernel)) (fun _ h9 => h9) rfl dX4_lastPlaceOf_5 ?_
  refine va_getN (D := D) (ci := 3) (v := .ref (ad 4)) (C := RX3) (T := TX3) (N := 8) (host := RX4) hx hb hts hiX3 hown hK hP 1 rfl rfl 1 (by decide) (va_Nw.use rfl (hT.1 _ (List.mem_of_getElem? (i := 1) rfl))) (fun _ h9 => h9) rfl dX4_lastPlaceOf_8 ?_
  refine lv_iload_n hx hb dX4_lastPlaceOf_11 rfl (lv_at hl 1 rfl) ?_
  refine z_gVi (n := 1) (b := ad 4) (As := [.int (iI x)]) (rest := []) ⟨hx, hb, hml, hown, hts⟩ (c_X2_lastPlaceWith l D cy (ad 4) (ad 5) 16 (z 1) (f 1) (iI x) (by first | assumption | omega)) gX4_lastPlaceOf_X2_lastPlaceWith rfl (by decide +kernel) ⟨Nat.le_of_ble_eq_true rfl, Nat.le_of_ble_eq_true rfl⟩ hK hT hP hS (Fp.same hP hD hS hA [4, 5] rfl rfl (fun _ => rfl)) 4 2 rfl rfl rfl rfl hl.1 rfl (Nat.le_of_ble_eq_true rfl) dX4_lastPlaceOf_12 ⟨by decide, by decide⟩ (fun r_2 u_2 H locs hw_2 hP hD hS => ?_)
  have hw_2 : r_2 = iI (lastF (z 1).toNat (f 1) (iI x)) := hw_2
  have hP : va_P D vwCl (List.flatten [wTop ad, wSt cy ad 1 z f]) H := hP
  have hD : va_D A (List.flatten [wTop ad, wSt cy ad 1 z f]) := hD
  obtain rfl := hw_2
  exact x_iret hx hb hr hlocks hS () (show (0 ≤ x ∧ x ≤ 25) ∧ (iI (lastF (z 1).toNat (f 1) (iI x))) = iI (lastF M.2.1.length (gl M.2.1) (iI x)) from ⟨hw_1, congrArg iI (lastF_gl r1)⟩) hP dX4_lastPlaceOf_15 (by decide) (by decide)
set_option maxHeartbeats 4000000 in
set_option maxRecDepth 100000 in
theorem c_X4_letterSkip (l : Launch) (hfl : l.stackTraces = false) (D : va_G) (cy : Nat → ClassId) (ad : Nat → Nat) (z : Nat → Int) (f : Nat → Nat → Int32) (M : MS) (x : Int) (y : Int) (hR : RS z f M) (hM : MOk M) (hx1 : -2147483648 ≤ x ∧ x < 2147483648) (hy1 : -2147483648 ≤ y ∧ y < 2147483648) : Xi l D cy yX4_letterSkip wsX4_letterSkip 7 113 2 [.ref (ad 0), .int (iI x), .int (iI y)] (List.flatten [wTop ad, wSt cy ad 1 z f]) (fun (r : Int32) (u : Unit) => (0 ≤ x ∧ x < (M.2.1.length : Int)) ∧ (0 ≤ y ∧ y ≤ 25) ∧ r = iI (x - lastF M.2.1.length (gl M.2.1) (iI y))) (fun u : Unit => (List.flatten [wTop ad, wSt cy ad 1 z f])) (fun E => (E = xIOB ∧ ¬ (0 ≤ x ∧ x < (M.2.1.length : Int))) ∨ (E = xIAE ∧ (0 ≤ x ∧ x < (M.2.1.length : Int)) ∧ ¬ (0 ≤ y ∧ y ≤ 25))) := by
  refine Xi_of (cc := cX4_letterSkip) (maxL := 3) (ret := (some .int)) (by decide) rfl rfl ?_
  intro p e s m args below meth c A hx hb hr hts hown hlocks hml htab hP hK hD hT hC hZ hA ls hl
  have hS : va_S A s.heap s.heap [] := va_S.rf
  have hl : lv_has ls 3 [(0, .ref (ad 0)), (1, .int (iI x)), (2, .int (iI y))] := hl
  have hP : va_P D vwCl (List.flatten [wTop ad, wSt cy ad 1 z f]) s.heap := hP
  have hD : va_D A (List.flatten [wTop ad, wSt cy ad 1 z f]) := hD
  have hiX3 : ∀ w ∈ wsX30, w ∈ wsX4_letterSkip := by decide +kernel
  have hiX4 : ∀ w ∈ wsX40, w ∈ wsX4_letterSkip := by decide +kernel
  obtain ⟨r0, r1, r2, r3, r4, r5, r6, r7⟩ := id hR
  obtain ⟨o1, o2, o3, o4, o5, o6, o7, o8, o9, o10, o11, o12, o13, o14, o15⟩ := id hM
  have q0 := r0.1
  have q1 := r1.1
  have q2 := r2.1
  refine lv_aload_n hx hb dX4_letterSkip_0 rfl (lv_at hl 0 rfl) ?_
  refine va_get (D := D) (ci := 4) (v := .ref (ad 1)) (C := RX4) (T := TX4) (N := 7) hx hb hts hiX4 hown hK hP 0 rfl rfl 0 (by decide) (hts (.fieldLink RX4 10 "BackwardSearch" "state" "LBackwardSearch$State;") (by decide +kernel)) (fun _ h9 => h9) rfl dX4_letterSkip_1 ?_
  refine va_getN (D := D) (ci := 3) (v := .ref (ad 4)) (C := RX3) (T := TX3) (N := 8) (host := RX4) hx hb hts hiX3 hown hK hP 1 rfl rfl 1 (by decide) (va_Nw.use rfl (hT.1 _ (List.mem_of_getElem? (i := 1) rfl))) (fun _ h9 => h9) rfl dX4_letterSkip_4 ?_
  refine lv_iload_n hx hb dX4_letterSkip_7 rfl (lv_at hl 1 rfl) ?_
  refine x_gSv (n := 2) (As := [.ref (ad 4), .int (iI x)]) (rest := []) ⟨hx, hb, hml, hown, hts⟩ (c_X4_refuseUnlessIn l hfl D cy (ad 4) (ad 5) (z 1) x (by first | assumption | omega) (by first | assumption | omega)) gX4_letterSkip_X4_refuseUnlessIn rfl (by decide +kernel) ⟨Nat.le_of_ble_eq_true rfl, Nat.le_of_ble_eq_true rfl⟩ hK hT hC hZ htab hlocks hS (Fp.same hP hD hS hA [4] rfl rfl (fun _ => rfl)) (fun _ => rfl) (fun E hE => Or.inl ⟨hE.1, fun h => hE.2 (by omega)⟩) () rfl hl.1 rfl (Nat.le_of_ble_eq_true rfl) dX4_letterSkip_8 ⟨by decide, by decide⟩ (by decide) (by decide) (fun  u_1 H locs hw_1 hP hD hS => ?_)
  have hw_1 : 0 ≤ x ∧ x < (z 1) := hw_1
  have hP : va_P D vwCl (List.flatten [wTop ad, wSt cy ad 1 z f]) H := hP
  have hD : va_D A (List.flatten [wTop ad, wSt cy ad 1 z f]) := hD
  refine lv_iload_n hx hb dX4_letterSkip_11 rfl (lv_at hl 2 rfl) ?_
  refine x_gSv (n := 1) (As := [.int (iI y)]) (rest := []) ⟨hx, hb, hml, hown, hts⟩ (c_X4_refuseUnlessLetter l hfl D cy y (by first | assumption | omega)) gX4_letterSkip_X4_refuseUnlessLetter rfl (by decide +kernel) ⟨Nat.le_of_ble_eq_true rfl, Nat.le_of_ble_eq_true rfl⟩ hK hT hC hZ htab hlocks hS (Fp.same hP hD hS hA [] rfl rfl (fun _ => rfl)) (fun _ => rfl) (fun E hE => Or.inr ⟨hE.1, by omega, hE.2⟩) () rfl hl.1 rfl (Nat.le_of_ble_eq_true rfl) dX4_letterSkip_12 ⟨by decide, by decide⟩ (by decide) (by decide) (fun  u_2 H locs hw_2 hP hD hS => ?_)
  have hw_2 : 0 ≤ y ∧ y ≤ 25 := hw_2
  have hP : va_P D vwCl (List.flatten [wTop ad, wSt cy ad 1 z f]) H := hP
  have hD : va_D A (List.flatten [wTop ad, wSt cy ad 1 z f]) := hD
  refine lv_aload_n hx hb dX4_letterSkip_15 rfl (lv_at hl 0 rfl) ?_
  refine va_get (D := D) (ci := 4) (v := .ref (ad 1)) (C := RX4) (T := TX4) (N := 7) hx hb hts hiX4 hown hK hP 0 rfl rfl 0 (by decide) (hts (.fieldLink RX4 10 "BackwardSearch" "state" "LBackwardSearch$State;") (by decide +kernel)) (fun _ h9 => h9) rfl dX4_letterSkip_16 ?_
  refine lv_iload_n hx hb dX4_letterSkip_19 rfl (lv_at hl 1 rfl) ?_
  refine lv_iload_n hx hb dX4_letterSkip_20 rfl (lv_at hl 2 rfl) ?_
  refine z_gVi (n := 2) (b := ad 1) (As := [.int (iI x), .int (iI y)]) (rest := []) ⟨hx, hb, hml, hown, hts⟩ (c_X3_skipByLetter l D cy (ad 1) (ad 2) (ad 4) (ad 5) (ad 6) (z 1) (f 1) (z 3) (z 4) (z 5) (z 6) (z 7) x (iI y) (by first | assumption | omega)) gX4_letterSkip_X3_skipByLetter rfl (by decide +kernel) ⟨Nat.le_of_ble_eq_true rfl, Nat.le_of_ble_eq_true rfl⟩ hK hT hP hS (Fp.same hP hD hS hA [1, 4, 5] rfl rfl (fun _ => rfl)) 1 3 rfl rfl rfl rfl hl.1 rfl (Nat.le_of_ble_eq_true rfl) dX4_letterSkip_21 ⟨by decide, by decide⟩ (fun r_3 u_3 H locs hw_3 hP hD hS => ?_)
  have hw_3 : r_3 = iI (x - lastF (z 1).toNat (f 1) (iI y)) := hw_3
  have hP : va_P D vwCl (List.flatten [wTop ad, wSt cy ad 1 z f]) H := hP
  have hD : va_D A (List.flatten [wTop ad, wSt cy ad 1 z f]) := hD
  obtain rfl := hw_3
  exact x_iret hx hb hr hlocks hS () (show (0 ≤ x ∧ x < (M.2.1.length : Int)) ∧ (0 ≤ y ∧ y ≤ 25) ∧ (iI (x - lastF (z 1).toNat (f 1) (iI y))) = iI (x - lastF M.2.1.length (gl M.2.1) (iI y)) from ⟨by omega, hw_2, congrArg (fun k => iI (x - k)) (lastF_gl r1)⟩) hP dX4_letterSkip_24 (by decide) (by decide)
set_option maxHeartbeats 4000000 in
set_option maxRecDepth 100000 in
theorem c_X4_endFits (l : Launch) (D : va_G) (cy : Nat → ClassId) (h0 : Nat) (a0 : Nat) (K : Nat) (n : Int) (ff : Nat → Int32) (x : Int) (y : Int) (hn : 0 ≤ n ∧ n ≤ K ∧ K ≤ 100) (hxy : 0 ≤ x ∧ x < n ∧ 1 ≤ y ∧ y ≤ 100) : Ci l D cy yX4_endFits wsX4_endFits 2 42 [.ref h0, .int (iI x), .int (iI y)] [(h0, .inr (2, [.ref a0, .int (iI n)])), (a0, .inl (cy 0, K, .inl ff))] (fun (r : Int32) (u : Unit) => ((endP n.toNat ff x.toNat y.toNat) ∧ r = iI 1) ∨ (¬ (endP n.toNat ff x.toNat y.toNat) ∧ r = iI 0)) (fun u : Unit => [(h0, .inr (2, [.ref a0, .int (iI n)])), (a0, .inl (cy 0, K, .inl ff))]) := by
  refine Ci_of (cc := cX4_endFits) (maxL := 4) (ret := (some .boolean)) (by decide) rfl rfl ?_
  intro p e s m args below meth c A hx hb hr hts hown hlocks hml hP hK hD hT hA ls hl
  have hS : va_S A s.heap s.heap [] := va_S.rf
  have hl : lv_has ls 4 [(0, .ref h0), (1, .int (iI x)), (2, .int (iI y))] := hl
  refine lv_iload_n hx hb dX4_endFits_0 rfl (lv_at hl 1 rfl) ?_
  refine lv_iload_n hx hb dX4_endFits_1 rfl (lv_at hl 2 rfl) ?_
  refine z_icmp_lt (tgt := 22) hx hb (iI_t (by omega) (by omega)) (iI_t (by omega) (by omega)) dX4_endFits_2 (by decide) (fun c1 => ?_) (fun c1 => ?_)
  · --
    refine lv_iload_n hx hb dX4_endFits_22 rfl (lv_at hl 1 rfl) ?_
    refine lv_iconst (v := iI 1) hx hb dX4_endFits_23 rfl ?_
    refine z_add hx hb dX4_endFits_24 ?_
    refine lv_iload_n hx hb dX4_endFits_25 rfl (lv_at hl 2 rfl) ?_
    refine z_mmax (hml := hml.trans hl.1.symm) hx hb hown (hts (.methodLink RX4 232 Lib.Math.max.name) (by decide +kernel)) (hts (.static Lib.Math.max.name) (by decide +kernel)) (hts (.initialized "java/lang/Math") (by decide +kernel)) (hts (.code Lib.Math.max.name Lib.Math.max.code 2 (some .int)) (by decide +kernel)) (Nat.le_of_ble_eq_true rfl) (Nat.le_of_ble_eq_true rfl) (Nat.zero_le _) (Nat.zero_le _) (by omega) (by omega) (by omega) (by omega) dX4_endFits_26 (fun z_2 e_2 => ?_)
    refine lv_istore_n (lv' := [(3, .int (iI z_2)), (0, .ref h0), (1, .int (iI x)), (2, .int (iI y))]) hx hb dX4_endFits_29 rfl hl (by decide) rfl (fun ls hl => ?_)
    have hloop3 : ∀ (n3 : Nat) (i : Int) (hi : x < i ∧ y ≤ i ∧ i ≤ max n (max (x + 1) y)) (hf : FitP ff x y i) (hm : max n (max (x + 1) y) - i < (n3 : Int)) (H : Heap) (locs : List Loc) (ls : Array Slot) (hP : va_P D vwCl [(h0, .inr (2, [.ref a0, .int (iI n)])), (a0, .inl (cy 0, K, .inl ff))] H) (hD : va_D A [(h0, .inr (2, [.ref a0, .int (iI n)])), (a0, .inl (cy 0, K, .inl ff))]) (hS : va_S A s.heap H locs) (hl : lv_has ls 4 [(3, .int (iI i)), (0, .ref h0), (1, .int (iI x)), (2, .int (iI y))]), W p l e ({ frames := 2, cells := 0, slots := 0, locals := 42 } : Room) s m args below meth c H locs 0 0 (MQ below (va_Qi (fun (r : Int32) (u : Unit) => ((endP n.toNat ff x.toNat y.toNat) ∧ r = iI 1) ∨ (¬ (endP n.toNat ff x.toNat y.toNat) ∧ r = iI 0)) (fun u t => va_P D vwCl ((fun u : Unit => [(h0, .inr (2, [.ref a0, .int (iI n)])), (a0, .inl (cy 0, K, .inl ff))]) u) t.heap) A) args s 0 0 A) (F0 m 30 ls []) := by
      intro n3
      induction n3 with
      | zero =>
        intro i hi hf hm; exact absurd hm (by omega)
      | succ n3 ih3 =>
        intro i hi hf hm H locs ls hP hD hS hl
        refine lv_iload_n hx hb dX4_endFits_30 rfl (lv_at hl 0 rfl) ?_
        refine lv_aload_n hx hb dX4_endFits_31 rfl (lv_at hl 1 rfl) ?_
        refine z_cVi (n := 0) (b := h0) (As := []) (rest := [.int (iI i)]) ⟨hx, hb, hml, hown, hts⟩ (c_X2_size l D cy h0 a0 n ) gX4_endFits_X2_size rfl (by decide +kernel) ⟨Nat.le_of_ble_eq_true rfl, Nat.le_of_ble_eq_true rfl⟩ hK hT hP hD hS hA [0] rfl rfl 0 2 rfl rfl rfl (fun _ => rfl) rfl hl.1 rfl (Nat.le_of_ble_eq_true rfl) dX4_endFits_32 ⟨Nat.zero_le _, Nat.zero_le _⟩ (fun r_4 u_4 H locs hw_4 hP hD hS => ?_)
        have hw_4 : r_4 = iI n := hw_4
        have hP : va_P D vwCl [(h0, .inr (2, [.ref a0, .int (iI n)])), (a0, .inl (cy 0, K, .inl ff))] H := hP
        have hD : va_D A [(h0, .inr (2, [.ref a0, .int (iI n)])), (a0, .inl (cy 0, K, .inl ff))] := hD
        obtain rfl := hw_4
        refine z_icmp_ge (tgt := 61) hx hb (iI_t (by omega) (by omega)) (iI_t (by omega) (by omega)) dX4_endFits_35 (by decide) (fun c5 => ?_) (fun c5 => ?_)
        · --
          refine lv_iconst (v := iI 1) hx hb dX4_endFits_61 rfl ?_
          exact z_zret hx hb hr hlocks (by decide +kernel) hS () (show ((endP n.toNat ff x.toNat y.toNat) ∧ (iI 1) = iI 1) ∨ (¬ (endP n.toNat ff x.toNat y.toNat) ∧ (iI 1) = iI 0) from (Or.inl ⟨(FitP_all (m := n) (by omega)).mp (FitP_down hf (by omega)), rfl⟩)) hP dX4_endFits_62
        · --
          refine lv_aload_n hx hb dX4_endFits_38 rfl (lv_at hl 1 rfl) ?_
          refine lv_iload_n hx hb dX4_endFits_39 rfl (lv_at hl 0 rfl) ?_
          refine z_cVi (n := 1) (b := h0) (As := [.int (iI i)]) (rest := []) ⟨hx, hb, hml, hown, hts⟩ (c_X2_at l D cy h0 a0 K n ff i (by first | assumption | omega) (by first | assumption | omega)) gX4_endFits_X2_at rfl (by decide +kernel) ⟨Nat.le_of_ble_eq_true rfl, Nat.le_of_ble_eq_true rfl⟩ hK hT hP hD hS hA [0, 1] rfl rfl 0 2 rfl rfl rfl (fun _ => rfl) rfl hl.1 rfl (Nat.le_of_ble_eq_true rfl) dX4_endFits_40 ⟨Nat.zero_le _, Nat.zero_le _⟩ (fun r_6 u_6 H locs hw_6 hP hD hS => ?_)
          have hw_6 : (0 ≤ i ∧ i < n ∧ r_6 = ff i.toNat) ∨ (¬ (0 ≤ i ∧ i < n) ∧ r_6 = iI (-1)) := hw_6
          have hP : va_P D vwCl [(h0, .inr (2, [.ref a0, .int (iI n)])), (a0, .inl (cy 0, K, .inl ff))] H := hP
          have hD : va_D A [(h0, .inr (2, [.ref a0, .int (iI n)])), (a0, .inl (cy 0, K, .inl ff))] := hD
          rcases hw_6 with ⟨h_6, g_6, rfl⟩ | ⟨h_6, rfl⟩
          · --
            refine lv_aload_n hx hb dX4_endFits_43 rfl (lv_at hl 1 rfl) ?_
            refine lv_iload_n hx hb dX4_endFits_44 rfl (lv_at hl 0 rfl) ?_
            refine lv_iload_n hx hb dX4_endFits_45 rfl (lv_at hl 3 rfl) ?_
            refine z_sub hx hb dX4_endFits_46 ?_
            refine z_cVi (n := 1) (b := h0) (As := [.int (iI (i - y))]) (rest := [.int (ff i.toNat)]) ⟨hx, hb, hml, hown, hts⟩ (c_X2_at l D cy h0 a0 K n ff (i - y) (by first | assumption | omega) (by first | assumption | omega)) gX4_endFits_X2_at rfl (by decide +kernel) ⟨Nat.le_of_ble_eq_true rfl, Nat.le_of_ble_eq_true rfl⟩ hK hT hP hD hS hA [0, 1] rfl rfl 0 2 rfl rfl rfl (fun _ => rfl) rfl hl.1 rfl (Nat.le_of_ble_eq_true rfl) dX4_endFits_47 ⟨Nat.zero_le _, Nat.zero_le _⟩ (fun r_7 u_7 H locs hw_7 hP hD hS => ?_)
            have hw_7 : (0 ≤ (i - y) ∧ (i - y) < n ∧ r_7 = ff (i - y).toNat) ∨ (¬ (0 ≤ (i - y) ∧ (i - y) < n) ∧ r_7 = iI (-1)) := hw_7
            have hP : va_P D vwCl [(h0, .inr (2, [.ref a0, .int (iI n)])), (a0, .inl (cy 0, K, .inl ff))] H := hP
            have hD : va_D A [(h0, .inr (2, [.ref a0, .int (iI n)])), (a0, .inl (cy 0, K, .inl ff))] := hD
            rcases hw_7 with ⟨h_7, g_7, rfl⟩ | ⟨h_7, rfl⟩
            · --
              refine lv_icmp_eq (tgt := 55) hx hb dX4_endFits_50 (by decide) (fun c8 => ?_) (fun c8 => ?_)
              · --
                refine z_iinc (lv' := [(3, .int (iI (i + 1))), (0, .ref h0), (1, .int (iI x)), (2, .int (iI y))]) hx hb dX4_endFits_55 hl (k := 0) rfl (by decide) rfl (fun ls hl => ?_)
                refine lv_goto (tgt := 30) hx hb dX4_endFits_58 (by decide) ?_
                exact ih3 (i + 1) (by omega) (FitP_go (by omega) hf (by assumption)) (by omega) _ _ _ hP hD hS (lv_sub hl [0, 1, 2, 3] rfl)
              · --
                refine lv_iconst (v := iI 0) hx hb dX4_endFits_53 rfl ?_
                exact z_zret hx hb hr hlocks (by decide +kernel) hS () (show ((endP n.toNat ff x.toNat y.toNat) ∧ (iI 0) = iI 1) ∨ (¬ (endP n.toNat ff x.toNat y.toNat) ∧ (iI 0) = iI 0) from (Or.inr ⟨fun h => absurd (h.2 i.toNat (by omega) (by omega) (by omega)) (by rw [show i.toNat - y.toNat = (i - y).toNat by omega]; assumption), rfl⟩)) hP dX4_endFits_54
            · --
              exfalso; omega
          · --
            exfalso; omega
    exact hloop3 (Int.toNat (max n (max (x + 1) y) - z_2) + 1) z_2 (by omega) (FitP_start (by first | (intro hle; omega) | (intro _; rw [show x.toNat - y.toNat = (x - y).toNat by omega]; assumption)) (by omega)) (by omega) _ _ _ hP hD hS (lv_sub hl [0, 1, 2, 3] rfl)
  · --
    refine lv_aload_n hx hb dX4_endFits_5 rfl (lv_at hl 0 rfl) ?_
    refine lv_iload_n hx hb dX4_endFits_6 rfl (lv_at hl 1 rfl) ?_
    refine z_cVi (n := 1) (b := h0) (As := [.int (iI x)]) (rest := []) ⟨hx, hb, hml, hown, hts⟩ (c_X2_at l D cy h0 a0 K n ff x (by first | assumption | omega) (by first | assumption | omega)) gX4_endFits_X2_at rfl (by decide +kernel) ⟨Nat.le_of_ble_eq_true rfl, Nat.le_of_ble_eq_true rfl⟩ hK hT hP hD hS hA [0, 1] rfl rfl 0 2 rfl rfl rfl (fun _ => rfl) rfl hl.1 rfl (Nat.le_of_ble_eq_true rfl) dX4_endFits_7 ⟨Nat.zero_le _, Nat.zero_le _⟩ (fun r_9 u_9 H locs hw_9 hP hD hS => ?_)
    have hw_9 : (0 ≤ x ∧ x < n ∧ r_9 = ff x.toNat) ∨ (¬ (0 ≤ x ∧ x < n) ∧ r_9 = iI (-1)) := hw_9
    have hP : va_P D vwCl [(h0, .inr (2, [.ref a0, .int (iI n)])), (a0, .inl (cy 0, K, .inl ff))] H := hP
    have hD : va_D A [(h0, .inr (2, [.ref a0, .int (iI n)])), (a0, .inl (cy 0, K, .inl ff))] := hD
    rcases hw_9 with ⟨h_9, g_9, rfl⟩ | ⟨h_9, rfl⟩
    · --
      refine lv_aload_n hx hb dX4_endFits_10 rfl (lv_at hl 0 rfl) ?_
      refine lv_iload_n hx hb dX4_endFits_11 rfl (lv_at hl 1 rfl) ?_
      refine lv_iload_n hx hb dX4_endFits_12 rfl (lv_at hl 2 rfl) ?_
      refine z_sub hx hb dX4_endFits_13 ?_
      refine z_cVi (n := 1) (b := h0) (As := [.int (iI (x - y))]) (rest := [.int (ff x.toNat)]) ⟨hx, hb, hml, hown, hts⟩ (c_X2_at l D cy h0 a0 K n ff (x - y) (by first | assumption | omega) (by first | assumption | omega)) gX4_endFits_X2_at rfl (by decide +kernel) ⟨Nat.le_of_ble_eq_true rfl, Nat.le_of_ble_eq_true rfl⟩ hK hT hP hD hS hA [0, 1] rfl rfl 0 2 rfl rfl rfl (fun _ => rfl) rfl hl.1 rfl (Nat.le_of_ble_eq_true rfl) dX4_endFits_14 ⟨Nat.zero_le _, Nat.zero_le _⟩ (fun r_10 u_10 H locs hw_10 hP hD hS => ?_)
      have hw_10 : (0 ≤ (x - y) ∧ (x - y) < n ∧ r_10 = ff (x - y).toNat) ∨ (¬ (0 ≤ (x - y) ∧ (x - y) < n) ∧ r_10 = iI (-1)) := hw_10
      have hP : va_P D vwCl [(h0, .inr (2, [.ref a0, .int (iI n)])), (a0, .inl (cy 0, K, .inl ff))] H := hP
      have hD : va_D A [(h0, .inr (2, [.ref a0, .int (iI n)])), (a0, .inl (cy 0, K, .inl ff))] := hD
      rcases hw_10 with ⟨h_10, g_10, rfl⟩ | ⟨h_10, rfl⟩
      · --
        refine lv_icmp_ne (tgt := 22) hx hb dX4_endFits_17 (by decide) (fun c11 => ?_) (fun c11 => ?_)
        · --
          refine lv_iload_n hx hb dX4_endFits_22 rfl (lv_at hl 1 rfl) ?_
          refine lv_iconst (v := iI 1) hx hb dX4_endFits_23 rfl ?_
          refine z_add hx hb dX4_endFits_24 ?_
          refine lv_iload_n hx hb dX4_endFits_25 rfl (lv_at hl 2 rfl) ?_
          refine z_mmax (hml := hml.trans hl.1.symm) hx hb hown (hts (.methodLink RX4 232 Lib.Math.max.name) (by decide +kernel)) (hts (.static Lib.Math.max.name) (by decide +kernel)) (hts (.initialized "java/lang/Math") (by decide +kernel)) (hts (.code Lib.Math.max.name Lib.Math.max.code 2 (some .int)) (by decide +kernel)) (Nat.le_of_ble_eq_true rfl) (Nat.le_of_ble_eq_true rfl) (Nat.zero_le _) (Nat.zero_le _) (by omega) (by omega) (by omega) (by omega) dX4_endFits_26 (fun z_12 e_12 => ?_)
          refine lv_istore_n (lv' := [(3, .int (iI z_12)), (0, .ref h0), (1, .int (iI x)), (2, .int (iI y))]) hx hb dX4_endFits_29 rfl hl (by decide) rfl (fun ls hl => ?_)
          have hloop13 : ∀ (n13 : Nat) (i : Int) (hi : x < i ∧ y ≤ i ∧ i ≤ max n (max (x + 1) y)) (hf : FitP ff x y i) (hm : max n (max (x + 1) y) - i < (n13 : Int)) (H : Heap) (locs : List Loc) (ls : Array Slot) (hP : va_P D vwCl [(h0, .inr (2, [.ref a0, .int (iI n)])), (a0, .inl (cy 0, K, .inl ff))] H) (hD : va_D A [(h0, .inr (2, [.ref a0, .int (iI n)])), (a0, .inl (cy 0, K, .inl ff))]) (hS : va_S A s.heap H locs) (hl : lv_has ls 4 [(3, .int (iI i)), (0, .ref h0), (1, .int (iI x)), (2, .int (iI y))]), W p l e ({ frames := 2, cells := 0, slots := 0, locals := 42 } : Room) s m args below meth c H locs 0 0 (MQ below (va_Qi (fun (r : Int32) (u : Unit) => ((endP n.toNat ff x.toNat y.toNat) ∧ r = iI 1) ∨ (¬ (endP n.toNat ff x.toNat y.toNat) ∧ r = iI 0)) (fun u t => va_P D vwCl ((fun u : Unit => [(h0, .inr (2, [.ref a0, .int (iI n)])), (a0, .inl (cy 0, K, .inl ff))]) u) t.heap) A) args s 0 0 A) (F0 m 30 ls []) := by
            intro n13
            induction n13 with
            | zero =>
              intro i hi hf hm; exact absurd hm (by omega)
            | succ n13 ih13 =>
              intro i hi hf hm H locs ls hP hD hS hl
              refine lv_iload_n hx hb dX4_endFits_30 rfl (lv_at hl 0 rfl) ?_
              refine lv_aload_n hx hb dX4_endFits_31 rfl (lv_at hl 1 rfl) ?_
              refine z_cVi (n := 0) (b := h0) (As := []) (rest := [.int (iI i)]) ⟨hx, hb, hml, hown, hts⟩ (c_X2_size l D cy h0 a0 n ) gX4_endFits_X2_size rfl (by decide +kernel) ⟨Nat.le_of_ble_eq_true rfl, Nat.le_of_ble_eq_true rfl⟩ hK hT hP hD hS hA [0] rfl rfl 0 2 rfl rfl rfl (fun _ => rfl) rfl hl.1 rfl (Nat.le_of_ble_eq_true rfl) dX4_endFits_32 ⟨Nat.zero_le _, Nat.zero_le _⟩ (fun r_14 u_14 H locs hw_14 hP hD hS => ?_)
              have hw_14 : r_14 = iI n := hw_14
              have hP : va_P D vwCl [(h0, .inr (2, [.ref a0, .int (iI n)])), (a0, .inl (cy 0, K, .inl ff))] H := hP
              have hD : va_D A [(h0, .inr (2, [.ref a0, .int (iI n)])), (a0, .inl (cy 0, K, .inl ff))] := hD
              obtain rfl := hw_14
              refine z_icmp_ge (tgt := 61) hx hb (iI_t (by omega) (by omega)) (iI_t (by omega) (by omega)) dX4_endFits_35 (by decide) (fun c15 => ?_) (fun c15 => ?_)
              · --
                refine lv_iconst (v := iI 1) hx hb dX4_endFits_61 rfl ?_
                exact z_zret hx hb hr hlocks (by decide +kernel) hS () (show ((endP n.toNat ff x.toNat y.toNat) ∧ (iI 1) = iI 1) ∨ (¬ (endP n.toNat ff x.toNat y.toNat) ∧ (iI 1) = iI 0) from (Or.inl ⟨(FitP_all (m := n) (by omega)).mp (FitP_down hf (by omega)), rfl⟩)) hP dX4_endFits_62
              · --
                refine lv_aload_n hx hb dX4_endFits_38 rfl (lv_at hl 1 rfl) ?_
                refine lv_iload_n hx hb dX4_endFits_39 rfl (lv_at hl 0 rfl) ?_
                refine z_cVi (n := 1) (b := h0) (As := [.int (iI i)]) (rest := []) ⟨hx, hb, hml, hown, hts⟩ (c_X2_at l D cy h0 a0 K n ff i (by first | assumption | omega) (by first | assumption | omega)) gX4_endFits_X2_at rfl (by decide +kernel) ⟨Nat.le_of_ble_eq_true rfl, Nat.le_of_ble_eq_true rfl⟩ hK hT hP hD hS hA [0, 1] rfl rfl 0 2 rfl rfl rfl (fun _ => rfl) rfl hl.1 rfl (Nat.le_of_ble_eq_true rfl) dX4_endFits_40 ⟨Nat.zero_le _, Nat.zero_le _⟩ (fun r_16 u_16 H locs hw_16 hP hD hS => ?_)
                have hw_16 : (0 ≤ i ∧ i < n ∧ r_16 = ff i.toNat) ∨ (¬ (0 ≤ i ∧ i < n) ∧ r_16 = iI (-1)) := hw_16
                have hP : va_P D vwCl [(h0, .inr (2, [.ref a0, .int (iI n)])), (a0, .inl (cy 0, K, .inl ff))] H := hP
                have hD : va_D A [(h0, .inr (2, [.ref a0, .int (iI n)])), (a0, .inl (cy 0, K, .inl ff))] := hD
                rcases hw_16 with ⟨h_16, g_16, rfl⟩ | ⟨h_16, rfl⟩
                · --
                  refine lv_aload_n hx hb dX4_endFits_43 rfl (lv_at hl 1 rfl) ?_
                  refine lv_iload_n hx hb dX4_endFits_44 rfl (lv_at hl 0 rfl) ?_
                  refine lv_iload_n hx hb dX4_endFits_45 rfl (lv_at hl 3 rfl) ?_
                  refine z_sub hx hb dX4_endFits_46 ?_
                  refine z_cVi (n := 1) (b := h0) (As := [.int (iI (i - y))]) (rest := [.int (ff i.toNat)]) ⟨hx, hb, hml, hown, hts⟩ (c_X2_at l D cy h0 a0 K n ff (i - y) (by first | assumption | omega) (by first | assumption | omega)) gX4_endFits_X2_at rfl (by decide +kernel) ⟨Nat.le_of_ble_eq_true rfl, Nat.le_of_ble_eq_true rfl⟩ hK hT hP hD hS hA [0, 1] rfl rfl 0 2 rfl rfl rfl (fun _ => rfl) rfl hl.1 rfl (Nat.le_of_ble_eq_true rfl) dX4_endFits_47 ⟨Nat.zero_le _, Nat.zero_le _⟩ (fun r_17 u_17 H locs hw_17 hP hD hS => ?_)
                  have hw_17 : (0 ≤ (i - y) ∧ (i - y) < n ∧ r_17 = ff (i - y).toNat) ∨ (¬ (0 ≤ (i - y) ∧ (i - y) < n) ∧ r_17 = iI (-1)) := hw_17
                  have hP : va_P D vwCl [(h0, .inr (2, [.ref a0, .int (iI n)])), (a0, .inl (cy 0, K, .inl ff))] H := hP
                  have hD : va_D A [(h0, .inr (2, [.ref a0, .int (iI n)])), (a0, .inl (cy 0, K, .inl ff))] := hD
                  rcases hw_17 with ⟨h_17, g_17, rfl⟩ | ⟨h_17, rfl⟩
                  · --
                    refine lv_icmp_eq (tgt := 55) hx hb dX4_endFits_50 (by decide) (fun c18 => ?_) (fun c18 => ?_)
                    · --
                      refine z_iinc (lv' := [(3, .int (iI (i + 1))), (0, .ref h0), (1, .int (iI x)), (2, .int (iI y))]) hx hb dX4_endFits_55 hl (k := 0) rfl (by decide) rfl (fun ls hl => ?_)
                      refine lv_goto (tgt := 30) hx hb dX4_endFits_58 (by decide) ?_
                      exact ih13 (i + 1) (by omega) (FitP_go (by omega) hf (by assumption)) (by omega) _ _ _ hP hD hS (lv_sub hl [0, 1, 2, 3] rfl)
                    · --
                      refine lv_iconst (v := iI 0) hx hb dX4_endFits_53 rfl ?_
                      exact z_zret hx hb hr hlocks (by decide +kernel) hS () (show ((endP n.toNat ff x.toNat y.toNat) ∧ (iI 0) = iI 1) ∨ (¬ (endP n.toNat ff x.toNat y.toNat) ∧ (iI 0) = iI 0) from (Or.inr ⟨fun h => absurd (h.2 i.toNat (by omega) (by omega) (by omega)) (by rw [show i.toNat - y.toNat = (i - y).toNat by omega]; assumption), rfl⟩)) hP dX4_endFits_54
                  · --
                    exfalso; omega
                · --
                  exfalso; omega
          exact hloop13 (Int.toNat (max n (max (x + 1) y) - z_12) + 1) z_12 (by omega) (FitP_start (by first | (intro hle; omega) | (intro _; rw [show x.toNat - y.toNat = (x - y).toNat by omega]; assumption)) (by omega)) (by omega) _ _ _ hP hD hS (lv_sub hl [0, 1, 2, 3] rfl)
        · --
          refine lv_iconst (v := iI 0) hx hb dX4_endFits_20 rfl ?_
          exact z_zret hx hb hr hlocks (by decide +kernel) hS () (show ((endP n.toNat ff x.toNat y.toNat) ∧ (iI 0) = iI 1) ∨ (¬ (endP n.toNat ff x.toNat y.toNat) ∧ (iI 0) = iI 0) from (Or.inr ⟨fun h => h.1 (by omega) (by rw [show x.toNat - y.toNat = (x - y).toNat by omega]; assumption), rfl⟩)) hP dX4_endFits_21
      · --
        exfalso; omega
    · --
      exfalso; omega
set_option maxHeartbeats 4000000 in
set_option maxRecDepth 100000 in
theorem c_X4_endSkipByTrying (l : Launch) (hfl : l.stackTraces = false) (D : va_G) (cy : Nat → ClassId) (ad : Nat → Nat) (z : Nat → Int) (f : Nat → Nat → Int32) (M : MS) (x : Int) (hR : RS z f M) (hM : MOk M) (hx1 : -2147483648 ≤ x ∧ x < 2147483648) : Xi l D cy yX4_endSkipByTrying wsX4_endSkipByTrying 7 113 1 [.ref (ad 0), .int (iI x)] (List.flatten [wTop ad, wSt cy ad 1 z f]) (fun (r : Int32) (u : Unit) => (0 ≤ x ∧ x < (M.2.1.length : Int)) ∧ r = iI (endF M.2.1.length (gl M.2.1) x.toNat : Int)) (fun u : Unit => (List.flatten [wTop ad, wSt cy ad 1 z f])) (fun E => E = xIOB ∧ ¬ (0 ≤ x ∧ x < (M.2.1.length : Int))) := by
  refine Xi_of (cc := cX4_endSkipByTrying) (maxL := 4) (ret := (some .int)) (by decide) rfl rfl ?_
  intro p e s m args below meth c A hx hb hr hts hown hlocks hml htab hP hK hD hT hC hZ hA ls hl
  have hS : va_S A s.heap s.heap [] := va_S.rf
  have hl : lv_has ls 4 [(0, .ref (ad 0)), (1, .int (iI x))] := hl
  have hP : va_P D vwCl (List.flatten [wTop ad, wSt cy ad 1 z f]) s.heap := hP
  have hD : va_D A (List.flatten [wTop ad, wSt cy ad 1 z f]) := hD
  have hiX3 : ∀ w ∈ wsX30, w ∈ wsX4_endSkipByTrying := by decide +kernel
  have hiX4 : ∀ w ∈ wsX40, w ∈ wsX4_endSkipByTrying := by decide +kernel
  obtain ⟨r0, r1, r2, r3, r4, r5, r6, r7⟩ := id hR
  obtain ⟨o1, o2, o3, o4, o5, o6, o7, o8, o9, o10, o11, o12, o13, o14, o15⟩ := id hM
  have q0 := r0.1
  have q1 := r1.1
  have q2 := r2.1
  refine lv_aload_n hx hb dX4_endSkipByTrying_0 rfl (lv_at hl 0 rfl) ?_
  refine va_get (D := D) (ci := 4) (v := .ref (ad 1)) (C := RX4) (T := TX4) (N := 7) hx hb hts hiX4 hown hK hP 0 rfl rfl 0 (by decide) (hts (.fieldLink RX4 10 "BackwardSearch" "state" "LBackwardSearch$State;") (by decide +kernel)) (fun _ h9 => h9) rfl dX4_endSkipByTrying_1 ?_
  refine va_getN (D := D) (ci := 3) (v := .ref (ad 4)) (C := RX3) (T := TX3) (N := 8) (host := RX4) hx hb hts hiX3 hown hK hP 1 rfl rfl 1 (by decide) (va_Nw.use rfl (hT.1 _ (List.mem_of_getElem? (i := 1) rfl))) (fun _ h9 => h9) rfl dX4_endSkipByTrying_4 ?_
  refine lv_iload_n hx hb dX4_endSkipByTrying_7 rfl (lv_at hl 1 rfl) ?_
  refine x_gSv (n := 2) (As := [.ref (ad 4), .int (iI x)]) (rest := []) ⟨hx, hb, hml, hown, hts⟩ (c_X4_refuseUnlessIn l hfl D cy (ad 4) (ad 5) (z 1) x (by first | assumption | omega) (by first | assumption | omega)) gX4_endSkipByTrying_X4_refuseUnlessIn rfl (by decide +kernel) ⟨Nat.le_of_ble_eq_true rfl, Nat.le_of_ble_eq_true rfl⟩ hK hT hC hZ htab hlocks hS (Fp.same hP hD hS hA [4] rfl rfl (fun _ => rfl)) (fun _ => rfl) (fun E hE => ⟨hE.1, fun h => hE.2 (by omega)⟩) () rfl hl.1 rfl (Nat.le_of_ble_eq_true rfl) dX4_endSkipByTrying_8 ⟨by decide, by decide⟩ (by decide) (by decide) (fun  u_1 H locs hw_1 hP hD hS => ?_)
  have hw_1 : 0 ≤ x ∧ x < (z 1) := hw_1
  have hP : va_P D vwCl (List.flatten [wTop ad, wSt cy ad 1 z f]) H := hP
  have hD : va_D A (List.flatten [wTop ad, wSt cy ad 1 z f]) := hD
  refine lv_aload_n hx hb dX4_endSkipByTrying_11 rfl (lv_at hl 0 rfl) ?_
  refine va_get (D := D) (ci := 4) (v := .ref (ad 1)) (C := RX4) (T := TX4) (N := 7) hx hb hts hiX4 hown hK hP 0 rfl rfl 0 (by decide) (hts (.fieldLink RX4 10 "BackwardSearch" "state" "LBackwardSearch$State;") (by decide +kernel)) (fun _ h9 => h9) rfl dX4_endSkipByTrying_12 ?_
  refine va_getN (D := D) (ci := 3) (v := .ref (ad 4)) (C := RX3) (T := TX3) (N := 8) (host := RX4) hx hb hts hiX3 hown hK hP 1 rfl rfl 1 (by decide) (va_Nw.use rfl (hT.1 _ (List.mem_of_getElem? (i := 1) rfl))) (fun _ h9 => h9) rfl dX4_endSkipByTrying_15 ?_
  refine z_gVi (n := 0) (b := ad 4) (As := []) (rest := []) ⟨hx, hb, hml, hown, hts⟩ (c_X2_size l D cy (ad 4) (ad 5) (z 1) ) gX4_endSkipByTrying_X2_size rfl (by decide +kernel) ⟨Nat.le_of_ble_eq_true rfl, Nat.le_of_ble_eq_true rfl⟩ hK hT hP hS (Fp.same hP hD hS hA [4] rfl rfl (fun _ => rfl)) 4 2 rfl rfl rfl rfl hl.1 rfl (Nat.le_of_ble_eq_true rfl) dX4_endSkipByTrying_18 ⟨by decide, by decide⟩ (fun r_2 u_2 H locs hw_2 hP hD hS => ?_)
  have hw_2 : r_2 = iI (z 1) := hw_2
  have hP : va_P D vwCl (List.flatten [wTop ad, wSt cy ad 1 z f]) H := hP
  have hD : va_D A (List.flatten [wTop ad, wSt cy ad 1 z f]) := hD
  obtain rfl := hw_2
  refine lv_istore_n (lv' := [(2, .int (iI (z 1))), (0, .ref (ad 0)), (1, .int (iI x))]) hx hb dX4_endSkipByTrying_21 rfl hl (by decide) rfl (fun ls hl => ?_)
  refine lv_iconst (v := iI 1) hx hb dX4_endSkipByTrying_22 rfl ?_
  refine lv_istore_n (lv' := [(3, .int (iI 1)), (2, .int (iI (z 1))), (0, .ref (ad 0)), (1, .int (iI x))]) hx hb dX4_endSkipByTrying_23 rfl hl (by decide) rfl (fun ls hl => ?_)
  have hloop3 : ∀ (n3 : Nat) (i : Int) (hi : 1 ≤ i ∧ i ≤ z 1) (hmin : ∀ k : Nat, 1 ≤ k → (k : Int) < i → ¬ endP (z 1).toNat (f 1) x.toNat k) (hm : z 1 - i < (n3 : Int)) (H : Heap) (locs : List Loc) (ls : Array Slot) (hP : va_P D vwCl (List.flatten [wTop ad, wSt cy ad 1 z f]) H) (hD : va_D A (List.flatten [wTop ad, wSt cy ad 1 z f])) (hS : va_S A s.heap H locs) (hl : lv_has ls 4 [(3, .int (iI i)), (2, .int (iI (z 1))), (0, .ref (ad 0)), (1, .int (iI x))]), W p l e ({ frames := 7, cells := 1, slots := 6 * 1, locals := 113 } : Room) s m args below meth c H locs (0 + 1) (0 + 6 * 1) (vx_MQ below (va_Qi (fun (r : Int32) (u : Unit) => (0 ≤ x ∧ x < (M.2.1.length : Int)) ∧ r = iI (endF M.2.1.length (gl M.2.1) x.toNat : Int)) (fun u t => va_P D vwCl ((fun u : Unit => (List.flatten [wTop ad, wSt cy ad 1 z f])) u) t.heap) A) (XTh D (List.flatten [wTop ad, wSt cy ad 1 z f]) (fun E => E = xIOB ∧ ¬ (0 ≤ x ∧ x < (M.2.1.length : Int))) A) args s 1 (6 * 1) A) (F0 m 24 ls []) := by
    intro n3
    induction n3 with
    | zero =>
      intro i hi hmin hm; exact absurd hm (by omega)
    | succ n3 ih3 =>
      intro i hi hmin hm H locs ls hP hD hS hl
      refine lv_iload_n hx hb dX4_endSkipByTrying_24 rfl (lv_at hl 0 rfl) ?_
      refine lv_iload_n hx hb dX4_endSkipByTrying_25 rfl (lv_at hl 1 rfl) ?_
      refine z_icmp_ge (tgt := 52) hx hb (iI_t (by omega) (by omega)) (iI_t (by omega) (by omega)) dX4_endSkipByTrying_26 (by decide) (fun c4 => ?_) (fun c4 => ?_)
      · --
        refine lv_iload_n hx hb dX4_endSkipByTrying_52 rfl (lv_at hl 1 rfl) ?_
        exact x_iret hx hb hr hlocks hS () (show (0 ≤ x ∧ x < (M.2.1.length : Int)) ∧ (iI (z 1)) = iI (endF M.2.1.length (gl M.2.1) x.toNat : Int) from ⟨by omega, congrArg iI (end_gl r1 (by omega) (end_at (m := z 1) (by omega) (by omega) ⟨fun h => absurd h (by omega), fun a b c d => absurd d (by omega)⟩ (fun k a b => hmin k a (by omega))))⟩) hP dX4_endSkipByTrying_53 (by decide) (by decide)
      · --
        refine lv_aload_n hx hb dX4_endSkipByTrying_29 rfl (lv_at hl 2 rfl) ?_
        refine va_get (D := D) (ci := 4) (v := .ref (ad 1)) (C := RX4) (T := TX4) (N := 7) hx hb hts hiX4 hown hK hP 0 rfl rfl 0 (by decide) (hts (.fieldLink RX4 10 "BackwardSearch" "state" "LBackwardSearch$State;") (by decide +kernel)) (fun _ h9 => h9) rfl dX4_endSkipByTrying_30 ?_
        refine va_getN (D := D) (ci := 3) (v := .ref (ad 4)) (C := RX3) (T := TX3) (N := 8) (host := RX4) hx hb hts hiX3 hown hK hP 1 rfl rfl 1 (by decide) (va_Nw.use rfl (hT.1 _ (List.mem_of_getElem? (i := 1) rfl))) (fun _ h9 => h9) rfl dX4_endSkipByTrying_33 ?_
        refine lv_iload_n hx hb dX4_endSkipByTrying_36 rfl (lv_at hl 3 rfl) ?_
        refine lv_iload_n hx hb dX4_endSkipByTrying_37 rfl (lv_at hl 0 rfl) ?_
        refine z_gSi (n := 3) (As := [.ref (ad 4), .int (iI x), .int (iI i)]) (rest := []) ⟨hx, hb, hml, hown, hts⟩ (c_X4_endFits l D cy (ad 4) (ad 5) 16 (z 1) (f 1) x i (by first | assumption | omega) (by first | assumption | omega)) gX4_endSkipByTrying_X4_endFits rfl (by decide +kernel) ⟨Nat.le_of_ble_eq_true rfl, Nat.le_of_ble_eq_true rfl⟩ hK hT hS (Fp.same hP hD hS hA [4, 5] rfl rfl (fun _ => rfl)) rfl hl.1 rfl (Nat.le_of_ble_eq_true rfl) dX4_endSkipByTrying_38 ⟨by decide, by decide⟩ (fun r_5 u_5 H locs hw_5 hP hD hS => ?_)
        have hw_5 : ((endP (z 1).toNat (f 1) x.toNat i.toNat) ∧ r_5 = iI 1) ∨ (¬ (endP (z 1).toNat (f 1) x.toNat i.toNat) ∧ r_5 = iI 0) := hw_5
        have hP : va_P D vwCl (List.flatten [wTop ad, wSt cy ad 1 z f]) H := hP
        have hD : va_D A (List.flatten [wTop ad, wSt cy ad 1 z f]) := hD
        rcases hw_5 with ⟨h_5, rfl⟩ | ⟨h_5, rfl⟩
        · --
          refine z_if_eq (tgt := 46) hx hb (iI_t (by omega) (by omega)) dX4_endSkipByTrying_41 (by decide) (fun c6 => absurd c6 (by omega)) (fun _ => ?_)
          refine lv_iload_n hx hb dX4_endSkipByTrying_44 rfl (lv_at hl 0 rfl) ?_
          exact x_iret hx hb hr hlocks hS () (show (0 ≤ x ∧ x < (M.2.1.length : Int)) ∧ (iI i) = iI (endF M.2.1.length (gl M.2.1) x.toNat : Int) from ⟨by omega, congrArg iI (end_gl r1 (by omega) (end_at (m := z 1) (by omega) (by omega) (by assumption) hmin))⟩) hP dX4_endSkipByTrying_45 (by decide) (by decide)
        · --
          refine z_if_eq (tgt := 46) hx hb (iI_t (by omega) (by omega)) dX4_endSkipByTrying_41 (by decide) (fun _ => ?_) (fun c7 => absurd c7 (by omega))
          refine z_iinc (lv' := [(3, .int (iI (i + 1))), (2, .int (iI (z 1))), (0, .ref (ad 0)), (1, .int (iI x))]) hx hb dX4_endSkipByTrying_46 hl (k := 0) rfl (by decide) rfl (fun ls hl => ?_)
          refine lv_goto (tgt := 24) hx hb dX4_endSkipByTrying_49 (by decide) ?_
          exact ih3 (i + 1) (by omega) (fun k a b => by
            by_cases e : (k : Int) = i
            · rw [show k = i.toNat by omega]; assumption
            · exact hmin k a (by omega)) (by omega) _ _ _ hP hD hS (lv_sub hl [0, 1, 2, 3] rfl)
  exact hloop3 (Int.toNat (z 1 - 1) + 1) 1 (by omega) (fun k a b => by omega) (by omega) _ _ _ hP hD hS (lv_sub hl [0, 1, 2, 3] rfl)
set_option maxHeartbeats 4000000 in
set_option maxRecDepth 100000 in
theorem c_X4_wordStandsAt (l : Launch) (D : va_G) (cy : Nat → ClassId) (ad : Nat → Nat) (z : Nat → Int) (f : Nat → Nat → Int32) (M : MS) (x : Int) (hR : RS z f M) (hM : MOk M) (hxr : 0 ≤ x ∧ x + (M.2.1.length : Int) ≤ (M.1.length : Int)) : Ci l D cy yX4_wordStandsAt wsX4_wordStandsAt 2 42 [.ref (ad 0), .int (iI x)] (List.flatten [wTop ad, wSt cy ad 1 z f]) (fun (r : Int32) (u : Unit) => ((mD M x = -1) ∧ r = iI 1) ∨ (¬ (mD M x = -1) ∧ r = iI 0)) (fun u : Unit => (List.flatten [wTop ad, wSt cy ad 1 z f])) := by
  refine Ci_of (cc := cX4_wordStandsAt) (maxL := 3) (ret := (some .boolean)) (by decide) rfl rfl ?_
  intro p e s m args below meth c A hx hb hr hts hown hlocks hml hP hK hD hT hA ls hl
  have hS : va_S A s.heap s.heap [] := va_S.rf
  have hl : lv_has ls 3 [(0, .ref (ad 0)), (1, .int (iI x))] := hl
  have hP : va_P D vwCl (List.flatten [wTop ad, wSt cy ad 1 z f]) s.heap := hP
  have hD : va_D A (List.flatten [wTop ad, wSt cy ad 1 z f]) := hD
  have hiX3 : ∀ w ∈ wsX30, w ∈ wsX4_wordStandsAt := by decide +kernel
  have hiX4 : ∀ w ∈ wsX40, w ∈ wsX4_wordStandsAt := by decide +kernel
  obtain ⟨r0, r1, r2, r3, r4, r5, r6, r7⟩ := id hR
  obtain ⟨o1, o2, o3, o4, o5, o6, o7, o8, o9, o10, o11, o12, o13, o14, o15⟩ := id hM
  have q0 := r0.1
  have q1 := r1.1
  have q2 := r2.1
  refine lv_iconst (v := iI 0) hx hb dX4_wordStandsAt_0 rfl ?_
  refine lv_istore_n (lv' := [(2, .int (iI 0)), (0, .ref (ad 0)), (1, .int (iI x))]) hx hb dX4_wordStandsAt_1 rfl hl (by decide) rfl (fun ls hl => ?_)
  have hloop1 : ∀ (n1 : Nat) (i : Int) (hi : 0 ≤ i ∧ i ≤ z 1) (hs : ∀ j : Nat, (j : Int) < i → f 1 j = f 0 (x + (j : Int)).toNat) (hm : z 1 - i < (n1 : Int)) (H : Heap) (locs : List Loc) (ls : Array Slot) (hP : va_P D vwCl (List.flatten [wTop ad, wSt cy ad 1 z f]) H) (hD : va_D A (List.flatten [wTop ad, wSt cy ad 1 z f])) (hS : va_S A s.heap H locs) (hl : lv_has ls 3 [(2, .int (iI i)), (0, .ref (ad 0)), (1, .int (iI x))]), W p l e ({ frames := 2, cells := 0, slots := 0, locals := 42 } : Room) s m args below meth c H locs 0 0 (MQ below (va_Qi (fun (r : Int32) (u : Unit) => ((mD M x = -1) ∧ r = iI 1) ∨ (¬ (mD M x = -1) ∧ r = iI 0)) (fun u t => va_P D vwCl ((fun u : Unit => (List.flatten [wTop ad, wSt cy ad 1 z f])) u) t.heap) A) args s 0 0 A) (F0 m 2 ls []) := by
    intro n1
    induction n1 with
    | zero =>
      intro i hi hs hm; exact absurd hm (by omega)
    | succ n1 ih1 =>
      intro i hi hs hm H locs ls hP hD hS hl
      refine lv_iload_n hx hb dX4_wordStandsAt_2 rfl (lv_at hl 0 rfl) ?_
      refine lv_aload_n hx hb dX4_wordStandsAt_3 rfl (lv_at hl 1 rfl) ?_
      refine va_get (D := D) (ci := 4) (v := .ref (ad 1)) (C := RX4) (T := TX4) (N := 7) hx hb hts hiX4 hown hK hP 0 rfl rfl 0 (by decide) (hts (.fieldLink RX4 10 "BackwardSearch" "state" "LBackwardSearch$State;") (by decide +kernel)) (fun _ h9 => h9) rfl dX4_wordStandsAt_4 ?_
      refine va_getN (D := D) (ci := 3) (v := .ref (ad 4)) (C := RX3) (T := TX3) (N := 8) (host := RX4) hx hb hts hiX3 hown hK hP 1 rfl rfl 1 (by decide) (va_Nw.use rfl (hT.1 _ (List.mem_of_getElem? (i := 1) rfl))) (fun _ h9 => h9) rfl dX4_wordStandsAt_7 ?_
      refine z_gVi (n := 0) (b := ad 4) (As := []) (rest := [.int (iI i)]) ⟨hx, hb, hml, hown, hts⟩ (c_X2_size l D cy (ad 4) (ad 5) (z 1) ) gX4_wordStandsAt_X2_size rfl (by decide +kernel) ⟨Nat.le_of_ble_eq_true rfl, Nat.le_of_ble_eq_true rfl⟩ hK hT hP hS (Fp.same hP hD hS hA [4] rfl rfl (fun _ => rfl)) 4 2 rfl rfl rfl rfl hl.1 rfl (Nat.le_of_ble_eq_true rfl) dX4_wordStandsAt_10 ⟨Nat.zero_le _, Nat.zero_le _⟩ (fun r_2 u_2 H locs hw_2 hP hD hS => ?_)
      have hw_2 : r_2 = iI (z 1) := hw_2
      have hP : va_P D vwCl (List.flatten [wTop ad, wSt cy ad 1 z f]) H := hP
      have hD : va_D A (List.flatten [wTop ad, wSt cy ad 1 z f]) := hD
      obtain rfl := hw_2
      refine z_icmp_ge (tgt := 51) hx hb (iI_t (by omega) (by omega)) (iI_t (by omega) (by omega)) dX4_wordStandsAt_13 (by decide) (fun c3 => ?_) (fun c3 => ?_)
      · --
        refine lv_iconst (v := iI 1) hx hb dX4_wordStandsAt_51 rfl ?_
        exact z_zret hx hb hr hlocks (by decide +kernel) hS () (show ((mD M x = -1) ∧ (iI 1) = iI 1) ∨ (¬ (mD M x = -1) ∧ (iI 1) = iI 0) from (Or.inl ⟨(md_gl r0 r1 (by omega)).symm.trans (stand_iff.mpr (fun j hj => hs j (by omega))), rfl⟩)) hP dX4_wordStandsAt_52
      · --
        refine lv_aload_n hx hb dX4_wordStandsAt_16 rfl (lv_at hl 1 rfl) ?_
        refine va_get (D := D) (ci := 4) (v := .ref (ad 1)) (C := RX4) (T := TX4) (N := 7) hx hb hts hiX4 hown hK hP 0 rfl rfl 0 (by decide) (hts (.fieldLink RX4 10 "BackwardSearch" "state" "LBackwardSearch$State;") (by decide +kernel)) (fun _ h9 => h9) rfl dX4_wordStandsAt_17 ?_
        refine va_getN (D := D) (ci := 3) (v := .ref (ad 2)) (C := RX3) (T := TX3) (N := 8) (host := RX4) hx hb hts hiX3 hown hK hP 1 rfl rfl 0 (by decide) (va_Nw.use rfl (hT.1 _ (List.mem_of_getElem? (i := 0) rfl))) (fun _ h9 => h9) rfl dX4_wordStandsAt_20 ?_
        refine lv_iload_n hx hb dX4_wordStandsAt_23 rfl (lv_at hl 2 rfl) ?_
        refine lv_iload_n hx hb dX4_wordStandsAt_24 rfl (lv_at hl 0 rfl) ?_
        refine z_add hx hb dX4_wordStandsAt_25 ?_
        refine z_gVi (n := 1) (b := ad 2) (As := [.int (iI (x + i))]) (rest := []) ⟨hx, hb, hml, hown, hts⟩ (c_X2_at l D cy (ad 2) (ad 3) 60 (z 0) (f 0) (x + i) (by first | assumption | omega) (by first | assumption | omega)) gX4_wordStandsAt_X2_at rfl (by decide +kernel) ⟨Nat.le_of_ble_eq_true rfl, Nat.le_of_ble_eq_true rfl⟩ hK hT hP hS (Fp.same hP hD hS hA [2, 3] rfl rfl (fun _ => rfl)) 2 2 rfl rfl rfl rfl hl.1 rfl (Nat.le_of_ble_eq_true rfl) dX4_wordStandsAt_26 ⟨Nat.zero_le _, Nat.zero_le _⟩ (fun r_4 u_4 H locs hw_4 hP hD hS => ?_)
        have hw_4 : (0 ≤ (x + i) ∧ (x + i) < (z 0) ∧ r_4 = (f 0) (x + i).toNat) ∨ (¬ (0 ≤ (x + i) ∧ (x + i) < (z 0)) ∧ r_4 = iI (-1)) := hw_4
        have hP : va_P D vwCl (List.flatten [wTop ad, wSt cy ad 1 z f]) H := hP
        have hD : va_D A (List.flatten [wTop ad, wSt cy ad 1 z f]) := hD
        rcases hw_4 with ⟨h_4, g_4, rfl⟩ | ⟨h_4, rfl⟩
        · --
          refine lv_aload_n hx hb dX4_wordStandsAt_29 rfl (lv_at hl 1 rfl) ?_
          refine va_get (D := D) (ci := 4) (v := .ref (ad 1)) (C := RX4) (T := TX4) (N := 7) hx hb hts hiX4 hown hK hP 0 rfl rfl 0 (by decide) (hts (.fieldLink RX4 10 "BackwardSearch" "state" "LBackwardSearch$State;") (by decide +kernel)) (fun _ h9 => h9) rfl dX4_wordStandsAt_30 ?_
          refine va_getN (D := D) (ci := 3) (v := .ref (ad 4)) (C := RX3) (T := TX3) (N := 8) (host := RX4) hx hb hts hiX3 hown hK hP 1 rfl rfl 1 (by decide) (va_Nw.use rfl (hT.1 _ (List.mem_of_getElem? (i := 1) rfl))) (fun _ h9 => h9) rfl dX4_wordStandsAt_33 ?_
          refine lv_iload_n hx hb dX4_wordStandsAt_36 rfl (lv_at hl 0 rfl) ?_
          refine z_gVi (n := 1) (b := ad 4) (As := [.int (iI i)]) (rest := [.int ((f 0) (x + i).toNat)]) ⟨hx, hb, hml, hown, hts⟩ (c_X2_at l D cy (ad 4) (ad 5) 16 (z 1) (f 1) i (by first | assumption | omega) (by first | assumption | omega)) gX4_wordStandsAt_X2_at rfl (by decide +kernel) ⟨Nat.le_of_ble_eq_true rfl, Nat.le_of_ble_eq_true rfl⟩ hK hT hP hS (Fp.same hP hD hS hA [4, 5] rfl rfl (fun _ => rfl)) 4 2 rfl rfl rfl rfl hl.1 rfl (Nat.le_of_ble_eq_true rfl) dX4_wordStandsAt_37 ⟨Nat.zero_le _, Nat.zero_le _⟩ (fun r_5 u_5 H locs hw_5 hP hD hS => ?_)
          have hw_5 : (0 ≤ i ∧ i < (z 1) ∧ r_5 = (f 1) i.toNat) ∨ (¬ (0 ≤ i ∧ i < (z 1)) ∧ r_5 = iI (-1)) := hw_5
          have hP : va_P D vwCl (List.flatten [wTop ad, wSt cy ad 1 z f]) H := hP
          have hD : va_D A (List.flatten [wTop ad, wSt cy ad 1 z f]) := hD
          rcases hw_5 with ⟨h_5, g_5, rfl⟩ | ⟨h_5, rfl⟩
          · --
            refine lv_icmp_eq (tgt := 45) hx hb dX4_wordStandsAt_40 (by decide) (fun c6 => ?_) (fun c6 => ?_)
            · --
              refine z_iinc (lv' := [(2, .int (iI (i + 1))), (0, .ref (ad 0)), (1, .int (iI x))]) hx hb dX4_wordStandsAt_45 hl (k := 0) rfl (by decide) rfl (fun ls hl => ?_)
              refine lv_goto (tgt := 2) hx hb dX4_wordStandsAt_48 (by decide) ?_
              exact ih1 (i + 1) (by omega) (stand_step hi.1 hs (by assumption)) (by omega) _ _ _ hP hD hS (lv_sub hl [0, 1, 2] rfl)
            · --
              refine lv_iconst (v := iI 0) hx hb dX4_wordStandsAt_43 rfl ?_
              exact z_zret hx hb hr hlocks (by decide +kernel) hS () (show ((mD M x = -1) ∧ (iI 0) = iI 1) ∨ (¬ (mD M x = -1) ∧ (iI 0) = iI 0) from (Or.inr ⟨fun h => absurd (stand_iff.mp ((md_gl r0 r1 (by omega)).trans h) i.toNat (by omega)) (by rw [show ((i.toNat : Nat) : Int) = i by omega]; exact fun h2 => absurd h2.symm (by assumption)), rfl⟩)) hP dX4_wordStandsAt_44
          · --
            exfalso; omega
        · --
          exfalso; omega
  exact hloop1 (Int.toNat (z 1 - 0) + 1) 0 (by omega) (fun j a => by omega) (by omega) _ _ _ hP hD hS (lv_sub hl [0, 1, 2] rfl)
set_option maxHeartbeats 4000000 in
set_option maxRecDepth 100000 in
theorem c_X4_occurrencesByTrying (l : Launch) (D : va_G) (cy : Nat → ClassId) (ad : Nat → Nat) (z : Nat → Int) (f : Nat → Nat → Int32) (M : MS) (hR : RS z f M) (hM : MOk M) : Ci l D cy yX4_occurrencesByTrying wsX4_occurrencesByTrying 3 64 [.ref (ad 0)] (List.flatten [wTop ad, wSt cy ad 1 z f]) (fun (r : Int32) (u : Unit) => r = iI (occF M)) (fun u : Unit => (List.flatten [wTop ad, wSt cy ad 1 z f])) := by
  refine Ci_of (cc := cX4_occurrencesByTrying) (maxL := 3) (ret := (some .int)) (by decide) rfl rfl ?_
  intro p e s m args below meth c A hx hb hr hts hown hlocks hml hP hK hD hT hA ls hl
  have hS : va_S A s.heap s.heap [] := va_S.rf
  have hl : lv_has ls 3 [(0, .ref (ad 0))] := hl
  have hP : va_P D vwCl (List.flatten [wTop ad, wSt cy ad 1 z f]) s.heap := hP
  have hD : va_D A (List.flatten [wTop ad, wSt cy ad 1 z f]) := hD
  have hiX3 : ∀ w ∈ wsX30, w ∈ wsX4_occurrencesByTrying := by decide +kernel
  have hiX4 : ∀ w ∈ wsX40, w ∈ wsX4_occurrencesByTrying := by decide +kernel
  obtain ⟨r0, r1, r2, r3, r4, r5, r6, r7⟩ := id hR
  obtain ⟨o1, o2, o3, o4, o5, o6, o7, o8, o9, o10, o11, o12, o13, o14, o15⟩ := id hM
  have q0 := r0.1
  have q1 := r1.1
  have q2 := r2.1
  refine lv_aload_n hx hb dX4_occurrencesByTrying_0 rfl (lv_at hl 0 rfl) ?_
  refine va_get (D := D) (ci := 4) (v := .ref (ad 1)) (C := RX4) (T := TX4) (N := 7) hx hb hts hiX4 hown hK hP 0 rfl rfl 0 (by decide) (hts (.fieldLink RX4 10 "BackwardSearch" "state" "LBackwardSearch$State;") (by decide +kernel)) (fun _ h9 => h9) rfl dX4_occurrencesByTrying_1 ?_
  refine va_getN (D := D) (ci := 3) (v := .ref (ad 4)) (C := RX3) (T := TX3) (N := 8) (host := RX4) hx hb hts hiX3 hown hK hP 1 rfl rfl 1 (by decide) (va_Nw.use rfl (hT.1 _ (List.mem_of_getElem? (i := 1) rfl))) (fun _ h9 => h9) rfl dX4_occurrencesByTrying_4 ?_
  refine z_gVi (n := 0) (b := ad 4) (As := []) (rest := []) ⟨hx, hb, hml, hown, hts⟩ (c_X2_isEmpty l D cy (ad 4) (ad 5) (z 1) (by first | assumption | omega)) gX4_occurrencesByTrying_X2_isEmpty rfl (by decide +kernel) ⟨Nat.le_of_ble_eq_true rfl, Nat.le_of_ble_eq_true rfl⟩ hK hT hP hS (Fp.same hP hD hS hA [4] rfl rfl (fun _ => rfl)) 4 2 rfl rfl rfl rfl hl.1 rfl (Nat.le_of_ble_eq_true rfl) dX4_occurrencesByTrying_7 ⟨Nat.zero_le _, Nat.zero_le _⟩ (fun r_1 u_1 H locs hw_1 hP hD hS => ?_)
  have hw_1 : ((z 1) = 0 ∧ r_1 = iI 1) ∨ (¬ (z 1) = 0 ∧ r_1 = iI 0) := hw_1
  have hP : va_P D vwCl (List.flatten [wTop ad, wSt cy ad 1 z f]) H := hP
  have hD : va_D A (List.flatten [wTop ad, wSt cy ad 1 z f]) := hD
  rcases hw_1 with ⟨h_1, rfl⟩ | ⟨h_1, rfl⟩
  · --
    refine z_if_eq (tgt := 15) hx hb (iI_t (by omega) (by omega)) dX4_occurrencesByTrying_10 (by decide) (fun c2 => absurd c2 (by omega)) (fun _ => ?_)
    refine lv_iconst (v := iI 0) hx hb dX4_occurrencesByTrying_13 rfl ?_
    exact z_iret hx hb hr hlocks hS () (show (iI 0) = iI (occF M) from (congrArg iI (by simp only [occF]; rw [if_pos (by omega)]))) hP dX4_occurrencesByTrying_14
  · --
    refine z_if_eq (tgt := 15) hx hb (iI_t (by omega) (by omega)) dX4_occurrencesByTrying_10 (by decide) (fun _ => ?_) (fun c3 => absurd c3 (by omega))
    refine lv_iconst (v := iI 0) hx hb dX4_occurrencesByTrying_15 rfl ?_
    refine lv_istore_n (lv' := [(1, .int (iI 0)), (0, .ref (ad 0))]) hx hb dX4_occurrencesByTrying_16 rfl hl (by decide) rfl (fun ls hl => ?_)
    refine lv_iconst (v := iI 0) hx hb dX4_occurrencesByTrying_17 rfl ?_
    refine lv_istore_n (lv' := [(2, .int (iI 0)), (1, .int (iI 0)), (0, .ref (ad 0))]) hx hb dX4_occurrencesByTrying_18 rfl hl (by decide) rfl (fun ls hl => ?_)
    have hloop4 : ∀ (n4 : Nat) (k : Int) (n9 : Int) (hk : 0 ≤ k ∧ k ≤ max ((M.1.length : Int) - (M.2.1.length : Int) + 1) 0 ∧ ((M.2.1.length : Int) = 0 → k = 0)) (hn : n9 = cntF M.2.1.length (gl M.2.1) (gl M.1) k.toNat) (hm : max ((M.1.length : Int) - (M.2.1.length : Int) + 1) 0 - k < (n4 : Int)) (H : Heap) (locs : List Loc) (ls : Array Slot) (hP : va_P D vwCl (List.flatten [wTop ad, wSt cy ad 1 z f]) H) (hD : va_D A (List.flatten [wTop ad, wSt cy ad 1 z f])) (hS : va_S A s.heap H locs) (hl : lv_has ls 3 [(2, .int (iI k)), (1, .int (iI n9)), (0, .ref (ad 0))]), W p l e ({ frames := 3, cells := 0, slots := 0, locals := 64 } : Room) s m args below meth c H locs 0 0 (MQ below (va_Qi (fun (r : Int32) (u : Unit) => r = iI (occF M)) (fun u t => va_P D vwCl ((fun u : Unit => (List.flatten [wTop ad, wSt cy ad 1 z f])) u) t.heap) A) args s 0 0 A) (F0 m 19 ls []) := by
      intro n4
      induction n4 with
      | zero =>
        intro k n9 hk hn hm; exact absurd hm (by omega)
      | succ n4 ih4 =>
        intro k n9 hk hn hm H locs ls hP hD hS hl
        refine lv_iload_n hx hb dX4_occurrencesByTrying_19 rfl (lv_at hl 0 rfl) ?_
        refine lv_aload_n hx hb dX4_occurrencesByTrying_20 rfl (lv_at hl 2 rfl) ?_
        refine va_get (D := D) (ci := 4) (v := .ref (ad 1)) (C := RX4) (T := TX4) (N := 7) hx hb hts hiX4 hown hK hP 0 rfl rfl 0 (by decide) (hts (.fieldLink RX4 10 "BackwardSearch" "state" "LBackwardSearch$State;") (by decide +kernel)) (fun _ h9 => h9) rfl dX4_occurrencesByTrying_21 ?_
        refine z_gVi (n := 0) (b := ad 1) (As := []) (rest := [.int (iI k)]) ⟨hx, hb, hml, hown, hts⟩ (c_X3_beginnings l D cy (ad 1) (ad 2) (ad 3) (ad 4) (ad 5) (ad 6) (z 0) (z 1) (z 3) (z 4) (z 5) (z 6) (z 7) (by first | assumption | omega)) gX4_occurrencesByTrying_X3_beginnings rfl (by decide +kernel) ⟨Nat.le_of_ble_eq_true rfl, Nat.le_of_ble_eq_true rfl⟩ hK hT hP hS (Fp.same hP hD hS hA [1, 2, 4] rfl rfl (fun _ => rfl)) 1 3 rfl rfl rfl rfl hl.1 rfl (Nat.le_of_ble_eq_true rfl) dX4_occurrencesByTrying_24 ⟨Nat.zero_le _, Nat.zero_le _⟩ (fun r_5 u_5 H locs hw_5 hP hD hS => ?_)
        have hw_5 : r_5 = iI (max ((z 0) - (z 1) + 1) 0) := hw_5
        have hP : va_P D vwCl (List.flatten [wTop ad, wSt cy ad 1 z f]) H := hP
        have hD : va_D A (List.flatten [wTop ad, wSt cy ad 1 z f]) := hD
        obtain rfl := hw_5
        refine z_icmp_ge (tgt := 47) hx hb (iI_t (by omega) (by omega)) (iI_t (by omega) (by omega)) dX4_occurrencesByTrying_27 (by decide) (fun c6 => ?_) (fun c6 => ?_)
        · --
          refine lv_iload_n hx hb dX4_occurrencesByTrying_47 rfl (lv_at hl 1 rfl) ?_
          exact z_iret hx hb hr hlocks hS () (show (iI n9) = iI (occF M) from (congrArg iI (occ_at hk hn (by omega)))) hP dX4_occurrencesByTrying_48
        · --
          refine lv_aload_n hx hb dX4_occurrencesByTrying_30 rfl (lv_at hl 2 rfl) ?_
          refine lv_iload_n hx hb dX4_occurrencesByTrying_31 rfl (lv_at hl 0 rfl) ?_
          refine z_gVi (n := 1) (b := ad 0) (As := [.int (iI k)]) (rest := []) ⟨hx, hb, hml, hown, hts⟩ (c_X4_wordStandsAt l D cy ad z f M k (by first | assumption | omega) (by first | assumption | omega) (by first | assumption | omega)) gX4_occurrencesByTrying_X4_wordStandsAt rfl (by decide +kernel) ⟨Nat.le_of_ble_eq_true rfl, Nat.le_of_ble_eq_true rfl⟩ hK hT hP hS (Fp.same hP hD hS hA [0, 1, 2, 3, 4, 5, 6, 7] rfl rfl (fun _ => rfl)) 0 4 rfl rfl rfl rfl hl.1 rfl (Nat.le_of_ble_eq_true rfl) dX4_occurrencesByTrying_32 ⟨Nat.zero_le _, Nat.zero_le _⟩ (fun r_7 u_7 H locs hw_7 hP hD hS => ?_)
          have hw_7 : ((mD M k = -1) ∧ r_7 = iI 1) ∨ (¬ (mD M k = -1) ∧ r_7 = iI 0) := hw_7
          have hP : va_P D vwCl (List.flatten [wTop ad, wSt cy ad 1 z f]) H := hP
          have hD : va_D A (List.flatten [wTop ad, wSt cy ad 1 z f]) := hD
          rcases hw_7 with ⟨h_7, rfl⟩ | ⟨h_7, rfl⟩
          · --
            refine z_if_eq (tgt := 41) hx hb (iI_t (by omega) (by omega)) dX4_occurrencesByTrying_35 (by decide) (fun c8 => absurd c8 (by omega)) (fun _ => ?_)
            refine z_iinc (lv' := [(1, .int (iI (n9 + 1))), (2, .int (iI k)), (0, .ref (ad 0))]) hx hb dX4_occurrencesByTrying_38 hl (k := 1) rfl (by decide) rfl (fun ls hl => ?_)
            refine z_iinc (lv' := [(2, .int (iI (k + 1))), (1, .int (iI (n9 + 1))), (0, .ref (ad 0))]) hx hb dX4_occurrencesByTrying_41 hl (k := 1) rfl (by decide) rfl (fun ls hl => ?_)
            refine lv_goto (tgt := 19) hx hb dX4_occurrencesByTrying_44 (by decide) ?_
            exact ih4 (k + 1) (n9 + 1) (by omega) (by have hcs := cnt_step hk.1 hn; first | (rw [if_pos (by assumption)] at hcs; exact hcs) | (rw [if_neg (by assumption)] at hcs; omega)) (by omega) _ _ _ hP hD hS (lv_sub hl [0, 1, 2] rfl)
          · --
            refine z_if_eq (tgt := 41) hx hb (iI_t (by omega) (by omega)) dX4_occurrencesByTrying_35 (by decide) (fun _ => ?_) (fun c9 => absurd c9 (by omega))
            refine z_iinc (lv' := [(2, .int (iI (k + 1))), (1, .int (iI n9)), (0, .ref (ad 0))]) hx hb dX4_occurrencesByTrying_41 hl (k := 0) rfl (by decide) rfl (fun ls hl => ?_)
            refine lv_goto (tgt := 19) hx hb dX4_occurrencesByTrying_44 (by decide) ?_
            exact ih4 (k + 1) n9 (by omega) (by have hcs := cnt_step hk.1 hn; first | (rw [if_pos (by assumption)] at hcs; exact hcs) | (rw [if_neg (by assumption)] at hcs; omega)) (by omega) _ _ _ hP hD hS (lv_sub hl [0, 1, 2] rfl)
    exact hloop4 (Int.toNat (max ((M.1.length : Int) - (M.2.1.length : Int) + 1) 0 - 0) + 1) 0 0 (by omega) (rfl) (by omega) _ _ _ hP hD hS (lv_sub hl [0, 1, 2] rfl)
set_option maxHeartbeats 4000000 in
set_option maxRecDepth 100000 in
theorem c_X4_differenceAt (l : Launch) (hfl : l.stackTraces = false) (D : va_G) (cy : Nat → ClassId) (ad : Nat → Nat) (z : Nat → Int) (f : Nat → Nat → Int32) (M : MS) (x : Int) (hR : RS z f M) (hM : MOk M) (hx1 : -2147483648 ≤ x ∧ x < 2147483648) : Xi l D cy yX4_differenceAt wsX4_differenceAt 6 92 1 [.ref (ad 0), .int (iI x)] (List.flatten [wTop ad, wSt cy ad 1 z f]) (fun (r : Int32) (u : Unit) => (0 ≤ x ∧ x + (M.2.1.length : Int) ≤ (M.1.length : Int)) ∧ ¬ (M.2.1.length : Int) = 0 ∧ r = iI (mD M x)) (fun u : Unit => (List.flatten [wTop ad, wSt cy ad 1 z f])) (fun E => (E = xIOB ∧ (x < 0 ∨ (M.1.length : Int) < x + (M.2.1.length : Int))) ∨ (E = xISE ∧ ¬ (x < 0 ∨ (M.1.length : Int) < x + (M.2.1.length : Int)) ∧ (M.2.1.length : Int) = 0)) := by
  refine Xi_of (cc := cX4_differenceAt) (maxL := 2) (ret := (some .int)) (by decide) rfl rfl ?_
  intro p e s m args below meth c A hx hb hr hts hown hlocks hml htab hP hK hD hT hC hZ hA ls hl
  have hS : va_S A s.heap s.heap [] := va_S.rf
  have hl : lv_has ls 2 [(0, .ref (ad 0)), (1, .int (iI x))] := hl
  have hP : va_P D vwCl (List.flatten [wTop ad, wSt cy ad 1 z f]) s.heap := hP
  have hD : va_D A (List.flatten [wTop ad, wSt cy ad 1 z f]) := hD
  have hiX3 : ∀ w ∈ wsX30, w ∈ wsX4_differenceAt := by decide +kernel
  have hiX4 : ∀ w ∈ wsX40, w ∈ wsX4_differenceAt := by decide +kernel
  obtain ⟨r0, r1, r2, r3, r4, r5, r6, r7⟩ := id hR
  obtain ⟨o1, o2, o3, o4, o5, o6, o7, o8, o9, o10, o11, o12, o13, o14, o15⟩ := id hM
  have q0 := r0.1
  have q1 := r1.1
  have q2 := r2.1
  refine lv_iload_n hx hb dX4_differenceAt_0 rfl (lv_at hl 1 rfl) ?_
  refine z_if_lt (tgt := 15) hx hb (iI_t (by omega) (by omega)) dX4_differenceAt_1 (by decide) (fun c1 => ?_) (fun c1 => ?_)
  · --
    exact x_throw (cls := xIOB) (text := "the word does not fit there") (ik := 165) (is := 167) (ic := 169) (Ts := wsX4_differenceAt) hx hb hfl hown (by decide +kernel) (by decide +kernel) hts (by decide +kernel) (by decide +kernel) (by decide +kernel) x_ng2 x_gw2 hT hC (by decide +kernel) hZ hS (hl.1.trans hml.symm) dX4_differenceAt_15 dX4_differenceAt_18 dX4_differenceAt_19 dX4_differenceAt_21 dX4_differenceAt_24 htab (by decide) (by decide) (by decide) (by decide) hlocks hP (Or.inl ⟨rfl, by omega⟩) (by decide) (by decide)
  · --
    refine lv_iload_n hx hb dX4_differenceAt_4 rfl (lv_at hl 1 rfl) ?_
    refine lv_aload_n hx hb dX4_differenceAt_5 rfl (lv_at hl 0 rfl) ?_
    refine va_get (D := D) (ci := 4) (v := .ref (ad 1)) (C := RX4) (T := TX4) (N := 7) hx hb hts hiX4 hown hK hP 0 rfl rfl 0 (by decide) (hts (.fieldLink RX4 10 "BackwardSearch" "state" "LBackwardSearch$State;") (by decide +kernel)) (fun _ h9 => h9) rfl dX4_differenceAt_6 ?_
    refine z_gVi (n := 0) (b := ad 1) (As := []) (rest := [.int (iI x)]) ⟨hx, hb, hml, hown, hts⟩ (c_X3_beginnings l D cy (ad 1) (ad 2) (ad 3) (ad 4) (ad 5) (ad 6) (z 0) (z 1) (z 3) (z 4) (z 5) (z 6) (z 7) (by first | assumption | omega)) gX4_differenceAt_X3_beginnings rfl (by decide +kernel) ⟨Nat.le_of_ble_eq_true rfl, Nat.le_of_ble_eq_true rfl⟩ hK hT hP hS (Fp.same hP hD hS hA [1, 2, 4] rfl rfl (fun _ => rfl)) 1 3 rfl rfl rfl rfl hl.1 rfl (Nat.le_of_ble_eq_true rfl) dX4_differenceAt_9 ⟨Nat.zero_le _, Nat.zero_le _⟩ (fun r_2 u_2 H locs hw_2 hP hD hS => ?_)
    have hw_2 : r_2 = iI (max ((z 0) - (z 1) + 1) 0) := hw_2
    have hP : va_P D vwCl (List.flatten [wTop ad, wSt cy ad 1 z f]) H := hP
    have hD : va_D A (List.flatten [wTop ad, wSt cy ad 1 z f]) := hD
    obtain rfl := hw_2
    refine z_icmp_lt (tgt := 25) hx hb (iI_t (by omega) (by omega)) (iI_t (by omega) (by omega)) dX4_differenceAt_12 (by decide) (fun c3 => ?_) (fun c3 => ?_)
    · --
      refine lv_aload_n hx hb dX4_differenceAt_25 rfl (lv_at hl 0 rfl) ?_
      refine va_get (D := D) (ci := 4) (v := .ref (ad 1)) (C := RX4) (T := TX4) (N := 7) hx hb hts hiX4 hown hK hP 0 rfl rfl 0 (by decide) (hts (.fieldLink RX4 10 "BackwardSearch" "state" "LBackwardSearch$State;") (by decide +kernel)) (fun _ h9 => h9) rfl dX4_differenceAt_26 ?_
      refine va_getN (D := D) (ci := 3) (v := .ref (ad 4)) (C := RX3) (T := TX3) (N := 8) (host := RX4) hx hb hts hiX3 hown hK hP 1 rfl rfl 1 (by decide) (va_Nw.use rfl (hT.1 _ (List.mem_of_getElem? (i := 1) rfl))) (fun _ h9 => h9) rfl dX4_differenceAt_29 ?_
      refine z_gVi (n := 0) (b := ad 4) (As := []) (rest := []) ⟨hx, hb, hml, hown, hts⟩ (c_X2_isEmpty l D cy (ad 4) (ad 5) (z 1) (by first | assumption | omega)) gX4_differenceAt_X2_isEmpty rfl (by decide +kernel) ⟨Nat.le_of_ble_eq_true rfl, Nat.le_of_ble_eq_true rfl⟩ hK hT hP hS (Fp.same hP hD hS hA [4] rfl rfl (fun _ => rfl)) 4 2 rfl rfl rfl rfl hl.1 rfl (Nat.le_of_ble_eq_true rfl) dX4_differenceAt_32 ⟨Nat.zero_le _, Nat.zero_le _⟩ (fun r_4 u_4 H locs hw_4 hP hD hS => ?_)
      have hw_4 : ((z 1) = 0 ∧ r_4 = iI 1) ∨ (¬ (z 1) = 0 ∧ r_4 = iI 0) := hw_4
      have hP : va_P D vwCl (List.flatten [wTop ad, wSt cy ad 1 z f]) H := hP
      have hD : va_D A (List.flatten [wTop ad, wSt cy ad 1 z f]) := hD
      rcases hw_4 with ⟨h_4, rfl⟩ | ⟨h_4, rfl⟩
      · --
        refine z_if_eq (tgt := 48) hx hb (iI_t (by omega) (by omega)) dX4_differenceAt_35 (by decide) (fun c5 => absurd c5 (by omega)) (fun _ => ?_)
        exact x_throw (cls := xISE) (text := "the word is empty") (ik := 85) (is := 170) (ic := 89) (Ts := wsX4_differenceAt) hx hb hfl hown (by decide +kernel) (by decide +kernel) hts (by decide +kernel) (by decide +kernel) (by decide +kernel) x_ng1 x_gw1 hT hC (by decide +kernel) hZ hS (hl.1.trans hml.symm) dX4_differenceAt_38 dX4_differenceAt_41 dX4_differenceAt_42 dX4_differenceAt_44 dX4_differenceAt_47 htab (by decide) (by decide) (by decide) (by decide) hlocks hP (Or.inr ⟨rfl, by omega, by omega⟩) (by decide) (by decide)
      · --
        refine z_if_eq (tgt := 48) hx hb (iI_t (by omega) (by omega)) dX4_differenceAt_35 (by decide) (fun _ => ?_) (fun c6 => absurd c6 (by omega))
        refine lv_aload_n hx hb dX4_differenceAt_48 rfl (lv_at hl 0 rfl) ?_
        refine va_get (D := D) (ci := 4) (v := .ref (ad 1)) (C := RX4) (T := TX4) (N := 7) hx hb hts hiX4 hown hK hP 0 rfl rfl 0 (by decide) (hts (.fieldLink RX4 10 "BackwardSearch" "state" "LBackwardSearch$State;") (by decide +kernel)) (fun _ h9 => h9) rfl dX4_differenceAt_49 ?_
        refine lv_iload_n hx hb dX4_differenceAt_52 rfl (lv_at hl 1 rfl) ?_
        refine z_gVi (n := 1) (b := ad 1) (As := [.int (iI x)]) (rest := []) ⟨hx, hb, hml, hown, hts⟩ (c_X3_lastDifferenceAt l D cy (ad 1) (ad 2) (ad 3) (ad 4) (ad 5) (ad 6) (z 0) (f 0) (z 1) (f 1) (z 3) (z 4) (z 5) (z 6) (z 7) x (by first | assumption | omega) (by first | assumption | omega)) gX4_differenceAt_X3_lastDifferenceAt rfl (by decide +kernel) ⟨Nat.le_of_ble_eq_true rfl, Nat.le_of_ble_eq_true rfl⟩ hK hT hP hS (Fp.same hP hD hS hA [1, 2, 3, 4, 5] rfl rfl (fun _ => rfl)) 1 3 rfl rfl rfl rfl hl.1 rfl (Nat.le_of_ble_eq_true rfl) dX4_differenceAt_53 ⟨Nat.zero_le _, Nat.zero_le _⟩ (fun r_7 u_7 H locs hw_7 hP hD hS => ?_)
        have hw_7 : r_7 = iI (diffF (z 1).toNat (f 1) (f 0) x) := hw_7
        have hP : va_P D vwCl (List.flatten [wTop ad, wSt cy ad 1 z f]) H := hP
        have hD : va_D A (List.flatten [wTop ad, wSt cy ad 1 z f]) := hD
        obtain rfl := hw_7
        exact x_iret hx hb hr hlocks hS () (show (0 ≤ x ∧ x + (M.2.1.length : Int) ≤ (M.1.length : Int)) ∧ ¬ (M.2.1.length : Int) = 0 ∧ (iI (diffF (z 1).toNat (f 1) (f 0) x)) = iI (mD M x) from ⟨by omega, by omega, congrArg iI (md_gl r0 r1 (by omega))⟩) hP dX4_differenceAt_56 (by decide) (by decide)
    · --
      exact x_throw (cls := xIOB) (text := "the word does not fit there") (ik := 165) (is := 167) (ic := 169) (Ts := wsX4_differenceAt) hx hb hfl hown (by decide +kernel) (by decide +kernel) hts (by decide +kernel) (by decide +kernel) (by decide +kernel) x_ng2 x_gw2 hT hC (by decide +kernel) hZ hS (hl.1.trans hml.symm) dX4_differenceAt_15 dX4_differenceAt_18 dX4_differenceAt_19 dX4_differenceAt_21 dX4_differenceAt_24 htab (by decide) (by decide) (by decide) (by decide) hlocks hP (Or.inl ⟨rfl, by omega⟩) (by decide) (by decide)
theorem c_X0_studyB (l : Launch) (D : va_G) (cy : Nat → ClassId) (n0 : Nat) (b0 : Nat) (k0 : Nat) (en : Int) (B : Nat → Int) (Kf : Nat → Int) (si : Nat) (li : Nat) (mi : Nat) (wi : Nat) (vi : Nat) (gi : Nat) (ei : Nat) (nl : Int) (Fl : Nat → Int32) (nw : Int) (Fw : Nat → Int32) (nf : Int) (Ff : Nat → Int32) (lr : Int) (er : Int) (pl : Int) (lk : Int) (cp : Int) (hb : 0 ≤ nw ∧ nw ≤ 16) (hk : ∀ j : Nat, 0 ≤ Kf j ∧ Kf j ≤ 17) : Cv l D cy yX0_study wsX0_study 4 90 [.ref n0, .ref wi] [(n0, .inr (0, [.ref b0, .ref k0, .int (iI en)])), (b0, .inl (cy 0, 17, .inl (zI B))), (k0, .inl (cy 0, 17, .inl (zI Kf))), (si, .inr (3, [.ref li, .ref wi, .ref gi, .int (iI lr), .int (iI er), .int (iI pl), .int (iI lk), .int (iI cp)])), (li, .inr (2, [.ref mi, .int (iI nl)])), (mi, .inl (cy 0, 60, .inl Fl)), (wi, .inr (2, [.ref vi, .int (iI nw)])), (vi, .inl (cy 0, 16, .inl Fw)), (gi, .inr (2, [.ref ei, .int (iI nf)])), (ei, .inl (cy 0, 60, .inl Ff))] (fun (u : (Nat → Int) × (Nat → Int)) => u.1 = studyB nw.toNat Fw B Kf ∧ u.2 = studyK nw.toNat Fw B Kf) (fun u : (Nat → Int) × (Nat → Int) => [(n0, .inr (0, [.ref b0, .ref k0, .int (iI nw)])), (b0, .inl (cy 0, 17, .inl (zI u.1))), (k0, .inl (cy 0, 17, .inl (zI u.2))), (si, .inr (3, [.ref li, .ref wi, .ref gi, .int (iI lr), .int (iI er), .int (iI pl), .int (iI lk), .int (iI cp)])), (li, .inr (2, [.ref mi, .int (iI nl)])), (mi, .inl (cy 0, 60, .inl Fl)), (wi, .inr (2, [.ref vi, .int (iI nw)])), (vi, .inl (cy 0, 16, .inl Fw)), (gi, .inr (2, [.ref ei, .int (iI nf)])), (ei, .inl (cy 0, 60, .inl Ff))]) :=
  Cv.frame (c_X0_study l D cy n0 b0 k0 en B Kf wi vi nw Fw hb hk) [0, 1, 2, 6, 7] rfl rfl (fun _ => rfl) (fun u hu => ⟨u, hu, rfl⟩)

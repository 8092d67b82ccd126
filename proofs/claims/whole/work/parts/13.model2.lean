theorem dX5_lineLength_0 : decode cX5_lineLength 0 = .ok (.aload_n 0, 1) := by decide +kernel
theorem dX5_lineLength_1 : decode cX5_lineLength 1 = .ok (.aload_n 0, 1) := by decide +kernel
theorem dX5_lineLength_2 : decode cX5_lineLength 2 = .ok (.getfield 7, 3) := by decide +kernel
theorem dX5_lineLength_5 : decode cX5_lineLength 5 = .ok (.iconst 0, 1) := by decide +kernel
theorem dX5_lineLength_6 : decode cX5_lineLength 6 = .ok (.iaload, 1) := by decide +kernel
theorem dX5_lineLength_7 : decode cX5_lineLength 7 = .ok (.invokevirtual 95, 3) := by decide +kernel
theorem dX5_lineLength_10 : decode cX5_lineLength 10 = .ok (.ireturn, 1) := by decide +kernel
set_option maxRecDepth 20000 in
theorem ggX5_lineLength_X5_told : GoodIn wsX5_lineLength wsX5_told := goodIn_r _ [6, 7, 8, 9, 10, 11, 12, 13, 14, 15] (by decide +kernel) (by decide +kernel)
set_option maxRecDepth 20000 in
theorem gX5_lineLength_X5_told : GoodIn wsX5_lineLength (wsV RX5 95 RX5 yX5_told wsX5_told) := goodIn_app (goodIn_of _ (by decide +kernel)) ggX5_lineLength_X5_told
theorem dX5_wordLength_0 : decode cX5_wordLength 0 = .ok (.aload_n 0, 1) := by decide +kernel
theorem dX5_wordLength_1 : decode cX5_wordLength 1 = .ok (.aload_n 0, 1) := by decide +kernel
theorem dX5_wordLength_2 : decode cX5_wordLength 2 = .ok (.getfield 7, 3) := by decide +kernel
theorem dX5_wordLength_5 : decode cX5_wordLength 5 = .ok (.bipush 61, 2) := by decide +kernel
theorem dX5_wordLength_7 : decode cX5_wordLength 7 = .ok (.iaload, 1) := by decide +kernel
theorem dX5_wordLength_8 : decode cX5_wordLength 8 = .ok (.invokevirtual 95, 3) := by decide +kernel
theorem dX5_wordLength_11 : decode cX5_wordLength 11 = .ok (.ireturn, 1) := by decide +kernel
set_option maxRecDepth 20000 in
theorem ggX5_wordLength_X5_told : GoodIn wsX5_wordLength wsX5_told := goodIn_r _ [6, 7, 8, 9, 10, 11, 12, 13, 14, 15] (by decide +kernel) (by decide +kernel)
set_option maxRecDepth 20000 in
theorem gX5_wordLength_X5_told : GoodIn wsX5_wordLength (wsV RX5 95 RX5 yX5_told wsX5_told) := goodIn_app (goodIn_of _ (by decide +kernel)) ggX5_wordLength_X5_told
theorem dX5_place_0 : decode cX5_place 0 = .ok (.aload_n 0, 1) := by decide +kernel
theorem dX5_place_1 : decode cX5_place 1 = .ok (.aload_n 0, 1) := by decide +kernel
theorem dX5_place_2 : decode cX5_place 2 = .ok (.getfield 7, 3) := by decide +kernel
theorem dX5_place_5 : decode cX5_place 5 = .ok (.bipush 80, 2) := by decide +kernel
theorem dX5_place_7 : decode cX5_place 7 = .ok (.iaload, 1) := by decide +kernel
theorem dX5_place_8 : decode cX5_place 8 = .ok (.invokevirtual 95, 3) := by decide +kernel
theorem dX5_place_11 : decode cX5_place 11 = .ok (.ireturn, 1) := by decide +kernel
set_option maxRecDepth 20000 in
theorem ggX5_place_X5_told : GoodIn wsX5_place wsX5_told := goodIn_r _ [6, 7, 8, 9, 10, 11, 12, 13, 14, 15] (by decide +kernel) (by decide +kernel)
set_option maxRecDepth 20000 in
theorem gX5_place_X5_told : GoodIn wsX5_place (wsV RX5 95 RX5 yX5_told wsX5_told) := goodIn_app (goodIn_of _ (by decide +kernel)) ggX5_place_X5_told
theorem dX5_lookCount_0 : decode cX5_lookCount 0 = .ok (.aload_n 0, 1) := by decide +kernel
theorem dX5_lookCount_1 : decode cX5_lookCount 1 = .ok (.aload_n 0, 1) := by decide +kernel
theorem dX5_lookCount_2 : decode cX5_lookCount 2 = .ok (.getfield 7, 3) := by decide +kernel
theorem dX5_lookCount_5 : decode cX5_lookCount 5 = .ok (.bipush 81, 2) := by decide +kernel
theorem dX5_lookCount_7 : decode cX5_lookCount 7 = .ok (.iaload, 1) := by decide +kernel
theorem dX5_lookCount_8 : decode cX5_lookCount 8 = .ok (.invokevirtual 95, 3) := by decide +kernel
theorem dX5_lookCount_11 : decode cX5_lookCount 11 = .ok (.ireturn, 1) := by decide +kernel
set_option maxRecDepth 20000 in
theorem ggX5_lookCount_X5_told : GoodIn wsX5_lookCount wsX5_told := goodIn_r _ [6, 7, 8, 9, 10, 11, 12, 13, 14, 15] (by decide +kernel) (by decide +kernel)
set_option maxRecDepth 20000 in
theorem gX5_lookCount_X5_told : GoodIn wsX5_lookCount (wsV RX5 95 RX5 yX5_told wsX5_told) := goodIn_app (goodIn_of _ (by decide +kernel)) ggX5_lookCount_X5_told
theorem dX5_comparedCount_0 : decode cX5_comparedCount 0 = .ok (.aload_n 0, 1) := by decide +kernel
theorem dX5_comparedCount_1 : decode cX5_comparedCount 1 = .ok (.aload_n 0, 1) := by decide +kernel
theorem dX5_comparedCount_2 : decode cX5_comparedCount 2 = .ok (.getfield 7, 3) := by decide +kernel
theorem dX5_comparedCount_5 : decode cX5_comparedCount 5 = .ok (.bipush 82, 2) := by decide +kernel
theorem dX5_comparedCount_7 : decode cX5_comparedCount 7 = .ok (.iaload, 1) := by decide +kernel
theorem dX5_comparedCount_8 : decode cX5_comparedCount 8 = .ok (.invokevirtual 95, 3) := by decide +kernel
theorem dX5_comparedCount_11 : decode cX5_comparedCount 11 = .ok (.ireturn, 1) := by decide +kernel
set_option maxRecDepth 20000 in
theorem ggX5_comparedCount_X5_told : GoodIn wsX5_comparedCount wsX5_told := goodIn_r _ [6, 7, 8, 9, 10, 11, 12, 13, 14, 15] (by decide +kernel) (by decide +kernel)
set_option maxRecDepth 20000 in
theorem gX5_comparedCount_X5_told : GoodIn wsX5_comparedCount (wsV RX5 95 RX5 yX5_told wsX5_told) := goodIn_app (goodIn_of _ (by decide +kernel)) ggX5_comparedCount_X5_told
theorem dX5_foundCount_0 : decode cX5_foundCount 0 = .ok (.aload_n 0, 1) := by decide +kernel
theorem dX5_foundCount_1 : decode cX5_foundCount 1 = .ok (.aload_n 0, 1) := by decide +kernel
theorem dX5_foundCount_2 : decode cX5_foundCount 2 = .ok (.getfield 7, 3) := by decide +kernel
theorem dX5_foundCount_5 : decode cX5_foundCount 5 = .ok (.bipush 83, 2) := by decide +kernel
theorem dX5_foundCount_7 : decode cX5_foundCount 7 = .ok (.iaload, 1) := by decide +kernel
theorem dX5_foundCount_8 : decode cX5_foundCount 8 = .ok (.invokevirtual 95, 3) := by decide +kernel
theorem dX5_foundCount_11 : decode cX5_foundCount 11 = .ok (.ireturn, 1) := by decide +kernel
set_option maxRecDepth 20000 in
theorem ggX5_foundCount_X5_told : GoodIn wsX5_foundCount wsX5_told := goodIn_r _ [6, 7, 8, 9, 10, 11, 12, 13, 14, 15] (by decide +kernel) (by decide +kernel)
set_option maxRecDepth 20000 in
theorem gX5_foundCount_X5_told : GoodIn wsX5_foundCount (wsV RX5 95 RX5 yX5_told wsX5_told) := goodIn_app (goodIn_of _ (by decide +kernel)) ggX5_foundCount_X5_told
theorem dX5_lineLetter_0 : decode cX5_lineLetter 0 = .ok (.aload_n 0, 1) := by decide +kernel
theorem dX5_lineLetter_1 : decode cX5_lineLetter 1 = .ok (.iload_n 1, 1) := by decide +kernel
theorem dX5_lineLetter_2 : decode cX5_lineLetter 2 = .ok (.invokevirtual 89, 3) := by decide +kernel
theorem dX5_lineLetter_5 : decode cX5_lineLetter 5 = .ok (.ifCond .eq 18, 3) := by decide +kernel
theorem dX5_lineLetter_8 : decode cX5_lineLetter 8 = .ok (.aload_n 0, 1) := by decide +kernel
theorem dX5_lineLetter_9 : decode cX5_lineLetter 9 = .ok (.aload_n 0, 1) := by decide +kernel
theorem dX5_lineLetter_10 : decode cX5_lineLetter 10 = .ok (.getfield 7, 3) := by decide +kernel
theorem dX5_lineLetter_13 : decode cX5_lineLetter 13 = .ok (.iconst 1, 1) := by decide +kernel
theorem dX5_lineLetter_14 : decode cX5_lineLetter 14 = .ok (.iload_n 1, 1) := by decide +kernel
theorem dX5_lineLetter_15 : decode cX5_lineLetter 15 = .ok (.iadd, 1) := by decide +kernel
theorem dX5_lineLetter_16 : decode cX5_lineLetter 16 = .ok (.iaload, 1) := by decide +kernel
theorem dX5_lineLetter_17 : decode cX5_lineLetter 17 = .ok (.invokevirtual 95, 3) := by decide +kernel
theorem dX5_lineLetter_20 : decode cX5_lineLetter 20 = .ok (.goto 8, 3) := by decide +kernel
theorem dX5_lineLetter_23 : decode cX5_lineLetter 23 = .ok (.aload_n 0, 1) := by decide +kernel
theorem dX5_lineLetter_24 : decode cX5_lineLetter 24 = .ok (.iconst 1, 1) := by decide +kernel
theorem dX5_lineLetter_25 : decode cX5_lineLetter 25 = .ok (.invokevirtual 66, 3) := by decide +kernel
theorem dX5_lineLetter_28 : decode cX5_lineLetter 28 = .ok (.ireturn, 1) := by decide +kernel
set_option maxRecDepth 20000 in
theorem ggX5_lineLetter_X5_isInLine : GoodIn wsX5_lineLetter wsX5_isInLine := goodIn_r _ [6, 1, 7, 8, 5, 9, 19, 20, 21, 22, 23, 24, 25, 26] (by decide +kernel) (by decide +kernel)
set_option maxRecDepth 20000 in
theorem gX5_lineLetter_X5_isInLine : GoodIn wsX5_lineLetter (wsV RX5 89 RX5 yX5_isInLine wsX5_isInLine) := goodIn_app (goodIn_of _ (by decide +kernel)) ggX5_lineLetter_X5_isInLine
set_option maxRecDepth 20000 in
theorem ggX5_lineLetter_X5_told : GoodIn wsX5_lineLetter wsX5_told := goodIn_r _ [13, 14, 19, 20, 21, 22, 23, 24, 25, 26] (by decide +kernel) (by decide +kernel)
set_option maxRecDepth 20000 in
theorem gX5_lineLetter_X5_told : GoodIn wsX5_lineLetter (wsV RX5 95 RX5 yX5_told wsX5_told) := goodIn_app (goodIn_of _ (by decide +kernel)) ggX5_lineLetter_X5_told
set_option maxRecDepth 20000 in
theorem ggX5_lineLetter_X5_fails : GoodIn wsX5_lineLetter wsX5_fails := goodIn_r _ [18, 14, 19, 20, 21, 22, 23, 24, 25, 26] (by decide +kernel) (by decide +kernel)
set_option maxRecDepth 20000 in
theorem gX5_lineLetter_X5_fails : GoodIn wsX5_lineLetter (wsV RX5 66 RX5 yX5_fails wsX5_fails) := goodIn_app (goodIn_of _ (by decide +kernel)) ggX5_lineLetter_X5_fails
theorem dX5_wordLetter_0 : decode cX5_wordLetter 0 = .ok (.aload_n 0, 1) := by decide +kernel
theorem dX5_wordLetter_1 : decode cX5_wordLetter 1 = .ok (.iload_n 1, 1) := by decide +kernel
theorem dX5_wordLetter_2 : decode cX5_wordLetter 2 = .ok (.invokevirtual 98, 3) := by decide +kernel
theorem dX5_wordLetter_5 : decode cX5_wordLetter 5 = .ok (.ifCond .eq 19, 3) := by decide +kernel
theorem dX5_wordLetter_8 : decode cX5_wordLetter 8 = .ok (.aload_n 0, 1) := by decide +kernel
theorem dX5_wordLetter_9 : decode cX5_wordLetter 9 = .ok (.aload_n 0, 1) := by decide +kernel
theorem dX5_wordLetter_10 : decode cX5_wordLetter 10 = .ok (.getfield 7, 3) := by decide +kernel
theorem dX5_wordLetter_13 : decode cX5_wordLetter 13 = .ok (.bipush 62, 2) := by decide +kernel
theorem dX5_wordLetter_15 : decode cX5_wordLetter 15 = .ok (.iload_n 1, 1) := by decide +kernel
theorem dX5_wordLetter_16 : decode cX5_wordLetter 16 = .ok (.iadd, 1) := by decide +kernel
theorem dX5_wordLetter_17 : decode cX5_wordLetter 17 = .ok (.iaload, 1) := by decide +kernel
theorem dX5_wordLetter_18 : decode cX5_wordLetter 18 = .ok (.invokevirtual 95, 3) := by decide +kernel
theorem dX5_wordLetter_21 : decode cX5_wordLetter 21 = .ok (.goto 8, 3) := by decide +kernel
theorem dX5_wordLetter_24 : decode cX5_wordLetter 24 = .ok (.aload_n 0, 1) := by decide +kernel
theorem dX5_wordLetter_25 : decode cX5_wordLetter 25 = .ok (.iconst 1, 1) := by decide +kernel
theorem dX5_wordLetter_26 : decode cX5_wordLetter 26 = .ok (.invokevirtual 66, 3) := by decide +kernel
theorem dX5_wordLetter_29 : decode cX5_wordLetter 29 = .ok (.ireturn, 1) := by decide +kernel
set_option maxRecDepth 20000 in
theorem ggX5_wordLetter_X5_isInWord : GoodIn wsX5_wordLetter wsX5_isInWord := goodIn_r _ [6, 1, 7, 8, 5, 9, 19, 20, 21, 22, 23, 24, 25, 26] (by decide +kernel) (by decide +kernel)
set_option maxRecDepth 20000 in
theorem gX5_wordLetter_X5_isInWord : GoodIn wsX5_wordLetter (wsV RX5 98 RX5 yX5_isInWord wsX5_isInWord) := goodIn_app (goodIn_of _ (by decide +kernel)) ggX5_wordLetter_X5_isInWord
set_option maxRecDepth 20000 in
theorem ggX5_wordLetter_X5_told : GoodIn wsX5_wordLetter wsX5_told := goodIn_r _ [13, 14, 19, 20, 21, 22, 23, 24, 25, 26] (by decide +kernel) (by decide +kernel)
set_option maxRecDepth 20000 in
theorem gX5_wordLetter_X5_told : GoodIn wsX5_wordLetter (wsV RX5 95 RX5 yX5_told wsX5_told) := goodIn_app (goodIn_of _ (by decide +kernel)) ggX5_wordLetter_X5_told
set_option maxRecDepth 20000 in
theorem ggX5_wordLetter_X5_fails : GoodIn wsX5_wordLetter wsX5_fails := goodIn_r _ [18, 14, 19, 20, 21, 22, 23, 24, 25, 26] (by decide +kernel) (by decide +kernel)
set_option maxRecDepth 20000 in
theorem gX5_wordLetter_X5_fails : GoodIn wsX5_wordLetter (wsV RX5 66 RX5 yX5_fails wsX5_fails) := goodIn_app (goodIn_of _ (by decide +kernel)) ggX5_wordLetter_X5_fails
theorem dX5_foundPlace_0 : decode cX5_foundPlace 0 = .ok (.iload_n 1, 1) := by decide +kernel
theorem dX5_foundPlace_1 : decode cX5_foundPlace 1 = .ok (.i2l, 1) := by decide +kernel
theorem dX5_foundPlace_2 : decode cX5_foundPlace 2 = .ok (.lconst 0, 1) := by decide +kernel
theorem dX5_foundPlace_3 : decode cX5_foundPlace 3 = .ok (.aload_n 0, 1) := by decide +kernel
theorem dX5_foundPlace_4 : decode cX5_foundPlace 4 = .ok (.getfield 7, 3) := by decide +kernel
theorem dX5_foundPlace_7 : decode cX5_foundPlace 7 = .ok (.bipush 83, 2) := by decide +kernel
theorem dX5_foundPlace_9 : decode cX5_foundPlace 9 = .ok (.iaload, 1) := by decide +kernel
theorem dX5_foundPlace_10 : decode cX5_foundPlace 10 = .ok (.i2l, 1) := by decide +kernel
theorem dX5_foundPlace_11 : decode cX5_foundPlace 11 = .ok (.lconst 1, 1) := by decide +kernel
theorem dX5_foundPlace_12 : decode cX5_foundPlace 12 = .ok (.lsub, 1) := by decide +kernel
theorem dX5_foundPlace_13 : decode cX5_foundPlace 13 = .ok (.invokestatic 34, 3) := by decide +kernel
theorem dX5_foundPlace_16 : decode cX5_foundPlace 16 = .ok (.ifCond .eq 19, 3) := by decide +kernel
theorem dX5_foundPlace_19 : decode cX5_foundPlace 19 = .ok (.aload_n 0, 1) := by decide +kernel
theorem dX5_foundPlace_20 : decode cX5_foundPlace 20 = .ok (.aload_n 0, 1) := by decide +kernel
theorem dX5_foundPlace_21 : decode cX5_foundPlace 21 = .ok (.getfield 7, 3) := by decide +kernel
theorem dX5_foundPlace_24 : decode cX5_foundPlace 24 = .ok (.bipush 84, 2) := by decide +kernel
theorem dX5_foundPlace_26 : decode cX5_foundPlace 26 = .ok (.iload_n 1, 1) := by decide +kernel
theorem dX5_foundPlace_27 : decode cX5_foundPlace 27 = .ok (.iadd, 1) := by decide +kernel
theorem dX5_foundPlace_28 : decode cX5_foundPlace 28 = .ok (.iaload, 1) := by decide +kernel
theorem dX5_foundPlace_29 : decode cX5_foundPlace 29 = .ok (.invokevirtual 95, 3) := by decide +kernel
theorem dX5_foundPlace_32 : decode cX5_foundPlace 32 = .ok (.goto 8, 3) := by decide +kernel
theorem dX5_foundPlace_35 : decode cX5_foundPlace 35 = .ok (.aload_n 0, 1) := by decide +kernel
theorem dX5_foundPlace_36 : decode cX5_foundPlace 36 = .ok (.iconst 1, 1) := by decide +kernel
theorem dX5_foundPlace_37 : decode cX5_foundPlace 37 = .ok (.invokevirtual 66, 3) := by decide +kernel
theorem dX5_foundPlace_40 : decode cX5_foundPlace 40 = .ok (.ireturn, 1) := by decide +kernel
set_option maxRecDepth 20000 in
theorem ggX5_foundPlace_X5_in : GoodIn wsX5_foundPlace wsX5_in := goodIn_r _ [5] (by decide +kernel) (by decide +kernel)
set_option maxRecDepth 20000 in
theorem gX5_foundPlace_X5_in : GoodIn wsX5_foundPlace (va_wsS RX5 34 yX5_in wsX5_in) := goodIn_app (goodIn_of _ (by decide +kernel)) ggX5_foundPlace_X5_in
set_option maxRecDepth 20000 in
theorem ggX5_foundPlace_X5_told : GoodIn wsX5_foundPlace wsX5_told := goodIn_r _ [9, 10, 15, 16, 17, 18, 19, 20, 21, 22] (by decide +kernel) (by decide +kernel)
set_option maxRecDepth 20000 in
theorem gX5_foundPlace_X5_told : GoodIn wsX5_foundPlace (wsV RX5 95 RX5 yX5_told wsX5_told) := goodIn_app (goodIn_of _ (by decide +kernel)) ggX5_foundPlace_X5_told
set_option maxRecDepth 20000 in
theorem ggX5_foundPlace_X5_fails : GoodIn wsX5_foundPlace wsX5_fails := goodIn_r _ [14, 10, 15, 16, 17, 18, 19, 20, 21, 22] (by decide +kernel) (by decide +kernel)
set_option maxRecDepth 20000 in
theorem gX5_foundPlace_X5_fails : GoodIn wsX5_foundPlace (wsV RX5 66 RX5 yX5_fails wsX5_fails) := goodIn_app (goodIn_of _ (by decide +kernel)) ggX5_foundPlace_X5_fails
theorem dX5_isOver_0 : decode cX5_isOver 0 = .ok (.aload_n 0, 1) := by decide +kernel
theorem dX5_isOver_1 : decode cX5_isOver 1 = .ok (.iconst 0, 1) := by decide +kernel
theorem dX5_isOver_2 : decode cX5_isOver 2 = .ok (.putfield 25, 3) := by decide +kernel
theorem dX5_isOver_5 : decode cX5_isOver 5 = .ok (.aload_n 0, 1) := by decide +kernel
theorem dX5_isOver_6 : decode cX5_isOver 6 = .ok (.aload_n 0, 1) := by decide +kernel
theorem dX5_isOver_7 : decode cX5_isOver 7 = .ok (.getfield 7, 3) := by decide +kernel
theorem dX5_isOver_10 : decode cX5_isOver 10 = .ok (.bipush 80, 2) := by decide +kernel
theorem dX5_isOver_12 : decode cX5_isOver 12 = .ok (.iaload, 1) := by decide +kernel
theorem dX5_isOver_13 : decode cX5_isOver 13 = .ok (.invokevirtual 83, 3) := by decide +kernel
theorem dX5_isOver_16 : decode cX5_isOver 16 = .ok (.ireturn, 1) := by decide +kernel
set_option maxRecDepth 20000 in
theorem ggX5_isOver_X5_isOverAt : GoodIn wsX5_isOver wsX5_isOverAt := goodIn_r _ [7, 2, 8, 9, 10, 11, 12, 13, 14, 15] (by decide +kernel) (by decide +kernel)
set_option maxRecDepth 20000 in
theorem gX5_isOver_X5_isOverAt : GoodIn wsX5_isOver (wsV RX5 83 RX5 yX5_isOverAt wsX5_isOverAt) := goodIn_app (goodIn_of _ (by decide +kernel)) ggX5_isOver_X5_isOverAt
theorem dX5_skippedPlaces_0 : decode cX5_skippedPlaces 0 = .ok (.aload_n 0, 1) := by decide +kernel
theorem dX5_skippedPlaces_1 : decode cX5_skippedPlaces 1 = .ok (.getfield 7, 3) := by decide +kernel
theorem dX5_skippedPlaces_4 : decode cX5_skippedPlaces 4 = .ok (.bipush 61, 2) := by decide +kernel
theorem dX5_skippedPlaces_6 : decode cX5_skippedPlaces 6 = .ok (.iaload, 1) := by decide +kernel
theorem dX5_skippedPlaces_7 : decode cX5_skippedPlaces 7 = .ok (.ifCond .ne 7, 3) := by decide +kernel
theorem dX5_skippedPlaces_10 : decode cX5_skippedPlaces 10 = .ok (.iconst 0, 1) := by decide +kernel
theorem dX5_skippedPlaces_11 : decode cX5_skippedPlaces 11 = .ok (.goto 19, 3) := by decide +kernel
theorem dX5_skippedPlaces_14 : decode cX5_skippedPlaces 14 = .ok (.aload_n 0, 1) := by decide +kernel
theorem dX5_skippedPlaces_15 : decode cX5_skippedPlaces 15 = .ok (.getfield 7, 3) := by decide +kernel
theorem dX5_skippedPlaces_18 : decode cX5_skippedPlaces 18 = .ok (.iconst 0, 1) := by decide +kernel
theorem dX5_skippedPlaces_19 : decode cX5_skippedPlaces 19 = .ok (.iaload, 1) := by decide +kernel
theorem dX5_skippedPlaces_20 : decode cX5_skippedPlaces 20 = .ok (.aload_n 0, 1) := by decide +kernel
theorem dX5_skippedPlaces_21 : decode cX5_skippedPlaces 21 = .ok (.getfield 7, 3) := by decide +kernel
theorem dX5_skippedPlaces_24 : decode cX5_skippedPlaces 24 = .ok (.bipush 61, 2) := by decide +kernel
theorem dX5_skippedPlaces_26 : decode cX5_skippedPlaces 26 = .ok (.iaload, 1) := by decide +kernel
theorem dX5_skippedPlaces_27 : decode cX5_skippedPlaces 27 = .ok (.isub, 1) := by decide +kernel
theorem dX5_skippedPlaces_28 : decode cX5_skippedPlaces 28 = .ok (.iconst 1, 1) := by decide +kernel
theorem dX5_skippedPlaces_29 : decode cX5_skippedPlaces 29 = .ok (.iadd, 1) := by decide +kernel
theorem dX5_skippedPlaces_30 : decode cX5_skippedPlaces 30 = .ok (.istore_n 1, 1) := by decide +kernel
theorem dX5_skippedPlaces_31 : decode cX5_skippedPlaces 31 = .ok (.aload_n 0, 1) := by decide +kernel
theorem dX5_skippedPlaces_32 : decode cX5_skippedPlaces 32 = .ok (.getfield 7, 3) := by decide +kernel
theorem dX5_skippedPlaces_35 : decode cX5_skippedPlaces 35 = .ok (.bipush 80, 2) := by decide +kernel
theorem dX5_skippedPlaces_37 : decode cX5_skippedPlaces 37 = .ok (.iaload, 1) := by decide +kernel
theorem dX5_skippedPlaces_38 : decode cX5_skippedPlaces 38 = .ok (.iload_n 1, 1) := by decide +kernel
theorem dX5_skippedPlaces_39 : decode cX5_skippedPlaces 39 = .ok (.if_icmp .ge 13, 3) := by decide +kernel
theorem dX5_skippedPlaces_42 : decode cX5_skippedPlaces 42 = .ok (.aload_n 0, 1) := by decide +kernel
theorem dX5_skippedPlaces_43 : decode cX5_skippedPlaces 43 = .ok (.getfield 7, 3) := by decide +kernel
theorem dX5_skippedPlaces_46 : decode cX5_skippedPlaces 46 = .ok (.bipush 80, 2) := by decide +kernel
theorem dX5_skippedPlaces_48 : decode cX5_skippedPlaces 48 = .ok (.iaload, 1) := by decide +kernel
theorem dX5_skippedPlaces_49 : decode cX5_skippedPlaces 49 = .ok (.goto 4, 3) := by decide +kernel
theorem dX5_skippedPlaces_52 : decode cX5_skippedPlaces 52 = .ok (.iload_n 1, 1) := by decide +kernel
theorem dX5_skippedPlaces_53 : decode cX5_skippedPlaces 53 = .ok (.istore_n 2, 1) := by decide +kernel
theorem dX5_skippedPlaces_54 : decode cX5_skippedPlaces 54 = .ok (.aload_n 0, 1) := by decide +kernel
theorem dX5_skippedPlaces_55 : decode cX5_skippedPlaces 55 = .ok (.iload_n 2, 1) := by decide +kernel
theorem dX5_skippedPlaces_56 : decode cX5_skippedPlaces 56 = .ok (.ifCond .ge 7, 3) := by decide +kernel
theorem dX5_skippedPlaces_59 : decode cX5_skippedPlaces 59 = .ok (.iconst 0, 1) := by decide +kernel
theorem dX5_skippedPlaces_60 : decode cX5_skippedPlaces 60 = .ok (.goto 12, 3) := by decide +kernel
theorem dX5_skippedPlaces_63 : decode cX5_skippedPlaces 63 = .ok (.iload_n 2, 1) := by decide +kernel
theorem dX5_skippedPlaces_64 : decode cX5_skippedPlaces 64 = .ok (.aload_n 0, 1) := by decide +kernel
theorem dX5_skippedPlaces_65 : decode cX5_skippedPlaces 65 = .ok (.getfield 7, 3) := by decide +kernel
theorem dX5_skippedPlaces_68 : decode cX5_skippedPlaces 68 = .ok (.bipush 81, 2) := by decide +kernel
theorem dX5_skippedPlaces_70 : decode cX5_skippedPlaces 70 = .ok (.iaload, 1) := by decide +kernel
theorem dX5_skippedPlaces_71 : decode cX5_skippedPlaces 71 = .ok (.isub, 1) := by decide +kernel
theorem dX5_skippedPlaces_72 : decode cX5_skippedPlaces 72 = .ok (.invokevirtual 95, 3) := by decide +kernel
theorem dX5_skippedPlaces_75 : decode cX5_skippedPlaces 75 = .ok (.ireturn, 1) := by decide +kernel
set_option maxRecDepth 20000 in
theorem ggX5_skippedPlaces_X5_told : GoodIn wsX5_skippedPlaces wsX5_told := goodIn_r _ [6, 7, 8, 9, 10, 11, 12, 13, 14, 15] (by decide +kernel) (by decide +kernel)
set_option maxRecDepth 20000 in
theorem gX5_skippedPlaces_X5_told : GoodIn wsX5_skippedPlaces (wsV RX5 95 RX5 yX5_told wsX5_told) := goodIn_app (goodIn_of _ (by decide +kernel)) ggX5_skippedPlaces_X5_told
theorem dX5_lastPlaceOf_0 : decode cX5_lastPlaceOf 0 = .ok (.iload_n 1, 1) := by decide +kernel
theorem dX5_lastPlaceOf_1 : decode cX5_lastPlaceOf 1 = .ok (.invokestatic 92, 3) := by decide +kernel
theorem dX5_lastPlaceOf_4 : decode cX5_lastPlaceOf 4 = .ok (.ifCond .eq 15, 3) := by decide +kernel
theorem dX5_lastPlaceOf_7 : decode cX5_lastPlaceOf 7 = .ok (.aload_n 0, 1) := by decide +kernel
theorem dX5_lastPlaceOf_8 : decode cX5_lastPlaceOf 8 = .ok (.aload_n 0, 1) := by decide +kernel
theorem dX5_lastPlaceOf_9 : decode cX5_lastPlaceOf 9 = .ok (.iload_n 1, 1) := by decide +kernel
theorem dX5_lastPlaceOf_10 : decode cX5_lastPlaceOf 10 = .ok (.invokevirtual 46, 3) := by decide +kernel
theorem dX5_lastPlaceOf_13 : decode cX5_lastPlaceOf 13 = .ok (.invokevirtual 95, 3) := by decide +kernel
theorem dX5_lastPlaceOf_16 : decode cX5_lastPlaceOf 16 = .ok (.goto 8, 3) := by decide +kernel
theorem dX5_lastPlaceOf_19 : decode cX5_lastPlaceOf 19 = .ok (.aload_n 0, 1) := by decide +kernel
theorem dX5_lastPlaceOf_20 : decode cX5_lastPlaceOf 20 = .ok (.iconst 1, 1) := by decide +kernel
theorem dX5_lastPlaceOf_21 : decode cX5_lastPlaceOf 21 = .ok (.invokevirtual 66, 3) := by decide +kernel
theorem dX5_lastPlaceOf_24 : decode cX5_lastPlaceOf 24 = .ok (.ireturn, 1) := by decide +kernel
set_option maxRecDepth 20000 in
theorem ggX5_lastPlaceOf_X5_isLetter : GoodIn wsX5_lastPlaceOf wsX5_isLetter := goodIn_r _ [4, 5, 6, 7, 3, 8] (by decide +kernel) (by decide +kernel)
set_option maxRecDepth 20000 in
theorem gX5_lastPlaceOf_X5_isLetter : GoodIn wsX5_lastPlaceOf (va_wsS RX5 92 yX5_isLetter wsX5_isLetter) := goodIn_app (goodIn_of _ (by decide +kernel)) ggX5_lastPlaceOf_X5_isLetter
set_option maxRecDepth 20000 in
theorem ggX5_lastPlaceOf_X5_lastOf : GoodIn wsX5_lastPlaceOf wsX5_lastOf := goodIn_r _ [12, 13, 23, 24, 25, 26, 27, 28, 29, 30] (by decide +kernel) (by decide +kernel)
set_option maxRecDepth 20000 in
theorem gX5_lastPlaceOf_X5_lastOf : GoodIn wsX5_lastPlaceOf (wsV RX5 46 RX5 yX5_lastOf wsX5_lastOf) := goodIn_app (goodIn_of _ (by decide +kernel)) ggX5_lastPlaceOf_X5_lastOf
set_option maxRecDepth 20000 in
theorem ggX5_lastPlaceOf_X5_told : GoodIn wsX5_lastPlaceOf wsX5_told := goodIn_r _ [17, 18, 23, 24, 25, 26, 27, 28, 29, 30] (by decide +kernel) (by decide +kernel)
set_option maxRecDepth 20000 in
theorem gX5_lastPlaceOf_X5_told : GoodIn wsX5_lastPlaceOf (wsV RX5 95 RX5 yX5_told wsX5_told) := goodIn_app (goodIn_of _ (by decide +kernel)) ggX5_lastPlaceOf_X5_told
set_option maxRecDepth 20000 in
theorem ggX5_lastPlaceOf_X5_fails : GoodIn wsX5_lastPlaceOf wsX5_fails := goodIn_r _ [22, 18, 23, 24, 25, 26, 27, 28, 29, 30] (by decide +kernel) (by decide +kernel)
set_option maxRecDepth 20000 in
theorem gX5_lastPlaceOf_X5_fails : GoodIn wsX5_lastPlaceOf (wsV RX5 66 RX5 yX5_fails wsX5_fails) := goodIn_app (goodIn_of _ (by decide +kernel)) ggX5_lastPlaceOf_X5_fails
theorem dX5_letterSkip_0 : decode cX5_letterSkip 0 = .ok (.aload_n 0, 1) := by decide +kernel
theorem dX5_letterSkip_1 : decode cX5_letterSkip 1 = .ok (.iload_n 1, 1) := by decide +kernel
theorem dX5_letterSkip_2 : decode cX5_letterSkip 2 = .ok (.invokevirtual 98, 3) := by decide +kernel
theorem dX5_letterSkip_5 : decode cX5_letterSkip 5 = .ok (.ifCond .ne 9, 3) := by decide +kernel
theorem dX5_letterSkip_8 : decode cX5_letterSkip 8 = .ok (.aload_n 0, 1) := by decide +kernel
theorem dX5_letterSkip_9 : decode cX5_letterSkip 9 = .ok (.iconst 1, 1) := by decide +kernel
theorem dX5_letterSkip_10 : decode cX5_letterSkip 10 = .ok (.invokevirtual 66, 3) := by decide +kernel
theorem dX5_letterSkip_13 : decode cX5_letterSkip 13 = .ok (.ireturn, 1) := by decide +kernel
theorem dX5_letterSkip_14 : decode cX5_letterSkip 14 = .ok (.iload_n 2, 1) := by decide +kernel
theorem dX5_letterSkip_15 : decode cX5_letterSkip 15 = .ok (.invokestatic 92, 3) := by decide +kernel
theorem dX5_letterSkip_18 : decode cX5_letterSkip 18 = .ok (.ifCond .eq 17, 3) := by decide +kernel
theorem dX5_letterSkip_21 : decode cX5_letterSkip 21 = .ok (.aload_n 0, 1) := by decide +kernel
theorem dX5_letterSkip_22 : decode cX5_letterSkip 22 = .ok (.iload_n 1, 1) := by decide +kernel
theorem dX5_letterSkip_23 : decode cX5_letterSkip 23 = .ok (.aload_n 0, 1) := by decide +kernel
theorem dX5_letterSkip_24 : decode cX5_letterSkip 24 = .ok (.iload_n 2, 1) := by decide +kernel
theorem dX5_letterSkip_25 : decode cX5_letterSkip 25 = .ok (.invokevirtual 46, 3) := by decide +kernel
theorem dX5_letterSkip_28 : decode cX5_letterSkip 28 = .ok (.isub, 1) := by decide +kernel
theorem dX5_letterSkip_29 : decode cX5_letterSkip 29 = .ok (.invokevirtual 95, 3) := by decide +kernel
theorem dX5_letterSkip_32 : decode cX5_letterSkip 32 = .ok (.goto 8, 3) := by decide +kernel
theorem dX5_letterSkip_35 : decode cX5_letterSkip 35 = .ok (.aload_n 0, 1) := by decide +kernel
theorem dX5_letterSkip_36 : decode cX5_letterSkip 36 = .ok (.iconst 2, 1) := by decide +kernel
theorem dX5_letterSkip_37 : decode cX5_letterSkip 37 = .ok (.invokevirtual 66, 3) := by decide +kernel
theorem dX5_letterSkip_40 : decode cX5_letterSkip 40 = .ok (.ireturn, 1) := by decide +kernel
set_option maxRecDepth 20000 in
theorem ggX5_letterSkip_X5_isInWord : GoodIn wsX5_letterSkip wsX5_isInWord := goodIn_r _ [5, 6, 7, 8, 4, 9, 27, 28, 29, 30, 31, 32, 33, 34] (by decide +kernel) (by decide +kernel)
set_option maxRecDepth 20000 in
theorem gX5_letterSkip_X5_isInWord : GoodIn wsX5_letterSkip (wsV RX5 98 RX5 yX5_isInWord wsX5_isInWord) := goodIn_app (goodIn_of _ (by decide +kernel)) ggX5_letterSkip_X5_isInWord
set_option maxRecDepth 20000 in
theorem ggX5_letterSkip_X5_fails : GoodIn wsX5_letterSkip wsX5_fails := goodIn_r _ [13, 14, 27, 28, 29, 30, 31, 32, 33, 34] (by decide +kernel) (by decide +kernel)
set_option maxRecDepth 20000 in
theorem gX5_letterSkip_X5_fails : GoodIn wsX5_letterSkip (wsV RX5 66 RX5 yX5_fails wsX5_fails) := goodIn_app (goodIn_of _ (by decide +kernel)) ggX5_letterSkip_X5_fails
set_option maxRecDepth 20000 in
theorem ggX5_letterSkip_X5_isLetter : GoodIn wsX5_letterSkip wsX5_isLetter := goodIn_r _ [17, 18, 7, 8, 4, 9] (by decide +kernel) (by decide +kernel)
set_option maxRecDepth 20000 in
theorem gX5_letterSkip_X5_isLetter : GoodIn wsX5_letterSkip (va_wsS RX5 92 yX5_isLetter wsX5_isLetter) := goodIn_app (goodIn_of _ (by decide +kernel)) ggX5_letterSkip_X5_isLetter
set_option maxRecDepth 20000 in
theorem ggX5_letterSkip_X5_lastOf : GoodIn wsX5_letterSkip wsX5_lastOf := goodIn_r _ [22, 6, 27, 28, 29, 30, 31, 32, 33, 34] (by decide +kernel) (by decide +kernel)
set_option maxRecDepth 20000 in
theorem gX5_letterSkip_X5_lastOf : GoodIn wsX5_letterSkip (wsV RX5 46 RX5 yX5_lastOf wsX5_lastOf) := goodIn_app (goodIn_of _ (by decide +kernel)) ggX5_letterSkip_X5_lastOf
set_option maxRecDepth 20000 in
theorem ggX5_letterSkip_X5_told : GoodIn wsX5_letterSkip wsX5_told := goodIn_r _ [26, 14, 27, 28, 29, 30, 31, 32, 33, 34] (by decide +kernel) (by decide +kernel)
set_option maxRecDepth 20000 in
theorem gX5_letterSkip_X5_told : GoodIn wsX5_letterSkip (wsV RX5 95 RX5 yX5_told wsX5_told) := goodIn_app (goodIn_of _ (by decide +kernel)) ggX5_letterSkip_X5_told
theorem dX5_endSkip_0 : decode cX5_endSkip 0 = .ok (.aload_n 0, 1) := by decide +kernel
theorem dX5_endSkip_1 : decode cX5_endSkip 1 = .ok (.iload_n 1, 1) := by decide +kernel
theorem dX5_endSkip_2 : decode cX5_endSkip 2 = .ok (.invokevirtual 98, 3) := by decide +kernel
theorem dX5_endSkip_5 : decode cX5_endSkip 5 = .ok (.ifCond .eq 15, 3) := by decide +kernel
theorem dX5_endSkip_8 : decode cX5_endSkip 8 = .ok (.aload_n 0, 1) := by decide +kernel
theorem dX5_endSkip_9 : decode cX5_endSkip 9 = .ok (.aload_n 0, 1) := by decide +kernel
theorem dX5_endSkip_10 : decode cX5_endSkip 10 = .ok (.iload_n 1, 1) := by decide +kernel
theorem dX5_endSkip_11 : decode cX5_endSkip 11 = .ok (.invokevirtual 50, 3) := by decide +kernel
theorem dX5_endSkip_14 : decode cX5_endSkip 14 = .ok (.invokevirtual 95, 3) := by decide +kernel
theorem dX5_endSkip_17 : decode cX5_endSkip 17 = .ok (.goto 8, 3) := by decide +kernel
theorem dX5_endSkip_20 : decode cX5_endSkip 20 = .ok (.aload_n 0, 1) := by decide +kernel
theorem dX5_endSkip_21 : decode cX5_endSkip 21 = .ok (.iconst 1, 1) := by decide +kernel
theorem dX5_endSkip_22 : decode cX5_endSkip 22 = .ok (.invokevirtual 66, 3) := by decide +kernel
theorem dX5_endSkip_25 : decode cX5_endSkip 25 = .ok (.ireturn, 1) := by decide +kernel
set_option maxRecDepth 20000 in
theorem ggX5_endSkip_X5_isInWord : GoodIn wsX5_endSkip wsX5_isInWord := goodIn_r _ [5, 6, 7, 8, 4, 9, 27, 28, 29, 30, 31, 32, 33, 34] (by decide +kernel) (by decide +kernel)
set_option maxRecDepth 20000 in
theorem gX5_endSkip_X5_isInWord : GoodIn wsX5_endSkip (wsV RX5 98 RX5 yX5_isInWord wsX5_isInWord) := goodIn_app (goodIn_of _ (by decide +kernel)) ggX5_endSkip_X5_isInWord
set_option maxRecDepth 20000 in
theorem ggX5_endSkip_X5_endSkipOf : GoodIn wsX5_endSkip wsX5_endSkipOf := goodIn_r _ [13, 14, 15, 16, 4, 17, 6, 27, 28, 29, 30, 31, 32, 33, 34] (by decide +kernel) (by decide +kernel)
set_option maxRecDepth 20000 in
theorem gX5_endSkip_X5_endSkipOf : GoodIn wsX5_endSkip (wsV RX5 50 RX5 yX5_endSkipOf wsX5_endSkipOf) := goodIn_app (goodIn_of _ (by decide +kernel)) ggX5_endSkip_X5_endSkipOf
set_option maxRecDepth 20000 in
theorem ggX5_endSkip_X5_told : GoodIn wsX5_endSkip wsX5_told := goodIn_r _ [21, 22, 27, 28, 29, 30, 31, 32, 33, 34] (by decide +kernel) (by decide +kernel)
set_option maxRecDepth 20000 in
theorem gX5_endSkip_X5_told : GoodIn wsX5_endSkip (wsV RX5 95 RX5 yX5_told wsX5_told) := goodIn_app (goodIn_of _ (by decide +kernel)) ggX5_endSkip_X5_told
set_option maxRecDepth 20000 in
theorem ggX5_endSkip_X5_fails : GoodIn wsX5_endSkip wsX5_fails := goodIn_r _ [26, 22, 27, 28, 29, 30, 31, 32, 33, 34] (by decide +kernel) (by decide +kernel)
set_option maxRecDepth 20000 in
theorem gX5_endSkip_X5_fails : GoodIn wsX5_endSkip (wsV RX5 66 RX5 yX5_fails wsX5_fails) := goodIn_app (goodIn_of _ (by decide +kernel)) ggX5_endSkip_X5_fails
theorem dX5_endSkipByTrying_0 : decode cX5_endSkipByTrying 0 = .ok (.aload_n 0, 1) := by decide +kernel
theorem dX5_endSkipByTrying_1 : decode cX5_endSkipByTrying 1 = .ok (.iload_n 1, 1) := by decide +kernel
theorem dX5_endSkipByTrying_2 : decode cX5_endSkipByTrying 2 = .ok (.invokevirtual 98, 3) := by decide +kernel
theorem dX5_endSkipByTrying_5 : decode cX5_endSkipByTrying 5 = .ok (.ifCond .eq 15, 3) := by decide +kernel
theorem dX5_endSkipByTrying_8 : decode cX5_endSkipByTrying 8 = .ok (.aload_n 0, 1) := by decide +kernel
theorem dX5_endSkipByTrying_9 : decode cX5_endSkipByTrying 9 = .ok (.aload_n 0, 1) := by decide +kernel
theorem dX5_endSkipByTrying_10 : decode cX5_endSkipByTrying 10 = .ok (.iload_n 1, 1) := by decide +kernel
theorem dX5_endSkipByTrying_11 : decode cX5_endSkipByTrying 11 = .ok (.invokevirtual 50, 3) := by decide +kernel
theorem dX5_endSkipByTrying_14 : decode cX5_endSkipByTrying 14 = .ok (.invokevirtual 95, 3) := by decide +kernel
theorem dX5_endSkipByTrying_17 : decode cX5_endSkipByTrying 17 = .ok (.goto 8, 3) := by decide +kernel
theorem dX5_endSkipByTrying_20 : decode cX5_endSkipByTrying 20 = .ok (.aload_n 0, 1) := by decide +kernel
theorem dX5_endSkipByTrying_21 : decode cX5_endSkipByTrying 21 = .ok (.iconst 1, 1) := by decide +kernel
theorem dX5_endSkipByTrying_22 : decode cX5_endSkipByTrying 22 = .ok (.invokevirtual 66, 3) := by decide +kernel
theorem dX5_endSkipByTrying_25 : decode cX5_endSkipByTrying 25 = .ok (.ireturn, 1) := by decide +kernel
set_option maxRecDepth 20000 in
theorem ggX5_endSkipByTrying_X5_isInWord : GoodIn wsX5_endSkipByTrying wsX5_isInWord := goodIn_r _ [5, 6, 7, 8, 4, 9, 27, 28, 29, 30, 31, 32, 33, 34] (by decide +kernel) (by decide +kernel)
set_option maxRecDepth 20000 in
theorem gX5_endSkipByTrying_X5_isInWord : GoodIn wsX5_endSkipByTrying (wsV RX5 98 RX5 yX5_isInWord wsX5_isInWord) := goodIn_app (goodIn_of _ (by decide +kernel)) ggX5_endSkipByTrying_X5_isInWord
set_option maxRecDepth 20000 in
theorem ggX5_endSkipByTrying_X5_endSkipOf : GoodIn wsX5_endSkipByTrying wsX5_endSkipOf := goodIn_r _ [13, 14, 15, 16, 4, 17, 6, 27, 28, 29, 30, 31, 32, 33, 34] (by decide +kernel) (by decide +kernel)
set_option maxRecDepth 20000 in
theorem gX5_endSkipByTrying_X5_endSkipOf : GoodIn wsX5_endSkipByTrying (wsV RX5 50 RX5 yX5_endSkipOf wsX5_endSkipOf) := goodIn_app (goodIn_of _ (by decide +kernel)) ggX5_endSkipByTrying_X5_endSkipOf
set_option maxRecDepth 20000 in
theorem ggX5_endSkipByTrying_X5_told : GoodIn wsX5_endSkipByTrying wsX5_told := goodIn_r _ [21, 22, 27, 28, 29, 30, 31, 32, 33, 34] (by decide +kernel) (by decide +kernel)
set_option maxRecDepth 20000 in
theorem gX5_endSkipByTrying_X5_told : GoodIn wsX5_endSkipByTrying (wsV RX5 95 RX5 yX5_told wsX5_told) := goodIn_app (goodIn_of _ (by decide +kernel)) ggX5_endSkipByTrying_X5_told
set_option maxRecDepth 20000 in
theorem ggX5_endSkipByTrying_X5_fails : GoodIn wsX5_endSkipByTrying wsX5_fails := goodIn_r _ [26, 22, 27, 28, 29, 30, 31, 32, 33, 34] (by decide +kernel) (by decide +kernel)
set_option maxRecDepth 20000 in
theorem gX5_endSkipByTrying_X5_fails : GoodIn wsX5_endSkipByTrying (wsV RX5 66 RX5 yX5_fails wsX5_fails) := goodIn_app (goodIn_of _ (by decide +kernel)) ggX5_endSkipByTrying_X5_fails
theorem dX5_period_0 : decode cX5_period 0 = .ok (.aload_n 0, 1) := by decide +kernel
theorem dX5_period_1 : decode cX5_period 1 = .ok (.aload_n 0, 1) := by decide +kernel
theorem dX5_period_2 : decode cX5_period 2 = .ok (.invokevirtual 42, 3) := by decide +kernel
theorem dX5_period_5 : decode cX5_period 5 = .ok (.invokevirtual 95, 3) := by decide +kernel
theorem dX5_period_8 : decode cX5_period 8 = .ok (.ireturn, 1) := by decide +kernel
set_option maxRecDepth 20000 in
theorem ggX5_period_X5_periodNow : GoodIn wsX5_period wsX5_periodNow := goodIn_r _ [5, 6, 12, 13, 14, 15, 16, 17, 18, 19] (by decide +kernel) (by decide +kernel)
set_option maxRecDepth 20000 in
theorem gX5_period_X5_periodNow : GoodIn wsX5_period (wsV RX5 42 RX5 yX5_periodNow wsX5_periodNow) := goodIn_app (goodIn_of _ (by decide +kernel)) ggX5_period_X5_periodNow
set_option maxRecDepth 20000 in
theorem ggX5_period_X5_told : GoodIn wsX5_period wsX5_told := goodIn_r _ [10, 11, 12, 13, 14, 15, 16, 17, 18, 19] (by decide +kernel) (by decide +kernel)
set_option maxRecDepth 20000 in
theorem gX5_period_X5_told : GoodIn wsX5_period (wsV RX5 95 RX5 yX5_told wsX5_told) := goodIn_app (goodIn_of _ (by decide +kernel)) ggX5_period_X5_told
theorem dX5_border_0 : decode cX5_border 0 = .ok (.aload_n 0, 1) := by decide +kernel
theorem dX5_border_1 : decode cX5_border 1 = .ok (.aload_n 0, 1) := by decide +kernel
theorem dX5_border_2 : decode cX5_border 2 = .ok (.getfield 7, 3) := by decide +kernel
theorem dX5_border_5 : decode cX5_border 5 = .ok (.bipush 61, 2) := by decide +kernel
theorem dX5_border_7 : decode cX5_border 7 = .ok (.iaload, 1) := by decide +kernel
theorem dX5_border_8 : decode cX5_border 8 = .ok (.aload_n 0, 1) := by decide +kernel
theorem dX5_border_9 : decode cX5_border 9 = .ok (.invokevirtual 42, 3) := by decide +kernel
theorem dX5_border_12 : decode cX5_border 12 = .ok (.isub, 1) := by decide +kernel
theorem dX5_border_13 : decode cX5_border 13 = .ok (.invokevirtual 95, 3) := by decide +kernel
theorem dX5_border_16 : decode cX5_border 16 = .ok (.ireturn, 1) := by decide +kernel
set_option maxRecDepth 20000 in
theorem ggX5_border_X5_periodNow : GoodIn wsX5_border wsX5_periodNow := goodIn_r _ [6, 1, 12, 13, 14, 15, 16, 17, 18, 19] (by decide +kernel) (by decide +kernel)
set_option maxRecDepth 20000 in
theorem gX5_border_X5_periodNow : GoodIn wsX5_border (wsV RX5 42 RX5 yX5_periodNow wsX5_periodNow) := goodIn_app (goodIn_of _ (by decide +kernel)) ggX5_border_X5_periodNow
set_option maxRecDepth 20000 in
theorem ggX5_border_X5_told : GoodIn wsX5_border wsX5_told := goodIn_r _ [10, 11, 12, 13, 14, 15, 16, 17, 18, 19] (by decide +kernel) (by decide +kernel)
set_option maxRecDepth 20000 in
theorem gX5_border_X5_told : GoodIn wsX5_border (wsV RX5 95 RX5 yX5_told wsX5_told) := goodIn_app (goodIn_of _ (by decide +kernel)) ggX5_border_X5_told
def RG (G : Nat → Int32) (M : MS) : Prop := G 0 = iI (M.1.length : Int) ∧ (∀ j : Nat, j < M.1.length → G (1 + j) = gl M.1 j) ∧ G 61 = iI (M.2.1.length : Int) ∧ (∀ j : Nat, j < M.2.1.length → G (62 + j) = gl M.2.1 j) ∧ G 78 = iI M.2.2.2.1 ∧ G 79 = iI M.2.2.2.2.1 ∧ G 80 = iI M.2.2.2.2.2.1 ∧ G 81 = iI M.2.2.2.2.2.2.1 ∧ G 82 = iI M.2.2.2.2.2.2.2 ∧ G 83 = iI (M.2.2.1.length : Int) ∧ ∀ j : Nat, j < M.2.2.1.length → G (84 + j) = gl M.2.2.1 j
theorem RG.congr {G G2 : Nat → Int32} {M : MS} (h : RG G M) (hM : MOk M) (he : ∀ k : Nat, k < 144 → G2 k = G k) : RG G2 M := by
  obtain ⟨h0, h1L, h61, h62W, h78, h79, h80, h81, h82, h83, h84F⟩ := h
  obtain ⟨o1, o2, o3, o4, _⟩ := hM
  exact ⟨by rw [he 0 (by omega)]; exact h0, fun j hj => by rw [he _ (by omega)]; exact h1L j hj, by rw [he 61 (by omega)]; exact h61, fun j hj => by rw [he _ (by omega)]; exact h62W j hj, by rw [he 78 (by omega)]; exact h78, by rw [he 79 (by omega)]; exact h79, by rw [he 80 (by omega)]; exact h80, by rw [he 81 (by omega)]; exact h81, by rw [he 82 (by omega)]; exact h82, by rw [he 83 (by omega)]; exact h83, fun j hj => by rw [he _ (by omega)]; exact h84F j hj⟩

set_option maxHeartbeats 4000000 in
set_option maxRecDepth 100000 in
theorem c_X5_lineLength (l : Launch) (D : va_G) (cy : Nat → ClassId) (m0 : Nat) (a0 : Nat) (p0 : Nat) (q0 : Nat) (v0 : Nat) (t0 : Nat) (ho : Int) (th : Int) (tl : Int) (G : Nat → Int32) (M : MS) (hG : RG G M) (hM : MOk M) : Ci l D cy yX5_lineLength wsX5_lineLength 1 21 [.ref m0] [(m0, .inr (5, [.ref a0, .ref p0, .int (iI ho), .ref q0, .ref v0, .int (iI th), .ref t0, .int (iI tl)])), (a0, .inl (cy 0, 144, .inl G))] (fun (r : Int32) (u : Unit) => r = iI (M.1.length : Int)) (fun u : Unit => [(m0, .inr (5, [.ref a0, .ref p0, .int (iI ho), .ref q0, .ref v0, .int (iI 0), .ref t0, .int (iI tl)])), (a0, .inl (cy 0, 144, .inl G))]) := by
  refine Ci_of (cc := cX5_lineLength) (maxL := 1) (ret := (some .int)) (by decide) rfl rfl ?_
  intro p e s m args below meth c A hx hb hr hts hown hlocks hml hP hK hD hT hA ls hl
  have hS : va_S A s.heap s.heap [] := va_S.rf
  have hl : lv_has ls 1 [(0, .ref m0)] := hl
  have hiX5 : ∀ w ∈ wsX50, w ∈ wsX5_lineLength := by decide +kernel
  obtain ⟨h0, h1L, h61, h62W, h78, h79, h80, h81, h82, h83, h84F⟩ := id hG
  obtain ⟨o1, o2, o3, o4, o5, o6, o7, o8, o9, o10, o11, o12, o13, o14, o15⟩ := id hM
  refine lv_aload_n hx hb dX5_lineLength_0 rfl (lv_at hl 0 rfl) ?_
  refine lv_aload_n hx hb dX5_lineLength_1 rfl (lv_at hl 0 rfl) ?_
  refine va_get (D := D) (ci := 5) (v := .ref a0) (C := RX5) (T := TX5) (N := 8) hx hb hts hiX5 hown hK hP 0 rfl rfl 0 (by decide) (hts (.fieldLink RX5 7 "BackwardSearchModel" "all" "[I") (by decide +kernel)) (fun _ h9 => h9) rfl dX5_lineLength_2 ?_
  refine lv_iconst (v := iI 0) hx hb dX5_lineLength_5 rfl ?_
  refine z_iald hx hb hK hP 1 rfl (by omega) (by omega) (by omega) dX5_lineLength_6 ?_
  refine z_top (show G (0 : Int).toNat = iI (M.1.length : Int) from by exact h0) ?_
  refine z_cVi (n := 1) (b := m0) (As := [.int (iI (M.1.length : Int))]) (rest := []) ⟨hx, hb, hml, hown, hts⟩ (c_X5_told l D cy m0 a0 p0 q0 v0 t0 ho th tl (iI (M.1.length : Int)) ) gX5_lineLength_X5_told rfl (by decide +kernel) ⟨Nat.le_of_ble_eq_true rfl, Nat.le_of_ble_eq_true rfl⟩ hK hT hP hD hS hA [0] rfl rfl 0 5 rfl rfl rfl (fun _ => rfl) rfl hl.1 rfl (Nat.le_of_ble_eq_true rfl) dX5_lineLength_7 ⟨Nat.zero_le _, Nat.zero_le _⟩ (fun r_1 u_1 H locs hw_1 hP hD hS => ?_)
  have hw_1 : r_1 = (iI (M.1.length : Int)) := hw_1
  have hP : va_P D vwCl [(m0, .inr (5, [.ref a0, .ref p0, .int (iI ho), .ref q0, .ref v0, .int (iI 0), .ref t0, .int (iI tl)])), (a0, .inl (cy 0, 144, .inl G))] H := hP
  have hD : va_D A [(m0, .inr (5, [.ref a0, .ref p0, .int (iI ho), .ref q0, .ref v0, .int (iI 0), .ref t0, .int (iI tl)])), (a0, .inl (cy 0, 144, .inl G))] := hD
  obtain rfl := hw_1
  exact z_iret hx hb hr hlocks hS () (show (iI (M.1.length : Int)) = iI (M.1.length : Int) from rfl) hP dX5_lineLength_10
set_option maxHeartbeats 4000000 in
set_option maxRecDepth 100000 in
theorem c_X5_wordLength (l : Launch) (D : va_G) (cy : Nat → ClassId) (m0 : Nat) (a0 : Nat) (p0 : Nat) (q0 : Nat) (v0 : Nat) (t0 : Nat) (ho : Int) (th : Int) (tl : Int) (G : Nat → Int32) (M : MS) (hG : RG G M) (hM : MOk M) : Ci l D cy yX5_wordLength wsX5_wordLength 1 21 [.ref m0] [(m0, .inr (5, [.ref a0, .ref p0, .int (iI ho), .ref q0, .ref v0, .int (iI th), .ref t0, .int (iI tl)])), (a0, .inl (cy 0, 144, .inl G))] (fun (r : Int32) (u : Unit) => r = iI (M.2.1.length : Int)) (fun u : Unit => [(m0, .inr (5, [.ref a0, .ref p0, .int (iI ho), .ref q0, .ref v0, .int (iI 0), .ref t0, .int (iI tl)])), (a0, .inl (cy 0, 144, .inl G))]) := by
  refine Ci_of (cc := cX5_wordLength) (maxL := 1) (ret := (some .int)) (by decide) rfl rfl ?_
  intro p e s m args below meth c A hx hb hr hts hown hlocks hml hP hK hD hT hA ls hl
  have hS : va_S A s.heap s.heap [] := va_S.rf
  have hl : lv_has ls 1 [(0, .ref m0)] := hl
  have hiX5 : ∀ w ∈ wsX50, w ∈ wsX5_wordLength := by decide +kernel
  obtain ⟨h0, h1L, h61, h62W, h78, h79, h80, h81, h82, h83, h84F⟩ := id hG
  obtain ⟨o1, o2, o3, o4, o5, o6, o7, o8, o9, o10, o11, o12, o13, o14, o15⟩ := id hM
  refine lv_aload_n hx hb dX5_wordLength_0 rfl (lv_at hl 0 rfl) ?_
  refine lv_aload_n hx hb dX5_wordLength_1 rfl (lv_at hl 0 rfl) ?_
  refine va_get (D := D) (ci := 5) (v := .ref a0) (C := RX5) (T := TX5) (N := 8) hx hb hts hiX5 hown hK hP 0 rfl rfl 0 (by decide) (hts (.fieldLink RX5 7 "BackwardSearchModel" "all" "[I") (by decide +kernel)) (fun _ h9 => h9) rfl dX5_wordLength_2 ?_
  refine lv_bipush (v := iI 61) hx hb dX5_wordLength_5 (by decide +kernel) ?_
  refine z_iald hx hb hK hP 1 rfl (by omega) (by omega) (by omega) dX5_wordLength_7 ?_
  refine z_top (show G (61 : Int).toNat = iI (M.2.1.length : Int) from by exact h61) ?_
  refine z_cVi (n := 1) (b := m0) (As := [.int (iI (M.2.1.length : Int))]) (rest := []) ⟨hx, hb, hml, hown, hts⟩ (c_X5_told l D cy m0 a0 p0 q0 v0 t0 ho th tl (iI (M.2.1.length : Int)) ) gX5_wordLength_X5_told rfl (by decide +kernel) ⟨Nat.le_of_ble_eq_true rfl, Nat.le_of_ble_eq_true rfl⟩ hK hT hP hD hS hA [0] rfl rfl 0 5 rfl rfl rfl (fun _ => rfl) rfl hl.1 rfl (Nat.le_of_ble_eq_true rfl) dX5_wordLength_8 ⟨Nat.zero_le _, Nat.zero_le _⟩ (fun r_1 u_1 H locs hw_1 hP hD hS => ?_)
  have hw_1 : r_1 = (iI (M.2.1.length : Int)) := hw_1
  have hP : va_P D vwCl [(m0, .inr (5, [.ref a0, .ref p0, .int (iI ho), .ref q0, .ref v0, .int (iI 0), .ref t0, .int (iI tl)])), (a0, .inl (cy 0, 144, .inl G))] H := hP
  have hD : va_D A [(m0, .inr (5, [.ref a0, .ref p0, .int (iI ho), .ref q0, .ref v0, .int (iI 0), .ref t0, .int (iI tl)])), (a0, .inl (cy 0, 144, .inl G))] := hD
  obtain rfl := hw_1
  exact z_iret hx hb hr hlocks hS () (show (iI (M.2.1.length : Int)) = iI (M.2.1.length : Int) from rfl) hP dX5_wordLength_11
set_option maxHeartbeats 4000000 in
set_option maxRecDepth 100000 in
theorem c_X5_place (l : Launch) (D : va_G) (cy : Nat → ClassId) (m0 : Nat) (a0 : Nat) (p0 : Nat) (q0 : Nat) (v0 : Nat) (t0 : Nat) (ho : Int) (th : Int) (tl : Int) (G : Nat → Int32) (M : MS) (hG : RG G M) (hM : MOk M) : Ci l D cy yX5_place wsX5_place 1 21 [.ref m0] [(m0, .inr (5, [.ref a0, .ref p0, .int (iI ho), .ref q0, .ref v0, .int (iI th), .ref t0, .int (iI tl)])), (a0, .inl (cy 0, 144, .inl G))] (fun (r : Int32) (u : Unit) => r = iI M.2.2.2.2.2.1) (fun u : Unit => [(m0, .inr (5, [.ref a0, .ref p0, .int (iI ho), .ref q0, .ref v0, .int (iI 0), .ref t0, .int (iI tl)])), (a0, .inl (cy 0, 144, .inl G))]) := by
  refine Ci_of (cc := cX5_place) (maxL := 1) (ret := (some .int)) (by decide) rfl rfl ?_
  intro p e s m args below meth c A hx hb hr hts hown hlocks hml hP hK hD hT hA ls hl
  have hS : va_S A s.heap s.heap [] := va_S.rf
  have hl : lv_has ls 1 [(0, .ref m0)] := hl
  have hiX5 : ∀ w ∈ wsX50, w ∈ wsX5_place := by decide +kernel
  obtain ⟨h0, h1L, h61, h62W, h78, h79, h80, h81, h82, h83, h84F⟩ := id hG
  obtain ⟨o1, o2, o3, o4, o5, o6, o7, o8, o9, o10, o11, o12, o13, o14, o15⟩ := id hM
  refine lv_aload_n hx hb dX5_place_0 rfl (lv_at hl 0 rfl) ?_
  refine lv_aload_n hx hb dX5_place_1 rfl (lv_at hl 0 rfl) ?_
  refine va_get (D := D) (ci := 5) (v := .ref a0) (C := RX5) (T := TX5) (N := 8) hx hb hts hiX5 hown hK hP 0 rfl rfl 0 (by decide) (hts (.fieldLink RX5 7 "BackwardSearchModel" "all" "[I") (by decide +kernel)) (fun _ h9 => h9) rfl dX5_place_2 ?_
  refine lv_bipush (v := iI 80) hx hb dX5_place_5 (by decide +kernel) ?_
  refine z_iald hx hb hK hP 1 rfl (by omega) (by omega) (by omega) dX5_place_7 ?_
  refine z_top (show G (80 : Int).toNat = iI M.2.2.2.2.2.1 from by exact h80) ?_
  refine z_cVi (n := 1) (b := m0) (As := [.int (iI M.2.2.2.2.2.1)]) (rest := []) ⟨hx, hb, hml, hown, hts⟩ (c_X5_told l D cy m0 a0 p0 q0 v0 t0 ho th tl (iI M.2.2.2.2.2.1) ) gX5_place_X5_told rfl (by decide +kernel) ⟨Nat.le_of_ble_eq_true rfl, Nat.le_of_ble_eq_true rfl⟩ hK hT hP hD hS hA [0] rfl rfl 0 5 rfl rfl rfl (fun _ => rfl) rfl hl.1 rfl (Nat.le_of_ble_eq_true rfl) dX5_place_8 ⟨Nat.zero_le _, Nat.zero_le _⟩ (fun r_1 u_1 H locs hw_1 hP hD hS => ?_)
  have hw_1 : r_1 = (iI M.2.2.2.2.2.1) := hw_1
  have hP : va_P D vwCl [(m0, .inr (5, [.ref a0, .ref p0, .int (iI ho), .ref q0, .ref v0, .int (iI 0), .ref t0, .int (iI tl)])), (a0, .inl (cy 0, 144, .inl G))] H := hP
  have hD : va_D A [(m0, .inr (5, [.ref a0, .ref p0, .int (iI ho), .ref q0, .ref v0, .int (iI 0), .ref t0, .int (iI tl)])), (a0, .inl (cy 0, 144, .inl G))] := hD
  obtain rfl := hw_1
  exact z_iret hx hb hr hlocks hS () (show (iI M.2.2.2.2.2.1) = iI M.2.2.2.2.2.1 from rfl) hP dX5_place_11
set_option maxHeartbeats 4000000 in
set_option maxRecDepth 100000 in
theorem c_X5_lookCount (l : Launch) (D : va_G) (cy : Nat → ClassId) (m0 : Nat) (a0 : Nat) (p0 : Nat) (q0 : Nat) (v0 : Nat) (t0 : Nat) (ho : Int) (th : Int) (tl : Int) (G : Nat → Int32) (M : MS) (hG : RG G M) (hM : MOk M) : Ci l D cy yX5_lookCount wsX5_lookCount 1 21 [.ref m0] [(m0, .inr (5, [.ref a0, .ref p0, .int (iI ho), .ref q0, .ref v0, .int (iI th), .ref t0, .int (iI tl)])), (a0, .inl (cy 0, 144, .inl G))] (fun (r : Int32) (u : Unit) => r = iI M.2.2.2.2.2.2.1) (fun u : Unit => [(m0, .inr (5, [.ref a0, .ref p0, .int (iI ho), .ref q0, .ref v0, .int (iI 0), .ref t0, .int (iI tl)])), (a0, .inl (cy 0, 144, .inl G))]) := by
  refine Ci_of (cc := cX5_lookCount) (maxL := 1) (ret := (some .int)) (by decide) rfl rfl ?_
  intro p e s m args below meth c A hx hb hr hts hown hlocks hml hP hK hD hT hA ls hl
  have hS : va_S A s.heap s.heap [] := va_S.rf
  have hl : lv_has ls 1 [(0, .ref m0)] := hl
  have hiX5 : ∀ w ∈ wsX50, w ∈ wsX5_lookCount := by decide +kernel
  obtain ⟨h0, h1L, h61, h62W, h78, h79, h80, h81, h82, h83, h84F⟩ := id hG
  obtain ⟨o1, o2, o3, o4, o5, o6, o7, o8, o9, o10, o11, o12, o13, o14, o15⟩ := id hM
  refine lv_aload_n hx hb dX5_lookCount_0 rfl (lv_at hl 0 rfl) ?_
  refine lv_aload_n hx hb dX5_lookCount_1 rfl (lv_at hl 0 rfl) ?_
  refine va_get (D := D) (ci := 5) (v := .ref a0) (C := RX5) (T := TX5) (N := 8) hx hb hts hiX5 hown hK hP 0 rfl rfl 0 (by decide) (hts (.fieldLink RX5 7 "BackwardSearchModel" "all" "[I") (by decide +kernel)) (fun _ h9 => h9) rfl dX5_lookCount_2 ?_
  refine lv_bipush (v := iI 81) hx hb dX5_lookCount_5 (by decide +kernel) ?_
  refine z_iald hx hb hK hP 1 rfl (by omega) (by omega) (by omega) dX5_lookCount_7 ?_
  refine z_top (show G (81 : Int).toNat = iI M.2.2.2.2.2.2.1 from by exact h81) ?_
  refine z_cVi (n := 1) (b := m0) (As := [.int (iI M.2.2.2.2.2.2.1)]) (rest := []) ⟨hx, hb, hml, hown, hts⟩ (c_X5_told l D cy m0 a0 p0 q0 v0 t0 ho th tl (iI M.2.2.2.2.2.2.1) ) gX5_lookCount_X5_told rfl (by decide +kernel) ⟨Nat.le_of_ble_eq_true rfl, Nat.le_of_ble_eq_true rfl⟩ hK hT hP hD hS hA [0] rfl rfl 0 5 rfl rfl rfl (fun _ => rfl) rfl hl.1 rfl (Nat.le_of_ble_eq_true rfl) dX5_lookCount_8 ⟨Nat.zero_le _, Nat.zero_le _⟩ (fun r_1 u_1 H locs hw_1 hP hD hS => ?_)
  have hw_1 : r_1 = (iI M.2.2.2.2.2.2.1) := hw_1
  have hP : va_P D vwCl [(m0, .inr (5, [.ref a0, .ref p0, .int (iI ho), .ref q0, .ref v0, .int (iI 0), .ref t0, .int (iI tl)])), (a0, .inl (cy 0, 144, .inl G))] H := hP
  have hD : va_D A [(m0, .inr (5, [.ref a0, .ref p0, .int (iI ho), .ref q0, .ref v0, .int (iI 0), .ref t0, .int (iI tl)])), (a0, .inl (cy 0, 144, .inl G))] := hD
  obtain rfl := hw_1
  exact z_iret hx hb hr hlocks hS () (show (iI M.2.2.2.2.2.2.1) = iI M.2.2.2.2.2.2.1 from rfl) hP dX5_lookCount_11
set_option maxHeartbeats 4000000 in
set_option maxRecDepth 100000 in
theorem c_X5_comparedCount (l : Launch) (D : va_G) (cy : Nat → ClassId) (m0 : Nat) (a0 : Nat) (p0 : Nat) (q0 : Nat) (v0 : Nat) (t0 : Nat) (ho : Int) (th : Int) (tl : Int) (G : Nat → Int32) (M : MS) (hG : RG G M) (hM : MOk M) : Ci l D cy yX5_comparedCount wsX5_comparedCount 1 21 [.ref m0] [(m0, .inr (5, [.ref a0, .ref p0, .int (iI ho), .ref q0, .ref v0, .int (iI th), .ref t0, .int (iI tl)])), (a0, .inl (cy 0, 144, .inl G))] (fun (r : Int32) (u : Unit) => r = iI M.2.2.2.2.2.2.2) (fun u : Unit => [(m0, .inr (5, [.ref a0, .ref p0, .int (iI ho), .ref q0, .ref v0, .int (iI 0), .ref t0, .int (iI tl)])), (a0, .inl (cy 0, 144, .inl G))]) := by
  refine Ci_of (cc := cX5_comparedCount) (maxL := 1) (ret := (some .int)) (by decide) rfl rfl ?_
  intro p e s m args below meth c A hx hb hr hts hown hlocks hml hP hK hD hT hA ls hl
  have hS : va_S A s.heap s.heap [] := va_S.rf
  have hl : lv_has ls 1 [(0, .ref m0)] := hl
  have hiX5 : ∀ w ∈ wsX50, w ∈ wsX5_comparedCount := by decide +kernel
  obtain ⟨h0, h1L, h61, h62W, h78, h79, h80, h81, h82, h83, h84F⟩ := id hG
  obtain ⟨o1, o2, o3, o4, o5, o6, o7, o8, o9, o10, o11, o12, o13, o14, o15⟩ := id hM
  refine lv_aload_n hx hb dX5_comparedCount_0 rfl (lv_at hl 0 rfl) ?_
  refine lv_aload_n hx hb dX5_comparedCount_1 rfl (lv_at hl 0 rfl) ?_
  refine va_get (D := D) (ci := 5) (v := .ref a0) (C := RX5) (T := TX5) (N := 8) hx hb hts hiX5 hown hK hP 0 rfl rfl 0 (by decide) (hts (.fieldLink RX5 7 "BackwardSearchModel" "all" "[I") (by decide +kernel)) (fun _ h9 => h9) rfl dX5_comparedCount_2 ?_
  refine lv_bipush (v := iI 82) hx hb dX5_comparedCount_5 (by decide +kernel) ?_
  refine z_iald hx hb hK hP 1 rfl (by omega) (by omega) (by omega) dX5_comparedCount_7 ?_
  refine z_top (show G (82 : Int).toNat = iI M.2.2.2.2.2.2.2 from by exact h82) ?_
  refine z_cVi (n := 1) (b := m0) (As := [.int (iI M.2.2.2.2.2.2.2)]) (rest := []) ⟨hx, hb, hml, hown, hts⟩ (c_X5_told l D cy m0 a0 p0 q0 v0 t0 ho th tl (iI M.2.2.2.2.2.2.2) ) gX5_comparedCount_X5_told rfl (by decide +kernel) ⟨Nat.le_of_ble_eq_true rfl, Nat.le_of_ble_eq_true rfl⟩ hK hT hP hD hS hA [0] rfl rfl 0 5 rfl rfl rfl (fun _ => rfl) rfl hl.1 rfl (Nat.le_of_ble_eq_true rfl) dX5_comparedCount_8 ⟨Nat.zero_le _, Nat.zero_le _⟩ (fun r_1 u_1 H locs hw_1 hP hD hS => ?_)
  have hw_1 : r_1 = (iI M.2.2.2.2.2.2.2) := hw_1
  have hP : va_P D vwCl [(m0, .inr (5, [.ref a0, .ref p0, .int (iI ho), .ref q0, .ref v0, .int (iI 0), .ref t0, .int (iI tl)])), (a0, .inl (cy 0, 144, .inl G))] H := hP
  have hD : va_D A [(m0, .inr (5, [.ref a0, .ref p0, .int (iI ho), .ref q0, .ref v0, .int (iI 0), .ref t0, .int (iI tl)])), (a0, .inl (cy 0, 144, .inl G))] := hD
  obtain rfl := hw_1
  exact z_iret hx hb hr hlocks hS () (show (iI M.2.2.2.2.2.2.2) = iI M.2.2.2.2.2.2.2 from rfl) hP dX5_comparedCount_11
set_option maxHeartbeats 4000000 in
set_option maxRecDepth 100000 in
theorem c_X5_foundCount (l : Launch) (D : va_G) (cy : Nat → ClassId) (m0 : Nat) (a0 : Nat) (p0 : Nat) (q0 : Nat) (v0 : Nat) (t0 : Nat) (ho : Int) (th : Int) (tl : Int) (G : Nat → Int32) (M : MS) (hG : RG G M) (hM : MOk M) : Ci l D cy yX5_foundCount wsX5_foundCount 1 21 [.ref m0] [(m0, .inr (5, [.ref a0, .ref p0, .int (iI ho), .ref q0, .ref v0, .int (iI th), .ref t0, .int (iI tl)])), (a0, .inl (cy 0, 144, .inl G))] (fun (r : Int32) (u : Unit) => r = iI (M.2.2.1.length : Int)) (fun u : Unit => [(m0, .inr (5, [.ref a0, .ref p0, .int (iI ho), .ref q0, .ref v0, .int (iI 0), .ref t0, .int (iI tl)])), (a0, .inl (cy 0, 144, .inl G))]) := by
  refine Ci_of (cc := cX5_foundCount) (maxL := 1) (ret := (some .int)) (by decide) rfl rfl ?_
  intro p e s m args below meth c A hx hb hr hts hown hlocks hml hP hK hD hT hA ls hl
  have hS : va_S A s.heap s.heap [] := va_S.rf
  have hl : lv_has ls 1 [(0, .ref m0)] := hl
  have hiX5 : ∀ w ∈ wsX50, w ∈ wsX5_foundCount := by decide +kernel
  obtain ⟨h0, h1L, h61, h62W, h78, h79, h80, h81, h82, h83, h84F⟩ := id hG
  obtain ⟨o1, o2, o3, o4, o5, o6, o7, o8, o9, o10, o11, o12, o13, o14, o15⟩ := id hM
  refine lv_aload_n hx hb dX5_foundCount_0 rfl (lv_at hl 0 rfl) ?_
  refine lv_aload_n hx hb dX5_foundCount_1 rfl (lv_at hl 0 rfl) ?_
  refine va_get (D := D) (ci := 5) (v := .ref a0) (C := RX5) (T := TX5) (N := 8) hx hb hts hiX5 hown hK hP 0 rfl rfl 0 (by decide) (hts (.fieldLink RX5 7 "BackwardSearchModel" "all" "[I") (by decide +kernel)) (fun _ h9 => h9) rfl dX5_foundCount_2 ?_
  refine lv_bipush (v := iI 83) hx hb dX5_foundCount_5 (by decide +kernel) ?_
  refine z_iald hx hb hK hP 1 rfl (by omega) (by omega) (by omega) dX5_foundCount_7 ?_
  refine z_top (show G (83 : Int).toNat = iI (M.2.2.1.length : Int) from by exact h83) ?_
  refine z_cVi (n := 1) (b := m0) (As := [.int (iI (M.2.2.1.length : Int))]) (rest := []) ⟨hx, hb, hml, hown, hts⟩ (c_X5_told l D cy m0 a0 p0 q0 v0 t0 ho th tl (iI (M.2.2.1.length : Int)) ) gX5_foundCount_X5_told rfl (by decide +kernel) ⟨Nat.le_of_ble_eq_true rfl, Nat.le_of_ble_eq_true rfl⟩ hK hT hP hD hS hA [0] rfl rfl 0 5 rfl rfl rfl (fun _ => rfl) rfl hl.1 rfl (Nat.le_of_ble_eq_true rfl) dX5_foundCount_8 ⟨Nat.zero_le _, Nat.zero_le _⟩ (fun r_1 u_1 H locs hw_1 hP hD hS => ?_)
  have hw_1 : r_1 = (iI (M.2.2.1.length : Int)) := hw_1
  have hP : va_P D vwCl [(m0, .inr (5, [.ref a0, .ref p0, .int (iI ho), .ref q0, .ref v0, .int (iI 0), .ref t0, .int (iI tl)])), (a0, .inl (cy 0, 144, .inl G))] H := hP
  have hD : va_D A [(m0, .inr (5, [.ref a0, .ref p0, .int (iI ho), .ref q0, .ref v0, .int (iI 0), .ref t0, .int (iI tl)])), (a0, .inl (cy 0, 144, .inl G))] := hD
  obtain rfl := hw_1
  exact z_iret hx hb hr hlocks hS () (show (iI (M.2.2.1.length : Int)) = iI (M.2.2.1.length : Int) from rfl) hP dX5_foundCount_11
set_option maxHeartbeats 4000000 in
set_option maxRecDepth 100000 in
theorem c_X5_lineLetter (l : Launch) (D : va_G) (cy : Nat → ClassId) (m0 : Nat) (a0 : Nat) (p0 : Nat) (q0 : Nat) (v0 : Nat) (t0 : Nat) (ho : Int) (th : Int) (tl : Int) (G : Nat → Int32) (M : MS) (x : Int) (hG : RG G M) (hM : MOk M) (hx1 : -2147483648 ≤ x ∧ x < 2147483648) : Ci l D cy yX5_lineLetter wsX5_lineLetter 2 46 [.ref m0, .int (iI x)] [(m0, .inr (5, [.ref a0, .ref p0, .int (iI ho), .ref q0, .ref v0, .int (iI th), .ref t0, .int (iI tl)])), (a0, .inl (cy 0, 144, .inl G))] (fun (r : Int32) (u : Int) => ((0 ≤ x ∧ x < (M.1.length : Int)) ∧ r = gl M.1 x.toNat ∧ u = 0) ∨ (¬ (0 ≤ x ∧ x < (M.1.length : Int)) ∧ r = iI 0 ∧ u = 1)) (fun u : Int => [(m0, .inr (5, [.ref a0, .ref p0, .int (iI ho), .ref q0, .ref v0, .int (iI u), .ref t0, .int (iI tl)])), (a0, .inl (cy 0, 144, .inl G))]) := by
  refine Ci_of (cc := cX5_lineLetter) (maxL := 2) (ret := (some .int)) (by decide) rfl rfl ?_
  intro p e s m args below meth c A hx hb hr hts hown hlocks hml hP hK hD hT hA ls hl
  have hS : va_S A s.heap s.heap [] := va_S.rf
  have hl : lv_has ls 2 [(0, .ref m0), (1, .int (iI x))] := hl
  have hiX5 : ∀ w ∈ wsX50, w ∈ wsX5_lineLetter := by decide +kernel
  obtain ⟨h0, h1L, h61, h62W, h78, h79, h80, h81, h82, h83, h84F⟩ := id hG
  obtain ⟨o1, o2, o3, o4, o5, o6, o7, o8, o9, o10, o11, o12, o13, o14, o15⟩ := id hM
  refine lv_aload_n hx hb dX5_lineLetter_0 rfl (lv_at hl 0 rfl) ?_
  refine lv_iload_n hx hb dX5_lineLetter_1 rfl (lv_at hl 1 rfl) ?_
  refine z_cVi (n := 1) (b := m0) (As := [.int (iI x)]) (rest := []) ⟨hx, hb, hml, hown, hts⟩ (c_X5_isInLine l D cy m0 a0 p0 q0 v0 t0 ho th tl G (M.1.length : Int) x (by first | assumption | omega) (by first | assumption | omega) (by first | assumption | omega)) gX5_lineLetter_X5_isInLine rfl (by decide +kernel) ⟨Nat.le_of_ble_eq_true rfl, Nat.le_of_ble_eq_true rfl⟩ hK hT hP hD hS hA [0, 1] rfl rfl 0 5 rfl rfl rfl (fun _ => rfl) rfl hl.1 rfl (Nat.le_of_ble_eq_true rfl) dX5_lineLetter_2 ⟨Nat.zero_le _, Nat.zero_le _⟩ (fun r_1 u_1 H locs hw_1 hP hD hS => ?_)
  have hw_1 : ((0 ≤ x ∧ x < (M.1.length : Int)) ∧ r_1 = iI 1) ∨ (¬ (0 ≤ x ∧ x < (M.1.length : Int)) ∧ r_1 = iI 0) := hw_1
  have hP : va_P D vwCl [(m0, .inr (5, [.ref a0, .ref p0, .int (iI ho), .ref q0, .ref v0, .int (iI th), .ref t0, .int (iI tl)])), (a0, .inl (cy 0, 144, .inl G))] H := hP
  have hD : va_D A [(m0, .inr (5, [.ref a0, .ref p0, .int (iI ho), .ref q0, .ref v0, .int (iI th), .ref t0, .int (iI tl)])), (a0, .inl (cy 0, 144, .inl G))] := hD
  rcases hw_1 with ⟨h_1, rfl⟩ | ⟨h_1, rfl⟩
  · --
    refine z_if_eq (tgt := 23) hx hb (iI_t (by omega) (by omega)) dX5_lineLetter_5 (by decide) (fun c2 => absurd c2 (by omega)) (fun _ => ?_)
    refine lv_aload_n hx hb dX5_lineLetter_8 rfl (lv_at hl 0 rfl) ?_
    refine lv_aload_n hx hb dX5_lineLetter_9 rfl (lv_at hl 0 rfl) ?_
    refine va_get (D := D) (ci := 5) (v := .ref a0) (C := RX5) (T := TX5) (N := 8) hx hb hts hiX5 hown hK hP 0 rfl rfl 0 (by decide) (hts (.fieldLink RX5 7 "BackwardSearchModel" "all" "[I") (by decide +kernel)) (fun _ h9 => h9) rfl dX5_lineLetter_10 ?_
    refine lv_iconst (v := iI 1) hx hb dX5_lineLetter_13 rfl ?_
    refine lv_iload_n hx hb dX5_lineLetter_14 rfl (lv_at hl 1 rfl) ?_
    refine z_add hx hb dX5_lineLetter_15 ?_
    refine z_iald hx hb hK hP 1 rfl (by omega) (by omega) (by omega) dX5_lineLetter_16 ?_
    refine z_top (show G (1 + x).toNat = G (1 + x).toNat from rfl) ?_
    refine z_cVi (n := 1) (b := m0) (As := [.int (G (1 + x).toNat)]) (rest := []) ⟨hx, hb, hml, hown, hts⟩ (c_X5_told l D cy m0 a0 p0 q0 v0 t0 ho th tl (G (1 + x).toNat) ) gX5_lineLetter_X5_told rfl (by decide +kernel) ⟨Nat.le_of_ble_eq_true rfl, Nat.le_of_ble_eq_true rfl⟩ hK hT hP hD hS hA [0] rfl rfl 0 5 rfl rfl rfl (fun _ => rfl) rfl hl.1 rfl (Nat.le_of_ble_eq_true rfl) dX5_lineLetter_17 ⟨Nat.zero_le _, Nat.zero_le _⟩ (fun r_3 u_3 H locs hw_3 hP hD hS => ?_)
    have hw_3 : r_3 = (G (1 + x).toNat) := hw_3
    have hP : va_P D vwCl [(m0, .inr (5, [.ref a0, .ref p0, .int (iI ho), .ref q0, .ref v0, .int (iI 0), .ref t0, .int (iI tl)])), (a0, .inl (cy 0, 144, .inl G))] H := hP
    have hD : va_D A [(m0, .inr (5, [.ref a0, .ref p0, .int (iI ho), .ref q0, .ref v0, .int (iI 0), .ref t0, .int (iI tl)])), (a0, .inl (cy 0, 144, .inl G))] := hD
    obtain rfl := hw_3
    refine lv_goto (tgt := 28) hx hb dX5_lineLetter_20 (by decide) ?_
    exact z_iret hx hb hr hlocks hS (0) (show ((0 ≤ x ∧ x < (M.1.length : Int)) ∧ (G (1 + x).toNat) = gl M.1 x.toNat ∧ 0 = 0) ∨ (¬ (0 ≤ x ∧ x < (M.1.length : Int)) ∧ (G (1 + x).toNat) = iI 0 ∧ 0 = 1) from (by first | exact Or.inl ⟨by omega, (by rw [show (1 + x).toNat = 1 + x.toNat by omega]; exact h1L _ (by omega)), rfl⟩ | exact Or.inr ⟨by omega, rfl, rfl⟩)) hP dX5_lineLetter_28
  · --
    refine z_if_eq (tgt := 23) hx hb (iI_t (by omega) (by omega)) dX5_lineLetter_5 (by decide) (fun _ => ?_) (fun c4 => absurd c4 (by omega))
    refine lv_aload_n hx hb dX5_lineLetter_23 rfl (lv_at hl 0 rfl) ?_
    refine lv_iconst (v := iI 1) hx hb dX5_lineLetter_24 rfl ?_
    refine z_cVi (n := 1) (b := m0) (As := [.int (iI 1)]) (rest := []) ⟨hx, hb, hml, hown, hts⟩ (c_X5_fails l D cy m0 a0 p0 q0 v0 t0 ho th tl 1 ) gX5_lineLetter_X5_fails rfl (by decide +kernel) ⟨Nat.le_of_ble_eq_true rfl, Nat.le_of_ble_eq_true rfl⟩ hK hT hP hD hS hA [0] rfl rfl 0 5 rfl rfl rfl (fun _ => rfl) rfl hl.1 rfl (Nat.le_of_ble_eq_true rfl) dX5_lineLetter_25 ⟨Nat.zero_le _, Nat.zero_le _⟩ (fun r_5 u_5 H locs hw_5 hP hD hS => ?_)
    have hw_5 : r_5 = iI 0 := hw_5
    have hP : va_P D vwCl [(m0, .inr (5, [.ref a0, .ref p0, .int (iI ho), .ref q0, .ref v0, .int (iI 1), .ref t0, .int (iI tl)])), (a0, .inl (cy 0, 144, .inl G))] H := hP
    have hD : va_D A [(m0, .inr (5, [.ref a0, .ref p0, .int (iI ho), .ref q0, .ref v0, .int (iI 1), .ref t0, .int (iI tl)])), (a0, .inl (cy 0, 144, .inl G))] := hD
    obtain rfl := hw_5
    exact z_iret hx hb hr hlocks hS (1) (show ((0 ≤ x ∧ x < (M.1.length : Int)) ∧ (iI 0) = gl M.1 x.toNat ∧ 1 = 0) ∨ (¬ (0 ≤ x ∧ x < (M.1.length : Int)) ∧ (iI 0) = iI 0 ∧ 1 = 1) from (by first | exact Or.inl ⟨by omega, (by rw [show (1 + x).toNat = 1 + x.toNat by omega]; exact h1L _ (by omega)), rfl⟩ | exact Or.inr ⟨by omega, rfl, rfl⟩)) hP dX5_lineLetter_28
set_option maxHeartbeats 4000000 in
set_option maxRecDepth 100000 in
theorem c_X5_wordLetter (l : Launch) (D : va_G) (cy : Nat → ClassId) (m0 : Nat) (a0 : Nat) (p0 : Nat) (q0 : Nat) (v0 : Nat) (t0 : Nat) (ho : Int) (th : Int) (tl : Int) (G : Nat → Int32) (M : MS) (x : Int) (hG : RG G M) (hM : MOk M) (hx1 : -2147483648 ≤ x ∧ x < 2147483648) : Ci l D cy yX5_wordLetter wsX5_wordLetter 2 46 [.ref m0, .int (iI x)] [(m0, .inr (5, [.ref a0, .ref p0, .int (iI ho), .ref q0, .ref v0, .int (iI th), .ref t0, .int (iI tl)])), (a0, .inl (cy 0, 144, .inl G))] (fun (r : Int32) (u : Int) => ((0 ≤ x ∧ x < (M.2.1.length : Int)) ∧ r = gl M.2.1 x.toNat ∧ u = 0) ∨ (¬ (0 ≤ x ∧ x < (M.2.1.length : Int)) ∧ r = iI 0 ∧ u = 1)) (fun u : Int => [(m0, .inr (5, [.ref a0, .ref p0, .int (iI ho), .ref q0, .ref v0, .int (iI u), .ref t0, .int (iI tl)])), (a0, .inl (cy 0, 144, .inl G))]) := by
  refine Ci_of (cc := cX5_wordLetter) (maxL := 2) (ret := (some .int)) (by decide) rfl rfl ?_
  intro p e s m args below meth c A hx hb hr hts hown hlocks hml hP hK hD hT hA ls hl
  have hS : va_S A s.heap s.heap [] := va_S.rf
  have hl : lv_has ls 2 [(0, .ref m0), (1, .int (iI x))] := hl
  have hiX5 : ∀ w ∈ wsX50, w ∈ wsX5_wordLetter := by decide +kernel
  obtain ⟨h0, h1L, h61, h62W, h78, h79, h80, h81, h82, h83, h84F⟩ := id hG
  obtain ⟨o1, o2, o3, o4, o5, o6, o7, o8, o9, o10, o11, o12, o13, o14, o15⟩ := id hM
  refine lv_aload_n hx hb dX5_wordLetter_0 rfl (lv_at hl 0 rfl) ?_
  refine lv_iload_n hx hb dX5_wordLetter_1 rfl (lv_at hl 1 rfl) ?_
  refine z_cVi (n := 1) (b := m0) (As := [.int (iI x)]) (rest := []) ⟨hx, hb, hml, hown, hts⟩ (c_X5_isInWord l D cy m0 a0 p0 q0 v0 t0 ho th tl G (M.2.1.length : Int) x (by first | assumption | omega) (by first | assumption | omega) (by first | assumption | omega)) gX5_wordLetter_X5_isInWord rfl (by decide +kernel) ⟨Nat.le_of_ble_eq_true rfl, Nat.le_of_ble_eq_true rfl⟩ hK hT hP hD hS hA [0, 1] rfl rfl 0 5 rfl rfl rfl (fun _ => rfl) rfl hl.1 rfl (Nat.le_of_ble_eq_true rfl) dX5_wordLetter_2 ⟨Nat.zero_le _, Nat.zero_le _⟩ (fun r_1 u_1 H locs hw_1 hP hD hS => ?_)
  have hw_1 : ((0 ≤ x ∧ x < (M.2.1.length : Int)) ∧ r_1 = iI 1) ∨ (¬ (0 ≤ x ∧ x < (M.2.1.length : Int)) ∧ r_1 = iI 0) := hw_1
  have hP : va_P D vwCl [(m0, .inr (5, [.ref a0, .ref p0, .int (iI ho), .ref q0, .ref v0, .int (iI th), .ref t0, .int (iI tl)])), (a0, .inl (cy 0, 144, .inl G))] H := hP
  have hD : va_D A [(m0, .inr (5, [.ref a0, .ref p0, .int (iI ho), .ref q0, .ref v0, .int (iI th), .ref t0, .int (iI tl)])), (a0, .inl (cy 0, 144, .inl G))] := hD
  rcases hw_1 with ⟨h_1, rfl⟩ | ⟨h_1, rfl⟩
  · --
    refine z_if_eq (tgt := 24) hx hb (iI_t (by omega) (by omega)) dX5_wordLetter_5 (by decide) (fun c2 => absurd c2 (by omega)) (fun _ => ?_)
    refine lv_aload_n hx hb dX5_wordLetter_8 rfl (lv_at hl 0 rfl) ?_
    refine lv_aload_n hx hb dX5_wordLetter_9 rfl (lv_at hl 0 rfl) ?_
    refine va_get (D := D) (ci := 5) (v := .ref a0) (C := RX5) (T := TX5) (N := 8) hx hb hts hiX5 hown hK hP 0 rfl rfl 0 (by decide) (hts (.fieldLink RX5 7 "BackwardSearchModel" "all" "[I") (by decide +kernel)) (fun _ h9 => h9) rfl dX5_wordLetter_10 ?_
    refine lv_bipush (v := iI 62) hx hb dX5_wordLetter_13 (by decide +kernel) ?_
    refine lv_iload_n hx hb dX5_wordLetter_15 rfl (lv_at hl 1 rfl) ?_
    refine z_add hx hb dX5_wordLetter_16 ?_
    refine z_iald hx hb hK hP 1 rfl (by omega) (by omega) (by omega) dX5_wordLetter_17 ?_
    refine z_top (show G (62 + x).toNat = G (62 + x).toNat from rfl) ?_
    refine z_cVi (n := 1) (b := m0) (As := [.int (G (62 + x).toNat)]) (rest := []) ⟨hx, hb, hml, hown, hts⟩ (c_X5_told l D cy m0 a0 p0 q0 v0 t0 ho th tl (G (62 + x).toNat) ) gX5_wordLetter_X5_told rfl (by decide +kernel) ⟨Nat.le_of_ble_eq_true rfl, Nat.le_of_ble_eq_true rfl⟩ hK hT hP hD hS hA [0] rfl rfl 0 5 rfl rfl rfl (fun _ => rfl) rfl hl.1 rfl (Nat.le_of_ble_eq_true rfl) dX5_wordLetter_18 ⟨Nat.zero_le _, Nat.zero_le _⟩ (fun r_3 u_3 H locs hw_3 hP hD hS => ?_)
    have hw_3 : r_3 = (G (62 + x).toNat) := hw_3
    have hP : va_P D vwCl [(m0, .inr (5, [.ref a0, .ref p0, .int (iI ho), .ref q0, .ref v0, .int (iI 0), .ref t0, .int (iI tl)])), (a0, .inl (cy 0, 144, .inl G))] H := hP
    have hD : va_D A [(m0, .inr (5, [.ref a0, .ref p0, .int (iI ho), .ref q0, .ref v0, .int (iI 0), .ref t0, .int (iI tl)])), (a0, .inl (cy 0, 144, .inl G))] := hD
    obtain rfl := hw_3
    refine lv_goto (tgt := 29) hx hb dX5_wordLetter_21 (by decide) ?_
    exact z_iret hx hb hr hlocks hS (0) (show ((0 ≤ x ∧ x < (M.2.1.length : Int)) ∧ (G (62 + x).toNat) = gl M.2.1 x.toNat ∧ 0 = 0) ∨ (¬ (0 ≤ x ∧ x < (M.2.1.length : Int)) ∧ (G (62 + x).toNat) = iI 0 ∧ 0 = 1) from (by first | exact Or.inl ⟨by omega, (by rw [show (62 + x).toNat = 62 + x.toNat by omega]; exact h62W _ (by omega)), rfl⟩ | exact Or.inr ⟨by omega, rfl, rfl⟩)) hP dX5_wordLetter_29
  · --
    refine z_if_eq (tgt := 24) hx hb (iI_t (by omega) (by omega)) dX5_wordLetter_5 (by decide) (fun _ => ?_) (fun c4 => absurd c4 (by omega))
    refine lv_aload_n hx hb dX5_wordLetter_24 rfl (lv_at hl 0 rfl) ?_
    refine lv_iconst (v := iI 1) hx hb dX5_wordLetter_25 rfl ?_
    refine z_cVi (n := 1) (b := m0) (As := [.int (iI 1)]) (rest := []) ⟨hx, hb, hml, hown, hts⟩ (c_X5_fails l D cy m0 a0 p0 q0 v0 t0 ho th tl 1 ) gX5_wordLetter_X5_fails rfl (by decide +kernel) ⟨Nat.le_of_ble_eq_true rfl, Nat.le_of_ble_eq_true rfl⟩ hK hT hP hD hS hA [0] rfl rfl 0 5 rfl rfl rfl (fun _ => rfl) rfl hl.1 rfl (Nat.le_of_ble_eq_true rfl) dX5_wordLetter_26 ⟨Nat.zero_le _, Nat.zero_le _⟩ (fun r_5 u_5 H locs hw_5 hP hD hS => ?_)
    have hw_5 : r_5 = iI 0 := hw_5
    have hP : va_P D vwCl [(m0, .inr (5, [.ref a0, .ref p0, .int (iI ho), .ref q0, .ref v0, .int (iI 1), .ref t0, .int (iI tl)])), (a0, .inl (cy 0, 144, .inl G))] H := hP
    have hD : va_D A [(m0, .inr (5, [.ref a0, .ref p0, .int (iI ho), .ref q0, .ref v0, .int (iI 1), .ref t0, .int (iI tl)])), (a0, .inl (cy 0, 144, .inl G))] := hD
    obtain rfl := hw_5
    exact z_iret hx hb hr hlocks hS (1) (show ((0 ≤ x ∧ x < (M.2.1.length : Int)) ∧ (iI 0) = gl M.2.1 x.toNat ∧ 1 = 0) ∨ (¬ (0 ≤ x ∧ x < (M.2.1.length : Int)) ∧ (iI 0) = iI 0 ∧ 1 = 1) from (by first | exact Or.inl ⟨by omega, (by rw [show (62 + x).toNat = 62 + x.toNat by omega]; exact h62W _ (by omega)), rfl⟩ | exact Or.inr ⟨by omega, rfl, rfl⟩)) hP dX5_wordLetter_29
set_option maxHeartbeats 4000000 in
set_option maxRecDepth 100000 in
theorem c_X5_foundPlace (l : Launch) (D : va_G) (cy : Nat → ClassId) (m0 : Nat) (a0 : Nat) (p0 : Nat) (q0 : Nat) (v0 : Nat) (t0 : Nat) (ho : Int) (th : Int) (tl : Int) (G : Nat → Int32) (M : MS) (x : Int) (hG : RG G M) (hM : MOk M) (hx1 : -2147483648 ≤ x ∧ x < 2147483648) : Ci l D cy yX5_foundPlace wsX5_foundPlace 1 25 [.ref m0, .int (iI x)] [(m0, .inr (5, [.ref a0, .ref p0, .int (iI ho), .ref q0, .ref v0, .int (iI th), .ref t0, .int (iI tl)])), (a0, .inl (cy 0, 144, .inl G))] (fun (r : Int32) (u : Int) => ((0 ≤ x ∧ x < (M.2.2.1.length : Int)) ∧ r = gl M.2.2.1 x.toNat ∧ u = 0) ∨ (¬ (0 ≤ x ∧ x < (M.2.2.1.length : Int)) ∧ r = iI 0 ∧ u = 1)) (fun u : Int => [(m0, .inr (5, [.ref a0, .ref p0, .int (iI ho), .ref q0, .ref v0, .int (iI u), .ref t0, .int (iI tl)])), (a0, .inl (cy 0, 144, .inl G))]) := by
  refine Ci_of (cc := cX5_foundPlace) (maxL := 2) (ret := (some .int)) (by decide) rfl rfl ?_
  intro p e s m args below meth c A hx hb hr hts hown hlocks hml hP hK hD hT hA ls hl
  have hS : va_S A s.heap s.heap [] := va_S.rf
  have hl : lv_has ls 2 [(0, .ref m0), (1, .int (iI x))] := hl
  have hiX5 : ∀ w ∈ wsX50, w ∈ wsX5_foundPlace := by decide +kernel
  obtain ⟨h0, h1L, h61, h62W, h78, h79, h80, h81, h82, h83, h84F⟩ := id hG
  obtain ⟨o1, o2, o3, o4, o5, o6, o7, o8, o9, o10, o11, o12, o13, o14, o15⟩ := id hM
  refine lv_iload_n hx hb dX5_foundPlace_0 rfl (lv_at hl 1 rfl) ?_
  refine z_i2l hx hb (iI_l (by omega) (by omega)) dX5_foundPlace_1 ?_
  refine lv_lconst (v := lI 0) hx hb dX5_foundPlace_2 rfl ?_
  refine lv_aload_n hx hb dX5_foundPlace_3 rfl (lv_at hl 0 rfl) ?_
  refine va_get (D := D) (ci := 5) (v := .ref a0) (C := RX5) (T := TX5) (N := 8) hx hb hts hiX5 hown hK hP 0 rfl rfl 0 (by decide) (hts (.fieldLink RX5 7 "BackwardSearchModel" "all" "[I") (by decide +kernel)) (fun _ h9 => h9) rfl dX5_foundPlace_4 ?_
  refine lv_bipush (v := iI 83) hx hb dX5_foundPlace_7 (by decide +kernel) ?_
  refine z_iald hx hb hK hP 1 rfl (by omega) (by omega) (by omega) dX5_foundPlace_9 ?_
  refine z_top (show G (83 : Int).toNat = iI (M.2.2.1.length : Int) from by exact h83) ?_
  refine z_i2l hx hb (iI_l (by omega) (by omega)) dX5_foundPlace_10 ?_
  refine lv_lconst (v := lI 1) hx hb dX5_foundPlace_11 rfl ?_
  refine z_lsub hx hb dX5_foundPlace_12 ?_
  refine z_cSi (n := 3) (As := [.long (lI x), .long (lI 0), .long (lI ((M.2.2.1.length : Int) - 1))]) (rest := []) ⟨hx, hb, hml, hown, hts⟩ (c_X5_in l D cy x 0 ((M.2.2.1.length : Int) - 1) (by first | assumption | omega)) gX5_foundPlace_X5_in rfl (by decide +kernel) ⟨Nat.le_of_ble_eq_true rfl, Nat.le_of_ble_eq_true rfl⟩ hK hT hP hD hS hA [] rfl rfl (fun _ => rfl) rfl hl.1 rfl (Nat.le_of_ble_eq_true rfl) dX5_foundPlace_13 ⟨Nat.zero_le _, Nat.zero_le _⟩ (fun r_1 u_1 H locs hw_1 hP hD hS => ?_)
  have hw_1 : ((0 ≤ x ∧ x ≤ ((M.2.2.1.length : Int) - 1)) ∧ r_1 = iI 1) ∨ (¬ (0 ≤ x ∧ x ≤ ((M.2.2.1.length : Int) - 1)) ∧ r_1 = iI 0) := hw_1
  have hP : va_P D vwCl [(m0, .inr (5, [.ref a0, .ref p0, .int (iI ho), .ref q0, .ref v0, .int (iI th), .ref t0, .int (iI tl)])), (a0, .inl (cy 0, 144, .inl G))] H := hP
  have hD : va_D A [(m0, .inr (5, [.ref a0, .ref p0, .int (iI ho), .ref q0, .ref v0, .int (iI th), .ref t0, .int (iI tl)])), (a0, .inl (cy 0, 144, .inl G))] := hD
  rcases hw_1 with ⟨h_1, rfl⟩ | ⟨h_1, rfl⟩
  · --
    refine z_if_eq (tgt := 35) hx hb (iI_t (by omega) (by omega)) dX5_foundPlace_16 (by decide) (fun c2 => absurd c2 (by omega)) (fun _ => ?_)
    refine lv_aload_n hx hb dX5_foundPlace_19 rfl (lv_at hl 0 rfl) ?_
    refine lv_aload_n hx hb dX5_foundPlace_20 rfl (lv_at hl 0 rfl) ?_
    refine va_get (D := D) (ci := 5) (v := .ref a0) (C := RX5) (T := TX5) (N := 8) hx hb hts hiX5 hown hK hP 0 rfl rfl 0 (by decide) (hts (.fieldLink RX5 7 "BackwardSearchModel" "all" "[I") (by decide +kernel)) (fun _ h9 => h9) rfl dX5_foundPlace_21 ?_
    refine lv_bipush (v := iI 84) hx hb dX5_foundPlace_24 (by decide +kernel) ?_
    refine lv_iload_n hx hb dX5_foundPlace_26 rfl (lv_at hl 1 rfl) ?_
    refine z_add hx hb dX5_foundPlace_27 ?_
    refine z_iald hx hb hK hP 1 rfl (by omega) (by omega) (by omega) dX5_foundPlace_28 ?_
    refine z_top (show G (84 + x).toNat = G (84 + x).toNat from rfl) ?_
    refine z_cVi (n := 1) (b := m0) (As := [.int (G (84 + x).toNat)]) (rest := []) ⟨hx, hb, hml, hown, hts⟩ (c_X5_told l D cy m0 a0 p0 q0 v0 t0 ho th tl (G (84 + x).toNat) ) gX5_foundPlace_X5_told rfl (by decide +kernel) ⟨Nat.le_of_ble_eq_true rfl, Nat.le_of_ble_eq_true rfl⟩ hK hT hP hD hS hA [0] rfl rfl 0 5 rfl rfl rfl (fun _ => rfl) rfl hl.1 rfl (Nat.le_of_ble_eq_true rfl) dX5_foundPlace_29 ⟨Nat.zero_le _, Nat.zero_le _⟩ (fun r_3 u_3 H locs hw_3 hP hD hS => ?_)
    have hw_3 : r_3 = (G (84 + x).toNat) := hw_3
    have hP : va_P D vwCl [(m0, .inr (5, [.ref a0, .ref p0, .int (iI ho), .ref q0, .ref v0, .int (iI 0), .ref t0, .int (iI tl)])), (a0, .inl (cy 0, 144, .inl G))] H := hP
    have hD : va_D A [(m0, .inr (5, [.ref a0, .ref p0, .int (iI ho), .ref q0, .ref v0, .int (iI 0), .ref t0, .int (iI tl)])), (a0, .inl (cy 0, 144, .inl G))] := hD
    obtain rfl := hw_3
    refine lv_goto (tgt := 40) hx hb dX5_foundPlace_32 (by decide) ?_
    exact z_iret hx hb hr hlocks hS (0) (show ((0 ≤ x ∧ x < (M.2.2.1.length : Int)) ∧ (G (84 + x).toNat) = gl M.2.2.1 x.toNat ∧ 0 = 0) ∨ (¬ (0 ≤ x ∧ x < (M.2.2.1.length : Int)) ∧ (G (84 + x).toNat) = iI 0 ∧ 0 = 1) from (by first | exact Or.inl ⟨by omega, (by rw [show (84 + x).toNat = 84 + x.toNat by omega]; exact h84F _ (by omega)), rfl⟩ | exact Or.inr ⟨by omega, rfl, rfl⟩)) hP dX5_foundPlace_40
  · --
    refine z_if_eq (tgt := 35) hx hb (iI_t (by omega) (by omega)) dX5_foundPlace_16 (by decide) (fun _ => ?_) (fun c4 => absurd c4 (by omega))
    refine lv_aload_n hx hb dX5_foundPlace_35 rfl (lv_at hl 0 rfl) ?_
    refine lv_iconst (v := iI 1) hx hb dX5_foundPlace_36 rfl ?_
    refine z_cVi (n := 1) (b := m0) (As := [.int (iI 1)]) (rest := []) ⟨hx, hb, hml, hown, hts⟩ (c_X5_fails l D cy m0 a0 p0 q0 v0 t0 ho th tl 1 ) gX5_foundPlace_X5_fails rfl (by decide +kernel) ⟨Nat.le_of_ble_eq_true rfl, Nat.le_of_ble_eq_true rfl⟩ hK hT hP hD hS hA [0] rfl rfl 0 5 rfl rfl rfl (fun _ => rfl) rfl hl.1 rfl (Nat.le_of_ble_eq_true rfl) dX5_foundPlace_37 ⟨Nat.zero_le _, Nat.zero_le _⟩ (fun r_5 u_5 H locs hw_5 hP hD hS => ?_)
    have hw_5 : r_5 = iI 0 := hw_5
    have hP : va_P D vwCl [(m0, .inr (5, [.ref a0, .ref p0, .int (iI ho), .ref q0, .ref v0, .int (iI 1), .ref t0, .int (iI tl)])), (a0, .inl (cy 0, 144, .inl G))] H := hP
    have hD : va_D A [(m0, .inr (5, [.ref a0, .ref p0, .int (iI ho), .ref q0, .ref v0, .int (iI 1), .ref t0, .int (iI tl)])), (a0, .inl (cy 0, 144, .inl G))] := hD
    obtain rfl := hw_5
    exact z_iret hx hb hr hlocks hS (1) (show ((0 ≤ x ∧ x < (M.2.2.1.length : Int)) ∧ (iI 0) = gl M.2.2.1 x.toNat ∧ 1 = 0) ∨ (¬ (0 ≤ x ∧ x < (M.2.2.1.length : Int)) ∧ (iI 0) = iI 0 ∧ 1 = 1) from (by first | exact Or.inl ⟨by omega, (by rw [show (84 + x).toNat = 84 + x.toNat by omega]; exact h84F _ (by omega)), rfl⟩ | exact Or.inr ⟨by omega, rfl, rfl⟩)) hP dX5_foundPlace_40
set_option maxHeartbeats 4000000 in
set_option maxRecDepth 100000 in
theorem c_X5_isOver (l : Launch) (D : va_G) (cy : Nat → ClassId) (m0 : Nat) (a0 : Nat) (p0 : Nat) (q0 : Nat) (v0 : Nat) (t0 : Nat) (ho : Int) (th : Int) (tl : Int) (G : Nat → Int32) (M : MS) (hG : RG G M) (hM : MOk M) : Ci l D cy yX5_isOver wsX5_isOver 1 21 [.ref m0] [(m0, .inr (5, [.ref a0, .ref p0, .int (iI ho), .ref q0, .ref v0, .int (iI th), .ref t0, .int (iI tl)])), (a0, .inl (cy 0, 144, .inl G))] (fun (r : Int32) (u : Unit) => ((mOver M) ∧ r = iI 1) ∨ (¬ (mOver M) ∧ r = iI 0)) (fun u : Unit => [(m0, .inr (5, [.ref a0, .ref p0, .int (iI ho), .ref q0, .ref v0, .int (iI 0), .ref t0, .int (iI tl)])), (a0, .inl (cy 0, 144, .inl G))]) := by
  refine Ci_of (cc := cX5_isOver) (maxL := 1) (ret := (some .boolean)) (by decide) rfl rfl ?_
  intro p e s m args below meth c A hx hb hr hts hown hlocks hml hP hK hD hT hA ls hl
  have hS : va_S A s.heap s.heap [] := va_S.rf
  have hl : lv_has ls 1 [(0, .ref m0)] := hl
  have hiX5 : ∀ w ∈ wsX50, w ∈ wsX5_isOver := by decide +kernel
  obtain ⟨h0, h1L, h61, h62W, h78, h79, h80, h81, h82, h83, h84F⟩ := id hG
  obtain ⟨o1, o2, o3, o4, o5, o6, o7, o8, o9, o10, o11, o12, o13, o14, o15⟩ := id hM
  refine lv_aload_n hx hb dX5_isOver_0 rfl (lv_at hl 0 rfl) ?_
  refine lv_iconst (v := iI 0) hx hb dX5_isOver_1 rfl ?_
  refine va_put (D := D) (ci := 5) (v := .int (iI 0)) (ty := .int) (C := RX5) (T := TX5) (N := 8) hx hb hts hiX5 tyX5 tyX5_ok nmX5 hown hK hP hD hS 0 rfl rfl 5 (by decide) (hts (.fieldLink RX5 25 "BackwardSearchModel" "thrown" "I") (by decide +kernel)) (fun _ h9 => h9) rfl (by decide +kernel) rfl rfl (Nat.le_of_ble_eq_true rfl) dX5_isOver_2 (fun H locs hP hD hS => ?_)
  have hP : va_P D vwCl [(m0, .inr (5, [.ref a0, .ref p0, .int (iI ho), .ref q0, .ref v0, .int (iI 0), .ref t0, .int (iI tl)])), (a0, .inl (cy 0, 144, .inl G))] H := hP
  have hD : va_D A [(m0, .inr (5, [.ref a0, .ref p0, .int (iI ho), .ref q0, .ref v0, .int (iI 0), .ref t0, .int (iI tl)])), (a0, .inl (cy 0, 144, .inl G))] := hD
  refine lv_aload_n hx hb dX5_isOver_5 rfl (lv_at hl 0 rfl) ?_
  refine lv_aload_n hx hb dX5_isOver_6 rfl (lv_at hl 0 rfl) ?_
  refine va_get (D := D) (ci := 5) (v := .ref a0) (C := RX5) (T := TX5) (N := 8) hx hb hts hiX5 hown hK hP 0 rfl rfl 0 (by decide) (hts (.fieldLink RX5 7 "BackwardSearchModel" "all" "[I") (by decide +kernel)) (fun _ h9 => h9) rfl dX5_isOver_7 ?_
  refine lv_bipush (v := iI 80) hx hb dX5_isOver_10 (by decide +kernel) ?_
  refine z_iald hx hb hK hP 1 rfl (by omega) (by omega) (by omega) dX5_isOver_12 ?_
  refine z_top (show G (80 : Int).toNat = iI M.2.2.2.2.2.1 from by exact h80) ?_
  refine z_cVi (n := 1) (b := m0) (As := [.int (iI M.2.2.2.2.2.1)]) (rest := []) ⟨hx, hb, hml, hown, hts⟩ (c_X5_isOverAt l D cy m0 a0 p0 q0 v0 t0 ho 0 tl G (M.2.1.length : Int) (M.1.length : Int) M.2.2.2.2.2.1 (by first | assumption | omega) (by first | assumption | omega) (by first | assumption | omega) (by first | assumption | omega) (by first | assumption | omega)) gX5_isOver_X5_isOverAt rfl (by decide +kernel) ⟨Nat.le_of_ble_eq_true rfl, Nat.le_of_ble_eq_true rfl⟩ hK hT hP hD hS hA [0, 1] rfl rfl 0 5 rfl rfl rfl (fun _ => rfl) rfl hl.1 rfl (Nat.le_of_ble_eq_true rfl) dX5_isOver_13 ⟨Nat.zero_le _, Nat.zero_le _⟩ (fun r_1 u_1 H locs hw_1 hP hD hS => ?_)
  have hw_1 : (((M.2.1.length : Int) = 0 ∨ (M.1.length : Int) - (M.2.1.length : Int) + 1 ≤ M.2.2.2.2.2.1) ∧ r_1 = iI 1) ∨ (¬ ((M.2.1.length : Int) = 0 ∨ (M.1.length : Int) - (M.2.1.length : Int) + 1 ≤ M.2.2.2.2.2.1) ∧ r_1 = iI 0) := hw_1
  have hP : va_P D vwCl [(m0, .inr (5, [.ref a0, .ref p0, .int (iI ho), .ref q0, .ref v0, .int (iI 0), .ref t0, .int (iI tl)])), (a0, .inl (cy 0, 144, .inl G))] H := hP
  have hD : va_D A [(m0, .inr (5, [.ref a0, .ref p0, .int (iI ho), .ref q0, .ref v0, .int (iI 0), .ref t0, .int (iI tl)])), (a0, .inl (cy 0, 144, .inl G))] := hD
  rcases hw_1 with ⟨h_1, rfl⟩ | ⟨h_1, rfl⟩
  · --
    exact z_zret hx hb hr hlocks (by decide +kernel) hS () (show ((mOver M) ∧ (iI 1) = iI 1) ∨ (¬ (mOver M) ∧ (iI 1) = iI 0) from (by first | exact Or.inl ⟨by assumption, rfl⟩ | exact Or.inr ⟨by assumption, rfl⟩)) hP dX5_isOver_16
  · --
    exact z_zret hx hb hr hlocks (by decide +kernel) hS () (show ((mOver M) ∧ (iI 0) = iI 1) ∨ (¬ (mOver M) ∧ (iI 0) = iI 0) from (by first | exact Or.inl ⟨by assumption, rfl⟩ | exact Or.inr ⟨by assumption, rfl⟩)) hP dX5_isOver_16
set_option maxHeartbeats 4000000 in
set_option maxRecDepth 100000 in
theorem c_X5_skippedPlaces (l : Launch) (D : va_G) (cy : Nat → ClassId) (m0 : Nat) (a0 : Nat) (p0 : Nat) (q0 : Nat) (v0 : Nat) (t0 : Nat) (ho : Int) (th : Int) (tl : Int) (G : Nat → Int32) (M : MS) (hG : RG G M) (hM : MOk M) : Ci l D cy yX5_skippedPlaces wsX5_skippedPlaces 1 21 [.ref m0] [(m0, .inr (5, [.ref a0, .ref p0, .int (iI ho), .ref q0, .ref v0, .int (iI th), .ref t0, .int (iI tl)])), (a0, .inl (cy 0, 144, .inl G))] (fun (r : Int32) (u : Unit) => r = iI (min M.2.2.2.2.2.1 (max ((M.1.length : Int) - (M.2.1.length : Int) + 1) 0) - M.2.2.2.2.2.2.1)) (fun u : Unit => [(m0, .inr (5, [.ref a0, .ref p0, .int (iI ho), .ref q0, .ref v0, .int (iI 0), .ref t0, .int (iI tl)])), (a0, .inl (cy 0, 144, .inl G))]) := by
  refine Ci_of (cc := cX5_skippedPlaces) (maxL := 3) (ret := (some .int)) (by decide) rfl rfl ?_
  intro p e s m args below meth c A hx hb hr hts hown hlocks hml hP hK hD hT hA ls hl
  have hS : va_S A s.heap s.heap [] := va_S.rf
  have hl : lv_has ls 3 [(0, .ref m0)] := hl
  have hiX5 : ∀ w ∈ wsX50, w ∈ wsX5_skippedPlaces := by decide +kernel
  obtain ⟨h0, h1L, h61, h62W, h78, h79, h80, h81, h82, h83, h84F⟩ := id hG
  obtain ⟨o1, o2, o3, o4, o5, o6, o7, o8, o9, o10, o11, o12, o13, o14, o15⟩ := id hM
  refine lv_aload_n hx hb dX5_skippedPlaces_0 rfl (lv_at hl 0 rfl) ?_
  refine va_get (D := D) (ci := 5) (v := .ref a0) (C := RX5) (T := TX5) (N := 8) hx hb hts hiX5 hown hK hP 0 rfl rfl 0 (by decide) (hts (.fieldLink RX5 7 "BackwardSearchModel" "all" "[I") (by decide +kernel)) (fun _ h9 => h9) rfl dX5_skippedPlaces_1 ?_
  refine lv_bipush (v := iI 61) hx hb dX5_skippedPlaces_4 (by decide +kernel) ?_
  refine z_iald hx hb hK hP 1 rfl (by omega) (by omega) (by omega) dX5_skippedPlaces_6 ?_
  refine z_top (show G (61 : Int).toNat = iI (M.2.1.length : Int) from by exact h61) ?_
  refine z_if_ne (tgt := 14) hx hb (iI_t (by omega) (by omega)) dX5_skippedPlaces_7 (by decide) (fun c1 => ?_) (fun c1 => ?_)
  · --
    refine lv_aload_n hx hb dX5_skippedPlaces_14 rfl (lv_at hl 0 rfl) ?_
    refine va_get (D := D) (ci := 5) (v := .ref a0) (C := RX5) (T := TX5) (N := 8) hx hb hts hiX5 hown hK hP 0 rfl rfl 0 (by decide) (hts (.fieldLink RX5 7 "BackwardSearchModel" "all" "[I") (by decide +kernel)) (fun _ h9 => h9) rfl dX5_skippedPlaces_15 ?_
    refine lv_iconst (v := iI 0) hx hb dX5_skippedPlaces_18 rfl ?_
    refine z_iald hx hb hK hP 1 rfl (by omega) (by omega) (by omega) dX5_skippedPlaces_19 ?_
    refine z_top (show G (0 : Int).toNat = iI (M.1.length : Int) from by exact h0) ?_
    refine lv_aload_n hx hb dX5_skippedPlaces_20 rfl (lv_at hl 0 rfl) ?_
    refine va_get (D := D) (ci := 5) (v := .ref a0) (C := RX5) (T := TX5) (N := 8) hx hb hts hiX5 hown hK hP 0 rfl rfl 0 (by decide) (hts (.fieldLink RX5 7 "BackwardSearchModel" "all" "[I") (by decide +kernel)) (fun _ h9 => h9) rfl dX5_skippedPlaces_21 ?_
    refine lv_bipush (v := iI 61) hx hb dX5_skippedPlaces_24 (by decide +kernel) ?_
    refine z_iald hx hb hK hP 1 rfl (by omega) (by omega) (by omega) dX5_skippedPlaces_26 ?_
    refine z_top (show G (61 : Int).toNat = iI (M.2.1.length : Int) from by exact h61) ?_
    refine z_sub hx hb dX5_skippedPlaces_27 ?_
    refine lv_iconst (v := iI 1) hx hb dX5_skippedPlaces_28 rfl ?_
    refine z_add hx hb dX5_skippedPlaces_29 ?_
    refine lv_istore_n (lv' := [(1, .int (iI (((M.1.length : Int) - (M.2.1.length : Int)) + 1))), (0, .ref m0)]) hx hb dX5_skippedPlaces_30 rfl hl (by decide) rfl (fun ls hl => ?_)
    refine lv_aload_n hx hb dX5_skippedPlaces_31 rfl (lv_at hl 1 rfl) ?_
    refine va_get (D := D) (ci := 5) (v := .ref a0) (C := RX5) (T := TX5) (N := 8) hx hb hts hiX5 hown hK hP 0 rfl rfl 0 (by decide) (hts (.fieldLink RX5 7 "BackwardSearchModel" "all" "[I") (by decide +kernel)) (fun _ h9 => h9) rfl dX5_skippedPlaces_32 ?_
    refine lv_bipush (v := iI 80) hx hb dX5_skippedPlaces_35 (by decide +kernel) ?_
    refine z_iald hx hb hK hP 1 rfl (by omega) (by omega) (by omega) dX5_skippedPlaces_37 ?_
    refine z_top (show G (80 : Int).toNat = iI M.2.2.2.2.2.1 from by exact h80) ?_
    refine lv_iload_n hx hb dX5_skippedPlaces_38 rfl (lv_at hl 0 rfl) ?_
    refine z_icmp_ge (tgt := 52) hx hb (iI_t (by omega) (by omega)) (iI_t (by omega) (by omega)) dX5_skippedPlaces_39 (by decide) (fun c2 => ?_) (fun c2 => ?_)
    · --
      refine lv_iload_n hx hb dX5_skippedPlaces_52 rfl (lv_at hl 0 rfl) ?_
      refine lv_istore_n (lv' := [(2, .int (iI (((M.1.length : Int) - (M.2.1.length : Int)) + 1))), (1, .int (iI (((M.1.length : Int) - (M.2.1.length : Int)) + 1))), (0, .ref m0)]) hx hb dX5_skippedPlaces_53 rfl hl (by decide) rfl (fun ls hl => ?_)
      refine lv_aload_n hx hb dX5_skippedPlaces_54 rfl (lv_at hl 2 rfl) ?_
      refine lv_iload_n hx hb dX5_skippedPlaces_55 rfl (lv_at hl 0 rfl) ?_
      refine z_if_ge (tgt := 63) hx hb (iI_t (by omega) (by omega)) dX5_skippedPlaces_56 (by decide) (fun c3 => ?_) (fun c3 => ?_)
      · --
        refine lv_iload_n hx hb dX5_skippedPlaces_63 rfl (lv_at hl 0 rfl) ?_
        refine lv_aload_n hx hb dX5_skippedPlaces_64 rfl (lv_at hl 2 rfl) ?_
        refine va_get (D := D) (ci := 5) (v := .ref a0) (C := RX5) (T := TX5) (N := 8) hx hb hts hiX5 hown hK hP 0 rfl rfl 0 (by decide) (hts (.fieldLink RX5 7 "BackwardSearchModel" "all" "[I") (by decide +kernel)) (fun _ h9 => h9) rfl dX5_skippedPlaces_65 ?_
        refine lv_bipush (v := iI 81) hx hb dX5_skippedPlaces_68 (by decide +kernel) ?_
        refine z_iald hx hb hK hP 1 rfl (by omega) (by omega) (by omega) dX5_skippedPlaces_70 ?_
        refine z_top (show G (81 : Int).toNat = iI M.2.2.2.2.2.2.1 from by exact h81) ?_
        refine z_sub hx hb dX5_skippedPlaces_71 ?_
        refine z_cVi (n := 1) (b := m0) (As := [.int (iI ((((M.1.length : Int) - (M.2.1.length : Int)) + 1) - M.2.2.2.2.2.2.1))]) (rest := []) ⟨hx, hb, hml, hown, hts⟩ (c_X5_told l D cy m0 a0 p0 q0 v0 t0 ho th tl (iI ((((M.1.length : Int) - (M.2.1.length : Int)) + 1) - M.2.2.2.2.2.2.1)) ) gX5_skippedPlaces_X5_told rfl (by decide +kernel) ⟨Nat.le_of_ble_eq_true rfl, Nat.le_of_ble_eq_true rfl⟩ hK hT hP hD hS hA [0] rfl rfl 0 5 rfl rfl rfl (fun _ => rfl) rfl hl.1 rfl (Nat.le_of_ble_eq_true rfl) dX5_skippedPlaces_72 ⟨Nat.zero_le _, Nat.zero_le _⟩ (fun r_4 u_4 H locs hw_4 hP hD hS => ?_)
        have hw_4 : r_4 = (iI ((((M.1.length : Int) - (M.2.1.length : Int)) + 1) - M.2.2.2.2.2.2.1)) := hw_4
        have hP : va_P D vwCl [(m0, .inr (5, [.ref a0, .ref p0, .int (iI ho), .ref q0, .ref v0, .int (iI 0), .ref t0, .int (iI tl)])), (a0, .inl (cy 0, 144, .inl G))] H := hP
        have hD : va_D A [(m0, .inr (5, [.ref a0, .ref p0, .int (iI ho), .ref q0, .ref v0, .int (iI 0), .ref t0, .int (iI tl)])), (a0, .inl (cy 0, 144, .inl G))] := hD
        obtain rfl := hw_4
        exact z_iret hx hb hr hlocks hS () (show (iI ((((M.1.length : Int) - (M.2.1.length : Int)) + 1) - M.2.2.2.2.2.2.1)) = iI (min M.2.2.2.2.2.1 (max ((M.1.length : Int) - (M.2.1.length : Int) + 1) 0) - M.2.2.2.2.2.2.1) from (congrArg iI (by omega))) hP dX5_skippedPlaces_75
      · --
        refine lv_iconst (v := iI 0) hx hb dX5_skippedPlaces_59 rfl ?_
        refine lv_goto (tgt := 72) hx hb dX5_skippedPlaces_60 (by decide) ?_
        refine z_cVi (n := 1) (b := m0) (As := [.int (iI 0)]) (rest := []) ⟨hx, hb, hml, hown, hts⟩ (c_X5_told l D cy m0 a0 p0 q0 v0 t0 ho th tl (iI 0) ) gX5_skippedPlaces_X5_told rfl (by decide +kernel) ⟨Nat.le_of_ble_eq_true rfl, Nat.le_of_ble_eq_true rfl⟩ hK hT hP hD hS hA [0] rfl rfl 0 5 rfl rfl rfl (fun _ => rfl) rfl hl.1 rfl (Nat.le_of_ble_eq_true rfl) dX5_skippedPlaces_72 ⟨Nat.zero_le _, Nat.zero_le _⟩ (fun r_5 u_5 H locs hw_5 hP hD hS => ?_)
        have hw_5 : r_5 = (iI 0) := hw_5
        have hP : va_P D vwCl [(m0, .inr (5, [.ref a0, .ref p0, .int (iI ho), .ref q0, .ref v0, .int (iI 0), .ref t0, .int (iI tl)])), (a0, .inl (cy 0, 144, .inl G))] H := hP
        have hD : va_D A [(m0, .inr (5, [.ref a0, .ref p0, .int (iI ho), .ref q0, .ref v0, .int (iI 0), .ref t0, .int (iI tl)])), (a0, .inl (cy 0, 144, .inl G))] := hD
        obtain rfl := hw_5
        exact z_iret hx hb hr hlocks hS () (show (iI 0) = iI (min M.2.2.2.2.2.1 (max ((M.1.length : Int) - (M.2.1.length : Int) + 1) 0) - M.2.2.2.2.2.2.1) from (congrArg iI (by omega))) hP dX5_skippedPlaces_75
    · --
      refine lv_aload_n hx hb dX5_skippedPlaces_42 rfl (lv_at hl 1 rfl) ?_
      refine va_get (D := D) (ci := 5) (v := .ref a0) (C := RX5) (T := TX5) (N := 8) hx hb hts hiX5 hown hK hP 0 rfl rfl 0 (by decide) (hts (.fieldLink RX5 7 "BackwardSearchModel" "all" "[I") (by decide +kernel)) (fun _ h9 => h9) rfl dX5_skippedPlaces_43 ?_
      refine lv_bipush (v := iI 80) hx hb dX5_skippedPlaces_46 (by decide +kernel) ?_
      refine z_iald hx hb hK hP 1 rfl (by omega) (by omega) (by omega) dX5_skippedPlaces_48 ?_
      refine z_top (show G (80 : Int).toNat = iI M.2.2.2.2.2.1 from by exact h80) ?_
      refine lv_goto (tgt := 53) hx hb dX5_skippedPlaces_49 (by decide) ?_
      refine lv_istore_n (lv' := [(2, .int (iI M.2.2.2.2.2.1)), (1, .int (iI (((M.1.length : Int) - (M.2.1.length : Int)) + 1))), (0, .ref m0)]) hx hb dX5_skippedPlaces_53 rfl hl (by decide) rfl (fun ls hl => ?_)
      refine lv_aload_n hx hb dX5_skippedPlaces_54 rfl (lv_at hl 2 rfl) ?_
      refine lv_iload_n hx hb dX5_skippedPlaces_55 rfl (lv_at hl 0 rfl) ?_
      refine z_if_ge (tgt := 63) hx hb (iI_t (by omega) (by omega)) dX5_skippedPlaces_56 (by decide) (fun c6 => ?_) (fun c6 => ?_)
      · --
        refine lv_iload_n hx hb dX5_skippedPlaces_63 rfl (lv_at hl 0 rfl) ?_
        refine lv_aload_n hx hb dX5_skippedPlaces_64 rfl (lv_at hl 2 rfl) ?_
        refine va_get (D := D) (ci := 5) (v := .ref a0) (C := RX5) (T := TX5) (N := 8) hx hb hts hiX5 hown hK hP 0 rfl rfl 0 (by decide) (hts (.fieldLink RX5 7 "BackwardSearchModel" "all" "[I") (by decide +kernel)) (fun _ h9 => h9) rfl dX5_skippedPlaces_65 ?_
        refine lv_bipush (v := iI 81) hx hb dX5_skippedPlaces_68 (by decide +kernel) ?_
        refine z_iald hx hb hK hP 1 rfl (by omega) (by omega) (by omega) dX5_skippedPlaces_70 ?_
        refine z_top (show G (81 : Int).toNat = iI M.2.2.2.2.2.2.1 from by exact h81) ?_
        refine z_sub hx hb dX5_skippedPlaces_71 ?_
        refine z_cVi (n := 1) (b := m0) (As := [.int (iI (M.2.2.2.2.2.1 - M.2.2.2.2.2.2.1))]) (rest := []) ⟨hx, hb, hml, hown, hts⟩ (c_X5_told l D cy m0 a0 p0 q0 v0 t0 ho th tl (iI (M.2.2.2.2.2.1 - M.2.2.2.2.2.2.1)) ) gX5_skippedPlaces_X5_told rfl (by decide +kernel) ⟨Nat.le_of_ble_eq_true rfl, Nat.le_of_ble_eq_true rfl⟩ hK hT hP hD hS hA [0] rfl rfl 0 5 rfl rfl rfl (fun _ => rfl) rfl hl.1 rfl (Nat.le_of_ble_eq_true rfl) dX5_skippedPlaces_72 ⟨Nat.zero_le _, Nat.zero_le _⟩ (fun r_7 u_7 H locs hw_7 hP hD hS => ?_)
        have hw_7 : r_7 = (iI (M.2.2.2.2.2.1 - M.2.2.2.2.2.2.1)) := hw_7
        have hP : va_P D vwCl [(m0, .inr (5, [.ref a0, .ref p0, .int (iI ho), .ref q0, .ref v0, .int (iI 0), .ref t0, .int (iI tl)])), (a0, .inl (cy 0, 144, .inl G))] H := hP
        have hD : va_D A [(m0, .inr (5, [.ref a0, .ref p0, .int (iI ho), .ref q0, .ref v0, .int (iI 0), .ref t0, .int (iI tl)])), (a0, .inl (cy 0, 144, .inl G))] := hD
        obtain rfl := hw_7
        exact z_iret hx hb hr hlocks hS () (show (iI (M.2.2.2.2.2.1 - M.2.2.2.2.2.2.1)) = iI (min M.2.2.2.2.2.1 (max ((M.1.length : Int) - (M.2.1.length : Int) + 1) 0) - M.2.2.2.2.2.2.1) from (congrArg iI (by omega))) hP dX5_skippedPlaces_75
      · --
        refine lv_iconst (v := iI 0) hx hb dX5_skippedPlaces_59 rfl ?_
        refine lv_goto (tgt := 72) hx hb dX5_skippedPlaces_60 (by decide) ?_
        refine z_cVi (n := 1) (b := m0) (As := [.int (iI 0)]) (rest := []) ⟨hx, hb, hml, hown, hts⟩ (c_X5_told l D cy m0 a0 p0 q0 v0 t0 ho th tl (iI 0) ) gX5_skippedPlaces_X5_told rfl (by decide +kernel) ⟨Nat.le_of_ble_eq_true rfl, Nat.le_of_ble_eq_true rfl⟩ hK hT hP hD hS hA [0] rfl rfl 0 5 rfl rfl rfl (fun _ => rfl) rfl hl.1 rfl (Nat.le_of_ble_eq_true rfl) dX5_skippedPlaces_72 ⟨Nat.zero_le _, Nat.zero_le _⟩ (fun r_8 u_8 H locs hw_8 hP hD hS => ?_)
        have hw_8 : r_8 = (iI 0) := hw_8
        have hP : va_P D vwCl [(m0, .inr (5, [.ref a0, .ref p0, .int (iI ho), .ref q0, .ref v0, .int (iI 0), .ref t0, .int (iI tl)])), (a0, .inl (cy 0, 144, .inl G))] H := hP
        have hD : va_D A [(m0, .inr (5, [.ref a0, .ref p0, .int (iI ho), .ref q0, .ref v0, .int (iI 0), .ref t0, .int (iI tl)])), (a0, .inl (cy 0, 144, .inl G))] := hD
        obtain rfl := hw_8
        exact z_iret hx hb hr hlocks hS () (show (iI 0) = iI (min M.2.2.2.2.2.1 (max ((M.1.length : Int) - (M.2.1.length : Int) + 1) 0) - M.2.2.2.2.2.2.1) from (congrArg iI (by omega))) hP dX5_skippedPlaces_75
  · --
    refine lv_iconst (v := iI 0) hx hb dX5_skippedPlaces_10 rfl ?_
    refine lv_goto (tgt := 30) hx hb dX5_skippedPlaces_11 (by decide) ?_
    refine lv_istore_n (lv' := [(1, .int (iI 0)), (0, .ref m0)]) hx hb dX5_skippedPlaces_30 rfl hl (by decide) rfl (fun ls hl => ?_)
    refine lv_aload_n hx hb dX5_skippedPlaces_31 rfl (lv_at hl 1 rfl) ?_
    refine va_get (D := D) (ci := 5) (v := .ref a0) (C := RX5) (T := TX5) (N := 8) hx hb hts hiX5 hown hK hP 0 rfl rfl 0 (by decide) (hts (.fieldLink RX5 7 "BackwardSearchModel" "all" "[I") (by decide +kernel)) (fun _ h9 => h9) rfl dX5_skippedPlaces_32 ?_
    refine lv_bipush (v := iI 80) hx hb dX5_skippedPlaces_35 (by decide +kernel) ?_
    refine z_iald hx hb hK hP 1 rfl (by omega) (by omega) (by omega) dX5_skippedPlaces_37 ?_
    refine z_top (show G (80 : Int).toNat = iI M.2.2.2.2.2.1 from by exact h80) ?_
    refine lv_iload_n hx hb dX5_skippedPlaces_38 rfl (lv_at hl 0 rfl) ?_
    refine z_icmp_ge (tgt := 52) hx hb (iI_t (by omega) (by omega)) (iI_t (by omega) (by omega)) dX5_skippedPlaces_39 (by decide) (fun c9 => ?_) (fun c9 => ?_)
    · --
      refine lv_iload_n hx hb dX5_skippedPlaces_52 rfl (lv_at hl 0 rfl) ?_
      refine lv_istore_n (lv' := [(2, .int (iI 0)), (1, .int (iI 0)), (0, .ref m0)]) hx hb dX5_skippedPlaces_53 rfl hl (by decide) rfl (fun ls hl => ?_)
      refine lv_aload_n hx hb dX5_skippedPlaces_54 rfl (lv_at hl 2 rfl) ?_
      refine lv_iload_n hx hb dX5_skippedPlaces_55 rfl (lv_at hl 0 rfl) ?_
      refine z_if_ge (tgt := 63) hx hb (iI_t (by omega) (by omega)) dX5_skippedPlaces_56 (by decide) (fun _ => ?_) (fun c10 => absurd c10 (by omega))
      refine lv_iload_n hx hb dX5_skippedPlaces_63 rfl (lv_at hl 0 rfl) ?_
      refine lv_aload_n hx hb dX5_skippedPlaces_64 rfl (lv_at hl 2 rfl) ?_
      refine va_get (D := D) (ci := 5) (v := .ref a0) (C := RX5) (T := TX5) (N := 8) hx hb hts hiX5 hown hK hP 0 rfl rfl 0 (by decide) (hts (.fieldLink RX5 7 "BackwardSearchModel" "all" "[I") (by decide +kernel)) (fun _ h9 => h9) rfl dX5_skippedPlaces_65 ?_
      refine lv_bipush (v := iI 81) hx hb dX5_skippedPlaces_68 (by decide +kernel) ?_
      refine z_iald hx hb hK hP 1 rfl (by omega) (by omega) (by omega) dX5_skippedPlaces_70 ?_
      refine z_top (show G (81 : Int).toNat = iI M.2.2.2.2.2.2.1 from by exact h81) ?_
      refine z_sub hx hb dX5_skippedPlaces_71 ?_
      refine z_cVi (n := 1) (b := m0) (As := [.int (iI (0 - M.2.2.2.2.2.2.1))]) (rest := []) ⟨hx, hb, hml, hown, hts⟩ (c_X5_told l D cy m0 a0 p0 q0 v0 t0 ho th tl (iI (0 - M.2.2.2.2.2.2.1)) ) gX5_skippedPlaces_X5_told rfl (by decide +kernel) ⟨Nat.le_of_ble_eq_true rfl, Nat.le_of_ble_eq_true rfl⟩ hK hT hP hD hS hA [0] rfl rfl 0 5 rfl rfl rfl (fun _ => rfl) rfl hl.1 rfl (Nat.le_of_ble_eq_true rfl) dX5_skippedPlaces_72 ⟨Nat.zero_le _, Nat.zero_le _⟩ (fun r_11 u_11 H locs hw_11 hP hD hS => ?_)
      have hw_11 : r_11 = (iI (0 - M.2.2.2.2.2.2.1)) := hw_11
      have hP : va_P D vwCl [(m0, .inr (5, [.ref a0, .ref p0, .int (iI ho), .ref q0, .ref v0, .int (iI 0), .ref t0, .int (iI tl)])), (a0, .inl (cy 0, 144, .inl G))] H := hP
      have hD : va_D A [(m0, .inr (5, [.ref a0, .ref p0, .int (iI ho), .ref q0, .ref v0, .int (iI 0), .ref t0, .int (iI tl)])), (a0, .inl (cy 0, 144, .inl G))] := hD
      obtain rfl := hw_11
      exact z_iret hx hb hr hlocks hS () (show (iI (0 - M.2.2.2.2.2.2.1)) = iI (min M.2.2.2.2.2.1 (max ((M.1.length : Int) - (M.2.1.length : Int) + 1) 0) - M.2.2.2.2.2.2.1) from (congrArg iI (by omega))) hP dX5_skippedPlaces_75
    · --
      refine lv_aload_n hx hb dX5_skippedPlaces_42 rfl (lv_at hl 1 rfl) ?_
      refine va_get (D := D) (ci := 5) (v := .ref a0) (C := RX5) (T := TX5) (N := 8) hx hb hts hiX5 hown hK hP 0 rfl rfl 0 (by decide) (hts (.fieldLink RX5 7 "BackwardSearchModel" "all" "[I") (by decide +kernel)) (fun _ h9 => h9) rfl dX5_skippedPlaces_43 ?_
      refine lv_bipush (v := iI 80) hx hb dX5_skippedPlaces_46 (by decide +kernel) ?_
      refine z_iald hx hb hK hP 1 rfl (by omega) (by omega) (by omega) dX5_skippedPlaces_48 ?_
      refine z_top (show G (80 : Int).toNat = iI M.2.2.2.2.2.1 from by exact h80) ?_
      refine lv_goto (tgt := 53) hx hb dX5_skippedPlaces_49 (by decide) ?_
      refine lv_istore_n (lv' := [(2, .int (iI M.2.2.2.2.2.1)), (1, .int (iI 0)), (0, .ref m0)]) hx hb dX5_skippedPlaces_53 rfl hl (by decide) rfl (fun ls hl => ?_)
      refine lv_aload_n hx hb dX5_skippedPlaces_54 rfl (lv_at hl 2 rfl) ?_
      refine lv_iload_n hx hb dX5_skippedPlaces_55 rfl (lv_at hl 0 rfl) ?_
      refine z_if_ge (tgt := 63) hx hb (iI_t (by omega) (by omega)) dX5_skippedPlaces_56 (by decide) (fun c12 => ?_) (fun c12 => ?_)
      · --
        refine lv_iload_n hx hb dX5_skippedPlaces_63 rfl (lv_at hl 0 rfl) ?_
        refine lv_aload_n hx hb dX5_skippedPlaces_64 rfl (lv_at hl 2 rfl) ?_
        refine va_get (D := D) (ci := 5) (v := .ref a0) (C := RX5) (T := TX5) (N := 8) hx hb hts hiX5 hown hK hP 0 rfl rfl 0 (by decide) (hts (.fieldLink RX5 7 "BackwardSearchModel" "all" "[I") (by decide +kernel)) (fun _ h9 => h9) rfl dX5_skippedPlaces_65 ?_
        refine lv_bipush (v := iI 81) hx hb dX5_skippedPlaces_68 (by decide +kernel) ?_
        refine z_iald hx hb hK hP 1 rfl (by omega) (by omega) (by omega) dX5_skippedPlaces_70 ?_
        refine z_top (show G (81 : Int).toNat = iI M.2.2.2.2.2.2.1 from by exact h81) ?_
        refine z_sub hx hb dX5_skippedPlaces_71 ?_
        refine z_cVi (n := 1) (b := m0) (As := [.int (iI (M.2.2.2.2.2.1 - M.2.2.2.2.2.2.1))]) (rest := []) ⟨hx, hb, hml, hown, hts⟩ (c_X5_told l D cy m0 a0 p0 q0 v0 t0 ho th tl (iI (M.2.2.2.2.2.1 - M.2.2.2.2.2.2.1)) ) gX5_skippedPlaces_X5_told rfl (by decide +kernel) ⟨Nat.le_of_ble_eq_true rfl, Nat.le_of_ble_eq_true rfl⟩ hK hT hP hD hS hA [0] rfl rfl 0 5 rfl rfl rfl (fun _ => rfl) rfl hl.1 rfl (Nat.le_of_ble_eq_true rfl) dX5_skippedPlaces_72 ⟨Nat.zero_le _, Nat.zero_le _⟩ (fun r_13 u_13 H locs hw_13 hP hD hS => ?_)
        have hw_13 : r_13 = (iI (M.2.2.2.2.2.1 - M.2.2.2.2.2.2.1)) := hw_13
        have hP : va_P D vwCl [(m0, .inr (5, [.ref a0, .ref p0, .int (iI ho), .ref q0, .ref v0, .int (iI 0), .ref t0, .int (iI tl)])), (a0, .inl (cy 0, 144, .inl G))] H := hP
        have hD : va_D A [(m0, .inr (5, [.ref a0, .ref p0, .int (iI ho), .ref q0, .ref v0, .int (iI 0), .ref t0, .int (iI tl)])), (a0, .inl (cy 0, 144, .inl G))] := hD
        obtain rfl := hw_13
        exact z_iret hx hb hr hlocks hS () (show (iI (M.2.2.2.2.2.1 - M.2.2.2.2.2.2.1)) = iI (min M.2.2.2.2.2.1 (max ((M.1.length : Int) - (M.2.1.length : Int) + 1) 0) - M.2.2.2.2.2.2.1) from (congrArg iI (by omega))) hP dX5_skippedPlaces_75
      · --
        refine lv_iconst (v := iI 0) hx hb dX5_skippedPlaces_59 rfl ?_
        refine lv_goto (tgt := 72) hx hb dX5_skippedPlaces_60 (by decide) ?_
        refine z_cVi (n := 1) (b := m0) (As := [.int (iI 0)]) (rest := []) ⟨hx, hb, hml, hown, hts⟩ (c_X5_told l D cy m0 a0 p0 q0 v0 t0 ho th tl (iI 0) ) gX5_skippedPlaces_X5_told rfl (by decide +kernel) ⟨Nat.le_of_ble_eq_true rfl, Nat.le_of_ble_eq_true rfl⟩ hK hT hP hD hS hA [0] rfl rfl 0 5 rfl rfl rfl (fun _ => rfl) rfl hl.1 rfl (Nat.le_of_ble_eq_true rfl) dX5_skippedPlaces_72 ⟨Nat.zero_le _, Nat.zero_le _⟩ (fun r_14 u_14 H locs hw_14 hP hD hS => ?_)
        have hw_14 : r_14 = (iI 0) := hw_14
        have hP : va_P D vwCl [(m0, .inr (5, [.ref a0, .ref p0, .int (iI ho), .ref q0, .ref v0, .int (iI 0), .ref t0, .int (iI tl)])), (a0, .inl (cy 0, 144, .inl G))] H := hP
        have hD : va_D A [(m0, .inr (5, [.ref a0, .ref p0, .int (iI ho), .ref q0, .ref v0, .int (iI 0), .ref t0, .int (iI tl)])), (a0, .inl (cy 0, 144, .inl G))] := hD
        obtain rfl := hw_14
        exact z_iret hx hb hr hlocks hS () (show (iI 0) = iI (min M.2.2.2.2.2.1 (max ((M.1.length : Int) - (M.2.1.length : Int) + 1) 0) - M.2.2.2.2.2.2.1) from (congrArg iI (by omega))) hP dX5_skippedPlaces_75
set_option maxHeartbeats 4000000 in
set_option maxRecDepth 100000 in
theorem c_X5_lastPlaceOf (l : Launch) (D : va_G) (cy : Nat → ClassId) (m0 : Nat) (a0 : Nat) (p0 : Nat) (q0 : Nat) (v0 : Nat) (t0 : Nat) (ho : Int) (th : Int) (tl : Int) (G : Nat → Int32) (M : MS) (x : Int) (hG : RG G M) (hM : MOk M) (hx1 : -2147483648 ≤ x ∧ x < 2147483648) : Ci l D cy yX5_lastPlaceOf wsX5_lastPlaceOf 2 45 [.ref m0, .int (iI x)] [(m0, .inr (5, [.ref a0, .ref p0, .int (iI ho), .ref q0, .ref v0, .int (iI th), .ref t0, .int (iI tl)])), (a0, .inl (cy 0, 144, .inl G))] (fun (r : Int32) (u : Int) => ((0 ≤ x ∧ x ≤ 25) ∧ r = iI (lastF M.2.1.length (gl M.2.1) (iI x)) ∧ u = 0) ∨ (¬ (0 ≤ x ∧ x ≤ 25) ∧ r = iI 0 ∧ u = 1)) (fun u : Int => [(m0, .inr (5, [.ref a0, .ref p0, .int (iI ho), .ref q0, .ref v0, .int (iI u), .ref t0, .int (iI tl)])), (a0, .inl (cy 0, 144, .inl G))]) := by
  refine Ci_of (cc := cX5_lastPlaceOf) (maxL := 2) (ret := (some .int)) (by decide) rfl rfl ?_
  intro p e s m args below meth c A hx hb hr hts hown hlocks hml hP hK hD hT hA ls hl
  have hS : va_S A s.heap s.heap [] := va_S.rf
  have hl : lv_has ls 2 [(0, .ref m0), (1, .int (iI x))] := hl
  obtain ⟨h0, h1L, h61, h62W, h78, h79, h80, h81, h82, h83, h84F⟩ := id hG
  obtain ⟨o1, o2, o3, o4, o5, o6, o7, o8, o9, o10, o11, o12, o13, o14, o15⟩ := id hM
  refine lv_iload_n hx hb dX5_lastPlaceOf_0 rfl (lv_at hl 1 rfl) ?_
  refine z_cSi (n := 1) (As := [.int (iI x)]) (rest := []) ⟨hx, hb, hml, hown, hts⟩ (c_X5_isLetter l D cy x (by first | assumption | omega)) gX5_lastPlaceOf_X5_isLetter rfl (by decide +kernel) ⟨Nat.le_of_ble_eq_true rfl, Nat.le_of_ble_eq_true rfl⟩ hK hT hP hD hS hA [] rfl rfl (fun _ => rfl) rfl hl.1 rfl (Nat.le_of_ble_eq_true rfl) dX5_lastPlaceOf_1 ⟨Nat.zero_le _, Nat.zero_le _⟩ (fun r_1 u_1 H locs hw_1 hP hD hS => ?_)
  have hw_1 : ((0 ≤ x ∧ x ≤ 25) ∧ r_1 = iI 1) ∨ (¬ (0 ≤ x ∧ x ≤ 25) ∧ r_1 = iI 0) := hw_1
  have hP : va_P D vwCl [(m0, .inr (5, [.ref a0, .ref p0, .int (iI ho), .ref q0, .ref v0, .int (iI th), .ref t0, .int (iI tl)])), (a0, .inl (cy 0, 144, .inl G))] H := hP
  have hD : va_D A [(m0, .inr (5, [.ref a0, .ref p0, .int (iI ho), .ref q0, .ref v0, .int (iI th), .ref t0, .int (iI tl)])), (a0, .inl (cy 0, 144, .inl G))] := hD
  rcases hw_1 with ⟨h_1, rfl⟩ | ⟨h_1, rfl⟩
  · --
    refine z_if_eq (tgt := 19) hx hb (iI_t (by omega) (by omega)) dX5_lastPlaceOf_4 (by decide) (fun c2 => absurd c2 (by omega)) (fun _ => ?_)
    refine lv_aload_n hx hb dX5_lastPlaceOf_7 rfl (lv_at hl 0 rfl) ?_
    refine lv_aload_n hx hb dX5_lastPlaceOf_8 rfl (lv_at hl 0 rfl) ?_
    refine lv_iload_n hx hb dX5_lastPlaceOf_9 rfl (lv_at hl 1 rfl) ?_
    refine z_cVi (n := 1) (b := m0) (As := [.int (iI x)]) (rest := [.ref m0]) ⟨hx, hb, hml, hown, hts⟩ (c_X5_lastOf l D cy m0 a0 p0 q0 v0 t0 ho th tl G (M.2.1.length : Int) (iI x) (by first | assumption | omega) (by first | assumption | omega)) gX5_lastPlaceOf_X5_lastOf rfl (by decide +kernel) ⟨Nat.le_of_ble_eq_true rfl, Nat.le_of_ble_eq_true rfl⟩ hK hT hP hD hS hA [0, 1] rfl rfl 0 5 rfl rfl rfl (fun _ => rfl) rfl hl.1 rfl (Nat.le_of_ble_eq_true rfl) dX5_lastPlaceOf_10 ⟨Nat.zero_le _, Nat.zero_le _⟩ (fun r_3 u_3 H locs hw_3 hP hD hS => ?_)
    have hw_3 : r_3 = iI (lastF (M.2.1.length : Int).toNat (gW G) (iI x)) := hw_3
    have hP : va_P D vwCl [(m0, .inr (5, [.ref a0, .ref p0, .int (iI ho), .ref q0, .ref v0, .int (iI th), .ref t0, .int (iI tl)])), (a0, .inl (cy 0, 144, .inl G))] H := hP
    have hD : va_D A [(m0, .inr (5, [.ref a0, .ref p0, .int (iI ho), .ref q0, .ref v0, .int (iI th), .ref t0, .int (iI tl)])), (a0, .inl (cy 0, 144, .inl G))] := hD
    obtain rfl := hw_3
    refine z_cVi (n := 1) (b := m0) (As := [.int (iI (lastF (M.2.1.length : Int).toNat (gW G) (iI x)))]) (rest := []) ⟨hx, hb, hml, hown, hts⟩ (c_X5_told l D cy m0 a0 p0 q0 v0 t0 ho th tl (iI (lastF (M.2.1.length : Int).toNat (gW G) (iI x))) ) gX5_lastPlaceOf_X5_told rfl (by decide +kernel) ⟨Nat.le_of_ble_eq_true rfl, Nat.le_of_ble_eq_true rfl⟩ hK hT hP hD hS hA [0] rfl rfl 0 5 rfl rfl rfl (fun _ => rfl) rfl hl.1 rfl (Nat.le_of_ble_eq_true rfl) dX5_lastPlaceOf_13 ⟨Nat.zero_le _, Nat.zero_le _⟩ (fun r_4 u_4 H locs hw_4 hP hD hS => ?_)
    have hw_4 : r_4 = (iI (lastF (M.2.1.length : Int).toNat (gW G) (iI x))) := hw_4
    have hP : va_P D vwCl [(m0, .inr (5, [.ref a0, .ref p0, .int (iI ho), .ref q0, .ref v0, .int (iI 0), .ref t0, .int (iI tl)])), (a0, .inl (cy 0, 144, .inl G))] H := hP
    have hD : va_D A [(m0, .inr (5, [.ref a0, .ref p0, .int (iI ho), .ref q0, .ref v0, .int (iI 0), .ref t0, .int (iI tl)])), (a0, .inl (cy 0, 144, .inl G))] := hD
    obtain rfl := hw_4
    refine lv_goto (tgt := 24) hx hb dX5_lastPlaceOf_16 (by decide) ?_
    exact z_iret hx hb hr hlocks hS (0) (show ((0 ≤ x ∧ x ≤ 25) ∧ (iI (lastF (M.2.1.length : Int).toNat (gW G) (iI x))) = iI (lastF M.2.1.length (gl M.2.1) (iI x)) ∧ 0 = 0) ∨ (¬ (0 ≤ x ∧ x ≤ 25) ∧ (iI (lastF (M.2.1.length : Int).toNat (gW G) (iI x))) = iI 0 ∧ 0 = 1) from (by first | exact Or.inl ⟨by omega, (congrArg iI (lastF_congr (fun j hj => h62W j (by omega)))), rfl⟩ | exact Or.inr ⟨by omega, rfl, rfl⟩)) hP dX5_lastPlaceOf_24
  · --
    refine z_if_eq (tgt := 19) hx hb (iI_t (by omega) (by omega)) dX5_lastPlaceOf_4 (by decide) (fun _ => ?_) (fun c5 => absurd c5 (by omega))
    refine lv_aload_n hx hb dX5_lastPlaceOf_19 rfl (lv_at hl 0 rfl) ?_
    refine lv_iconst (v := iI 1) hx hb dX5_lastPlaceOf_20 rfl ?_
    refine z_cVi (n := 1) (b := m0) (As := [.int (iI 1)]) (rest := []) ⟨hx, hb, hml, hown, hts⟩ (c_X5_fails l D cy m0 a0 p0 q0 v0 t0 ho th tl 1 ) gX5_lastPlaceOf_X5_fails rfl (by decide +kernel) ⟨Nat.le_of_ble_eq_true rfl, Nat.le_of_ble_eq_true rfl⟩ hK hT hP hD hS hA [0] rfl rfl 0 5 rfl rfl rfl (fun _ => rfl) rfl hl.1 rfl (Nat.le_of_ble_eq_true rfl) dX5_lastPlaceOf_21 ⟨Nat.zero_le _, Nat.zero_le _⟩ (fun r_6 u_6 H locs hw_6 hP hD hS => ?_)
    have hw_6 : r_6 = iI 0 := hw_6
    have hP : va_P D vwCl [(m0, .inr (5, [.ref a0, .ref p0, .int (iI ho), .ref q0, .ref v0, .int (iI 1), .ref t0, .int (iI tl)])), (a0, .inl (cy 0, 144, .inl G))] H := hP
    have hD : va_D A [(m0, .inr (5, [.ref a0, .ref p0, .int (iI ho), .ref q0, .ref v0, .int (iI 1), .ref t0, .int (iI tl)])), (a0, .inl (cy 0, 144, .inl G))] := hD
    obtain rfl := hw_6
    exact z_iret hx hb hr hlocks hS (1) (show ((0 ≤ x ∧ x ≤ 25) ∧ (iI 0) = iI (lastF M.2.1.length (gl M.2.1) (iI x)) ∧ 1 = 0) ∨ (¬ (0 ≤ x ∧ x ≤ 25) ∧ (iI 0) = iI 0 ∧ 1 = 1) from (by first | exact Or.inl ⟨by omega, (congrArg iI (lastF_congr (fun j hj => h62W j (by omega)))), rfl⟩ | exact Or.inr ⟨by omega, rfl, rfl⟩)) hP dX5_lastPlaceOf_24
set_option maxHeartbeats 4000000 in
set_option maxRecDepth 100000 in
theorem c_X5_letterSkip (l : Launch) (D : va_G) (cy : Nat → ClassId) (m0 : Nat) (a0 : Nat) (p0 : Nat) (q0 : Nat) (v0 : Nat) (t0 : Nat) (ho : Int) (th : Int) (tl : Int) (G : Nat → Int32) (M : MS) (x : Int) (y : Int) (hG : RG G M) (hM : MOk M) (hx1 : -2147483648 ≤ x ∧ x < 2147483648) (hy1 : -2147483648 ≤ y ∧ y < 2147483648) : Ci l D cy yX5_letterSkip wsX5_letterSkip 2 46 [.ref m0, .int (iI x), .int (iI y)] [(m0, .inr (5, [.ref a0, .ref p0, .int (iI ho), .ref q0, .ref v0, .int (iI th), .ref t0, .int (iI tl)])), (a0, .inl (cy 0, 144, .inl G))] (fun (r : Int32) (u : Int) => ((0 ≤ x ∧ x < (M.2.1.length : Int)) ∧ (0 ≤ y ∧ y ≤ 25) ∧ r = iI (x - lastF M.2.1.length (gl M.2.1) (iI y)) ∧ u = 0) ∨ (¬ (0 ≤ x ∧ x < (M.2.1.length : Int)) ∧ r = iI 0 ∧ u = 1) ∨ ((0 ≤ x ∧ x < (M.2.1.length : Int)) ∧ ¬ (0 ≤ y ∧ y ≤ 25) ∧ r = iI 0 ∧ u = 2)) (fun u : Int => [(m0, .inr (5, [.ref a0, .ref p0, .int (iI ho), .ref q0, .ref v0, .int (iI u), .ref t0, .int (iI tl)])), (a0, .inl (cy 0, 144, .inl G))]) := by
  refine Ci_of (cc := cX5_letterSkip) (maxL := 3) (ret := (some .int)) (by decide) rfl rfl ?_
  intro p e s m args below meth c A hx hb hr hts hown hlocks hml hP hK hD hT hA ls hl
  have hS : va_S A s.heap s.heap [] := va_S.rf
  have hl : lv_has ls 3 [(0, .ref m0), (1, .int (iI x)), (2, .int (iI y))] := hl
  obtain ⟨h0, h1L, h61, h62W, h78, h79, h80, h81, h82, h83, h84F⟩ := id hG
  obtain ⟨o1, o2, o3, o4, o5, o6, o7, o8, o9, o10, o11, o12, o13, o14, o15⟩ := id hM
  refine lv_aload_n hx hb dX5_letterSkip_0 rfl (lv_at hl 0 rfl) ?_
  refine lv_iload_n hx hb dX5_letterSkip_1 rfl (lv_at hl 1 rfl) ?_
  refine z_cVi (n := 1) (b := m0) (As := [.int (iI x)]) (rest := []) ⟨hx, hb, hml, hown, hts⟩ (c_X5_isInWord l D cy m0 a0 p0 q0 v0 t0 ho th tl G (M.2.1.length : Int) x (by first | assumption | omega) (by first | assumption | omega) (by first | assumption | omega)) gX5_letterSkip_X5_isInWord rfl (by decide +kernel) ⟨Nat.le_of_ble_eq_true rfl, Nat.le_of_ble_eq_true rfl⟩ hK hT hP hD hS hA [0, 1] rfl rfl 0 5 rfl rfl rfl (fun _ => rfl) rfl hl.1 rfl (Nat.le_of_ble_eq_true rfl) dX5_letterSkip_2 ⟨Nat.zero_le _, Nat.zero_le _⟩ (fun r_1 u_1 H locs hw_1 hP hD hS => ?_)
  have hw_1 : ((0 ≤ x ∧ x < (M.2.1.length : Int)) ∧ r_1 = iI 1) ∨ (¬ (0 ≤ x ∧ x < (M.2.1.length : Int)) ∧ r_1 = iI 0) := hw_1
  have hP : va_P D vwCl [(m0, .inr (5, [.ref a0, .ref p0, .int (iI ho), .ref q0, .ref v0, .int (iI th), .ref t0, .int (iI tl)])), (a0, .inl (cy 0, 144, .inl G))] H := hP
  have hD : va_D A [(m0, .inr (5, [.ref a0, .ref p0, .int (iI ho), .ref q0, .ref v0, .int (iI th), .ref t0, .int (iI tl)])), (a0, .inl (cy 0, 144, .inl G))] := hD
  rcases hw_1 with ⟨h_1, rfl⟩ | ⟨h_1, rfl⟩
  · --
    refine z_if_ne (tgt := 14) hx hb (iI_t (by omega) (by omega)) dX5_letterSkip_5 (by decide) (fun _ => ?_) (fun c2 => absurd c2 (by omega))
    refine lv_iload_n hx hb dX5_letterSkip_14 rfl (lv_at hl 2 rfl) ?_
    refine z_cSi (n := 1) (As := [.int (iI y)]) (rest := []) ⟨hx, hb, hml, hown, hts⟩ (c_X5_isLetter l D cy y (by first | assumption | omega)) gX5_letterSkip_X5_isLetter rfl (by decide +kernel) ⟨Nat.le_of_ble_eq_true rfl, Nat.le_of_ble_eq_true rfl⟩ hK hT hP hD hS hA [] rfl rfl (fun _ => rfl) rfl hl.1 rfl (Nat.le_of_ble_eq_true rfl) dX5_letterSkip_15 ⟨Nat.zero_le _, Nat.zero_le _⟩ (fun r_3 u_3 H locs hw_3 hP hD hS => ?_)
    have hw_3 : ((0 ≤ y ∧ y ≤ 25) ∧ r_3 = iI 1) ∨ (¬ (0 ≤ y ∧ y ≤ 25) ∧ r_3 = iI 0) := hw_3
    have hP : va_P D vwCl [(m0, .inr (5, [.ref a0, .ref p0, .int (iI ho), .ref q0, .ref v0, .int (iI th), .ref t0, .int (iI tl)])), (a0, .inl (cy 0, 144, .inl G))] H := hP
    have hD : va_D A [(m0, .inr (5, [.ref a0, .ref p0, .int (iI ho), .ref q0, .ref v0, .int (iI th), .ref t0, .int (iI tl)])), (a0, .inl (cy 0, 144, .inl G))] := hD
    rcases hw_3 with ⟨h_3, rfl⟩ | ⟨h_3, rfl⟩
    · --
      refine z_if_eq (tgt := 35) hx hb (iI_t (by omega) (by omega)) dX5_letterSkip_18 (by decide) (fun c4 => absurd c4 (by omega)) (fun _ => ?_)
      refine lv_aload_n hx hb dX5_letterSkip_21 rfl (lv_at hl 0 rfl) ?_
      refine lv_iload_n hx hb dX5_letterSkip_22 rfl (lv_at hl 1 rfl) ?_
      refine lv_aload_n hx hb dX5_letterSkip_23 rfl (lv_at hl 0 rfl) ?_
      refine lv_iload_n hx hb dX5_letterSkip_24 rfl (lv_at hl 2 rfl) ?_
      refine z_cVi (n := 1) (b := m0) (As := [.int (iI y)]) (rest := [.int (iI x), .ref m0]) ⟨hx, hb, hml, hown, hts⟩ (c_X5_lastOf l D cy m0 a0 p0 q0 v0 t0 ho th tl G (M.2.1.length : Int) (iI y) (by first | assumption | omega) (by first | assumption | omega)) gX5_letterSkip_X5_lastOf rfl (by decide +kernel) ⟨Nat.le_of_ble_eq_true rfl, Nat.le_of_ble_eq_true rfl⟩ hK hT hP hD hS hA [0, 1] rfl rfl 0 5 rfl rfl rfl (fun _ => rfl) rfl hl.1 rfl (Nat.le_of_ble_eq_true rfl) dX5_letterSkip_25 ⟨Nat.zero_le _, Nat.zero_le _⟩ (fun r_5 u_5 H locs hw_5 hP hD hS => ?_)
      have hw_5 : r_5 = iI (lastF (M.2.1.length : Int).toNat (gW G) (iI y)) := hw_5
      have hP : va_P D vwCl [(m0, .inr (5, [.ref a0, .ref p0, .int (iI ho), .ref q0, .ref v0, .int (iI th), .ref t0, .int (iI tl)])), (a0, .inl (cy 0, 144, .inl G))] H := hP
      have hD : va_D A [(m0, .inr (5, [.ref a0, .ref p0, .int (iI ho), .ref q0, .ref v0, .int (iI th), .ref t0, .int (iI tl)])), (a0, .inl (cy 0, 144, .inl G))] := hD
      obtain rfl := hw_5
      refine z_sub hx hb dX5_letterSkip_28 ?_
      refine z_cVi (n := 1) (b := m0) (As := [.int (iI (x - (lastF (M.2.1.length : Int).toNat (gW G) (iI y))))]) (rest := []) ⟨hx, hb, hml, hown, hts⟩ (c_X5_told l D cy m0 a0 p0 q0 v0 t0 ho th tl (iI (x - (lastF (M.2.1.length : Int).toNat (gW G) (iI y)))) ) gX5_letterSkip_X5_told rfl (by decide +kernel) ⟨Nat.le_of_ble_eq_true rfl, Nat.le_of_ble_eq_true rfl⟩ hK hT hP hD hS hA [0] rfl rfl 0 5 rfl rfl rfl (fun _ => rfl) rfl hl.1 rfl (Nat.le_of_ble_eq_true rfl) dX5_letterSkip_29 ⟨Nat.zero_le _, Nat.zero_le _⟩ (fun r_6 u_6 H locs hw_6 hP hD hS => ?_)
      have hw_6 : r_6 = (iI (x - (lastF (M.2.1.length : Int).toNat (gW G) (iI y)))) := hw_6
      have hP : va_P D vwCl [(m0, .inr (5, [.ref a0, .ref p0, .int (iI ho), .ref q0, .ref v0, .int (iI 0), .ref t0, .int (iI tl)])), (a0, .inl (cy 0, 144, .inl G))] H := hP
      have hD : va_D A [(m0, .inr (5, [.ref a0, .ref p0, .int (iI ho), .ref q0, .ref v0, .int (iI 0), .ref t0, .int (iI tl)])), (a0, .inl (cy 0, 144, .inl G))] := hD
      obtain rfl := hw_6
      refine lv_goto (tgt := 40) hx hb dX5_letterSkip_32 (by decide) ?_
      exact z_iret hx hb hr hlocks hS (0) (show ((0 ≤ x ∧ x < (M.2.1.length : Int)) ∧ (0 ≤ y ∧ y ≤ 25) ∧ (iI (x - (lastF (M.2.1.length : Int).toNat (gW G) (iI y)))) = iI (x - lastF M.2.1.length (gl M.2.1) (iI y)) ∧ 0 = 0) ∨ (¬ (0 ≤ x ∧ x < (M.2.1.length : Int)) ∧ (iI (x - (lastF (M.2.1.length : Int).toNat (gW G) (iI y)))) = iI 0 ∧ 0 = 1) ∨ ((0 ≤ x ∧ x < (M.2.1.length : Int)) ∧ ¬ (0 ≤ y ∧ y ≤ 25) ∧ (iI (x - (lastF (M.2.1.length : Int).toNat (gW G) (iI y)))) = iI 0 ∧ 0 = 2) from (by first | exact Or.inl ⟨by omega, by omega, congrArg (fun k => iI (x - k)) (lastF_congr (fun j hj => h62W j (by omega))), rfl⟩ | exact Or.inr (Or.inl ⟨by omega, rfl, rfl⟩) | exact Or.inr (Or.inr ⟨by omega, by omega, rfl, rfl⟩))) hP dX5_letterSkip_40
    · --
      refine z_if_eq (tgt := 35) hx hb (iI_t (by omega) (by omega)) dX5_letterSkip_18 (by decide) (fun _ => ?_) (fun c7 => absurd c7 (by omega))
      refine lv_aload_n hx hb dX5_letterSkip_35 rfl (lv_at hl 0 rfl) ?_
      refine lv_iconst (v := iI 2) hx hb dX5_letterSkip_36 rfl ?_
      refine z_cVi (n := 1) (b := m0) (As := [.int (iI 2)]) (rest := []) ⟨hx, hb, hml, hown, hts⟩ (c_X5_fails l D cy m0 a0 p0 q0 v0 t0 ho th tl 2 ) gX5_letterSkip_X5_fails rfl (by decide +kernel) ⟨Nat.le_of_ble_eq_true rfl, Nat.le_of_ble_eq_true rfl⟩ hK hT hP hD hS hA [0] rfl rfl 0 5 rfl rfl rfl (fun _ => rfl) rfl hl.1 rfl (Nat.le_of_ble_eq_true rfl) dX5_letterSkip_37 ⟨Nat.zero_le _, Nat.zero_le _⟩ (fun r_8 u_8 H locs hw_8 hP hD hS => ?_)
      have hw_8 : r_8 = iI 0 := hw_8
      have hP : va_P D vwCl [(m0, .inr (5, [.ref a0, .ref p0, .int (iI ho), .ref q0, .ref v0, .int (iI 2), .ref t0, .int (iI tl)])), (a0, .inl (cy 0, 144, .inl G))] H := hP
      have hD : va_D A [(m0, .inr (5, [.ref a0, .ref p0, .int (iI ho), .ref q0, .ref v0, .int (iI 2), .ref t0, .int (iI tl)])), (a0, .inl (cy 0, 144, .inl G))] := hD
      obtain rfl := hw_8
      exact z_iret hx hb hr hlocks hS (2) (show ((0 ≤ x ∧ x < (M.2.1.length : Int)) ∧ (0 ≤ y ∧ y ≤ 25) ∧ (iI 0) = iI (x - lastF M.2.1.length (gl M.2.1) (iI y)) ∧ 2 = 0) ∨ (¬ (0 ≤ x ∧ x < (M.2.1.length : Int)) ∧ (iI 0) = iI 0 ∧ 2 = 1) ∨ ((0 ≤ x ∧ x < (M.2.1.length : Int)) ∧ ¬ (0 ≤ y ∧ y ≤ 25) ∧ (iI 0) = iI 0 ∧ 2 = 2) from (by first | exact Or.inl ⟨by omega, by omega, congrArg (fun k => iI (x - k)) (lastF_congr (fun j hj => h62W j (by omega))), rfl⟩ | exact Or.inr (Or.inl ⟨by omega, rfl, rfl⟩) | exact Or.inr (Or.inr ⟨by omega, by omega, rfl, rfl⟩))) hP dX5_letterSkip_40
  · --
    refine z_if_ne (tgt := 14) hx hb (iI_t (by omega) (by omega)) dX5_letterSkip_5 (by decide) (fun c9 => absurd c9 (by omega)) (fun _ => ?_)
    refine lv_aload_n hx hb dX5_letterSkip_8 rfl (lv_at hl 0 rfl) ?_
    refine lv_iconst (v := iI 1) hx hb dX5_letterSkip_9 rfl ?_
    refine z_cVi (n := 1) (b := m0) (As := [.int (iI 1)]) (rest := []) ⟨hx, hb, hml, hown, hts⟩ (c_X5_fails l D cy m0 a0 p0 q0 v0 t0 ho th tl 1 ) gX5_letterSkip_X5_fails rfl (by decide +kernel) ⟨Nat.le_of_ble_eq_true rfl, Nat.le_of_ble_eq_true rfl⟩ hK hT hP hD hS hA [0] rfl rfl 0 5 rfl rfl rfl (fun _ => rfl) rfl hl.1 rfl (Nat.le_of_ble_eq_true rfl) dX5_letterSkip_10 ⟨Nat.zero_le _, Nat.zero_le _⟩ (fun r_10 u_10 H locs hw_10 hP hD hS => ?_)
    have hw_10 : r_10 = iI 0 := hw_10
    have hP : va_P D vwCl [(m0, .inr (5, [.ref a0, .ref p0, .int (iI ho), .ref q0, .ref v0, .int (iI 1), .ref t0, .int (iI tl)])), (a0, .inl (cy 0, 144, .inl G))] H := hP
    have hD : va_D A [(m0, .inr (5, [.ref a0, .ref p0, .int (iI ho), .ref q0, .ref v0, .int (iI 1), .ref t0, .int (iI tl)])), (a0, .inl (cy 0, 144, .inl G))] := hD
    obtain rfl := hw_10
    exact z_iret hx hb hr hlocks hS (1) (show ((0 ≤ x ∧ x < (M.2.1.length : Int)) ∧ (0 ≤ y ∧ y ≤ 25) ∧ (iI 0) = iI (x - lastF M.2.1.length (gl M.2.1) (iI y)) ∧ 1 = 0) ∨ (¬ (0 ≤ x ∧ x < (M.2.1.length : Int)) ∧ (iI 0) = iI 0 ∧ 1 = 1) ∨ ((0 ≤ x ∧ x < (M.2.1.length : Int)) ∧ ¬ (0 ≤ y ∧ y ≤ 25) ∧ (iI 0) = iI 0 ∧ 1 = 2) from (by first | exact Or.inl ⟨by omega, by omega, congrArg (fun k => iI (x - k)) (lastF_congr (fun j hj => h62W j (by omega))), rfl⟩ | exact Or.inr (Or.inl ⟨by omega, rfl, rfl⟩) | exact Or.inr (Or.inr ⟨by omega, by omega, rfl, rfl⟩))) hP dX5_letterSkip_13
set_option maxHeartbeats 4000000 in
set_option maxRecDepth 100000 in
theorem c_X5_endSkip (l : Launch) (D : va_G) (cy : Nat → ClassId) (m0 : Nat) (a0 : Nat) (p0 : Nat) (q0 : Nat) (v0 : Nat) (t0 : Nat) (ho : Int) (th : Int) (tl : Int) (G : Nat → Int32) (M : MS) (x : Int) (hG : RG G M) (hM : MOk M) (hx1 : -2147483648 ≤ x ∧ x < 2147483648) : Ci l D cy yX5_endSkip wsX5_endSkip 2 46 [.ref m0, .int (iI x)] [(m0, .inr (5, [.ref a0, .ref p0, .int (iI ho), .ref q0, .ref v0, .int (iI th), .ref t0, .int (iI tl)])), (a0, .inl (cy 0, 144, .inl G))] (fun (r : Int32) (u : Int) => ((0 ≤ x ∧ x < (M.2.1.length : Int)) ∧ r = iI (endF M.2.1.length (gl M.2.1) x.toNat : Int) ∧ u = 0) ∨ (¬ (0 ≤ x ∧ x < (M.2.1.length : Int)) ∧ r = iI 0 ∧ u = 1)) (fun u : Int => [(m0, .inr (5, [.ref a0, .ref p0, .int (iI ho), .ref q0, .ref v0, .int (iI u), .ref t0, .int (iI tl)])), (a0, .inl (cy 0, 144, .inl G))]) := by
  refine Ci_of (cc := cX5_endSkip) (maxL := 2) (ret := (some .int)) (by decide) rfl rfl ?_
  intro p e s m args below meth c A hx hb hr hts hown hlocks hml hP hK hD hT hA ls hl
  have hS : va_S A s.heap s.heap [] := va_S.rf
  have hl : lv_has ls 2 [(0, .ref m0), (1, .int (iI x))] := hl
  obtain ⟨h0, h1L, h61, h62W, h78, h79, h80, h81, h82, h83, h84F⟩ := id hG
  obtain ⟨o1, o2, o3, o4, o5, o6, o7, o8, o9, o10, o11, o12, o13, o14, o15⟩ := id hM
  refine lv_aload_n hx hb dX5_endSkip_0 rfl (lv_at hl 0 rfl) ?_
  refine lv_iload_n hx hb dX5_endSkip_1 rfl (lv_at hl 1 rfl) ?_
  refine z_cVi (n := 1) (b := m0) (As := [.int (iI x)]) (rest := []) ⟨hx, hb, hml, hown, hts⟩ (c_X5_isInWord l D cy m0 a0 p0 q0 v0 t0 ho th tl G (M.2.1.length : Int) x (by first | assumption | omega) (by first | assumption | omega) (by first | assumption | omega)) gX5_endSkip_X5_isInWord rfl (by decide +kernel) ⟨Nat.le_of_ble_eq_true rfl, Nat.le_of_ble_eq_true rfl⟩ hK hT hP hD hS hA [0, 1] rfl rfl 0 5 rfl rfl rfl (fun _ => rfl) rfl hl.1 rfl (Nat.le_of_ble_eq_true rfl) dX5_endSkip_2 ⟨Nat.zero_le _, Nat.zero_le _⟩ (fun r_1 u_1 H locs hw_1 hP hD hS => ?_)
  have hw_1 : ((0 ≤ x ∧ x < (M.2.1.length : Int)) ∧ r_1 = iI 1) ∨ (¬ (0 ≤ x ∧ x < (M.2.1.length : Int)) ∧ r_1 = iI 0) := hw_1
  have hP : va_P D vwCl [(m0, .inr (5, [.ref a0, .ref p0, .int (iI ho), .ref q0, .ref v0, .int (iI th), .ref t0, .int (iI tl)])), (a0, .inl (cy 0, 144, .inl G))] H := hP
  have hD : va_D A [(m0, .inr (5, [.ref a0, .ref p0, .int (iI ho), .ref q0, .ref v0, .int (iI th), .ref t0, .int (iI tl)])), (a0, .inl (cy 0, 144, .inl G))] := hD
  rcases hw_1 with ⟨h_1, rfl⟩ | ⟨h_1, rfl⟩
  · --
    refine z_if_eq (tgt := 20) hx hb (iI_t (by omega) (by omega)) dX5_endSkip_5 (by decide) (fun c2 => absurd c2 (by omega)) (fun _ => ?_)
    refine lv_aload_n hx hb dX5_endSkip_8 rfl (lv_at hl 0 rfl) ?_
    refine lv_aload_n hx hb dX5_endSkip_9 rfl (lv_at hl 0 rfl) ?_
    refine lv_iload_n hx hb dX5_endSkip_10 rfl (lv_at hl 1 rfl) ?_
    refine z_cVi (n := 1) (b := m0) (As := [.int (iI x)]) (rest := [.ref m0]) ⟨hx, hb, hml, hown, hts⟩ (c_X5_endSkipOf l D cy m0 a0 p0 q0 v0 t0 ho th tl G (M.2.1.length : Int) x (by first | assumption | omega) (by first | assumption | omega) (by first | assumption | omega)) gX5_endSkip_X5_endSkipOf rfl (by decide +kernel) ⟨Nat.le_of_ble_eq_true rfl, Nat.le_of_ble_eq_true rfl⟩ hK hT hP hD hS hA [0, 1] rfl rfl 0 5 rfl rfl rfl (fun _ => rfl) rfl hl.1 rfl (Nat.le_of_ble_eq_true rfl) dX5_endSkip_11 ⟨Nat.zero_le _, Nat.zero_le _⟩ (fun r_3 u_3 H locs hw_3 hP hD hS => ?_)
    have hw_3 : r_3 = iI (endF (M.2.1.length : Int).toNat (gW G) x.toNat : Int) := hw_3
    have hP : va_P D vwCl [(m0, .inr (5, [.ref a0, .ref p0, .int (iI ho), .ref q0, .ref v0, .int (iI th), .ref t0, .int (iI tl)])), (a0, .inl (cy 0, 144, .inl G))] H := hP
    have hD : va_D A [(m0, .inr (5, [.ref a0, .ref p0, .int (iI ho), .ref q0, .ref v0, .int (iI th), .ref t0, .int (iI tl)])), (a0, .inl (cy 0, 144, .inl G))] := hD
    obtain rfl := hw_3
    refine z_cVi (n := 1) (b := m0) (As := [.int (iI (endF (M.2.1.length : Int).toNat (gW G) x.toNat : Int))]) (rest := []) ⟨hx, hb, hml, hown, hts⟩ (c_X5_told l D cy m0 a0 p0 q0 v0 t0 ho th tl (iI (endF (M.2.1.length : Int).toNat (gW G) x.toNat : Int)) ) gX5_endSkip_X5_told rfl (by decide +kernel) ⟨Nat.le_of_ble_eq_true rfl, Nat.le_of_ble_eq_true rfl⟩ hK hT hP hD hS hA [0] rfl rfl 0 5 rfl rfl rfl (fun _ => rfl) rfl hl.1 rfl (Nat.le_of_ble_eq_true rfl) dX5_endSkip_14 ⟨Nat.zero_le _, Nat.zero_le _⟩ (fun r_4 u_4 H locs hw_4 hP hD hS => ?_)
    have hw_4 : r_4 = (iI (endF (M.2.1.length : Int).toNat (gW G) x.toNat : Int)) := hw_4
    have hP : va_P D vwCl [(m0, .inr (5, [.ref a0, .ref p0, .int (iI ho), .ref q0, .ref v0, .int (iI 0), .ref t0, .int (iI tl)])), (a0, .inl (cy 0, 144, .inl G))] H := hP
    have hD : va_D A [(m0, .inr (5, [.ref a0, .ref p0, .int (iI ho), .ref q0, .ref v0, .int (iI 0), .ref t0, .int (iI tl)])), (a0, .inl (cy 0, 144, .inl G))] := hD
    obtain rfl := hw_4
    refine lv_goto (tgt := 25) hx hb dX5_endSkip_17 (by decide) ?_
    exact z_iret hx hb hr hlocks hS (0) (show ((0 ≤ x ∧ x < (M.2.1.length : Int)) ∧ (iI (endF (M.2.1.length : Int).toNat (gW G) x.toNat : Int)) = iI (endF M.2.1.length (gl M.2.1) x.toNat : Int) ∧ 0 = 0) ∨ (¬ (0 ≤ x ∧ x < (M.2.1.length : Int)) ∧ (iI (endF (M.2.1.length : Int).toNat (gW G) x.toNat : Int)) = iI 0 ∧ 0 = 1) from (by first | exact Or.inl ⟨by omega, (congrArg (fun k : Nat => iI (k : Int)) (endF_congr (fun j hj => h62W j (by omega)) (by omega))), rfl⟩ | exact Or.inr ⟨by omega, rfl, rfl⟩)) hP dX5_endSkip_25
  · --
    refine z_if_eq (tgt := 20) hx hb (iI_t (by omega) (by omega)) dX5_endSkip_5 (by decide) (fun _ => ?_) (fun c5 => absurd c5 (by omega))
    refine lv_aload_n hx hb dX5_endSkip_20 rfl (lv_at hl 0 rfl) ?_
    refine lv_iconst (v := iI 1) hx hb dX5_endSkip_21 rfl ?_
    refine z_cVi (n := 1) (b := m0) (As := [.int (iI 1)]) (rest := []) ⟨hx, hb, hml, hown, hts⟩ (c_X5_fails l D cy m0 a0 p0 q0 v0 t0 ho th tl 1 ) gX5_endSkip_X5_fails rfl (by decide +kernel) ⟨Nat.le_of_ble_eq_true rfl, Nat.le_of_ble_eq_true rfl⟩ hK hT hP hD hS hA [0] rfl rfl 0 5 rfl rfl rfl (fun _ => rfl) rfl hl.1 rfl (Nat.le_of_ble_eq_true rfl) dX5_endSkip_22 ⟨Nat.zero_le _, Nat.zero_le _⟩ (fun r_6 u_6 H locs hw_6 hP hD hS => ?_)
    have hw_6 : r_6 = iI 0 := hw_6
    have hP : va_P D vwCl [(m0, .inr (5, [.ref a0, .ref p0, .int (iI ho), .ref q0, .ref v0, .int (iI 1), .ref t0, .int (iI tl)])), (a0, .inl (cy 0, 144, .inl G))] H := hP
    have hD : va_D A [(m0, .inr (5, [.ref a0, .ref p0, .int (iI ho), .ref q0, .ref v0, .int (iI 1), .ref t0, .int (iI tl)])), (a0, .inl (cy 0, 144, .inl G))] := hD
    obtain rfl := hw_6
    exact z_iret hx hb hr hlocks hS (1) (show ((0 ≤ x ∧ x < (M.2.1.length : Int)) ∧ (iI 0) = iI (endF M.2.1.length (gl M.2.1) x.toNat : Int) ∧ 1 = 0) ∨ (¬ (0 ≤ x ∧ x < (M.2.1.length : Int)) ∧ (iI 0) = iI 0 ∧ 1 = 1) from (by first | exact Or.inl ⟨by omega, (congrArg (fun k : Nat => iI (k : Int)) (endF_congr (fun j hj => h62W j (by omega)) (by omega))), rfl⟩ | exact Or.inr ⟨by omega, rfl, rfl⟩)) hP dX5_endSkip_25
set_option maxHeartbeats 4000000 in
set_option maxRecDepth 100000 in
theorem c_X5_endSkipByTrying (l : Launch) (D : va_G) (cy : Nat → ClassId) (m0 : Nat) (a0 : Nat) (p0 : Nat) (q0 : Nat) (v0 : Nat) (t0 : Nat) (ho : Int) (th : Int) (tl : Int) (G : Nat → Int32) (M : MS) (x : Int) (hG : RG G M) (hM : MOk M) (hx1 : -2147483648 ≤ x ∧ x < 2147483648) : Ci l D cy yX5_endSkipByTrying wsX5_endSkipByTrying 2 46 [.ref m0, .int (iI x)] [(m0, .inr (5, [.ref a0, .ref p0, .int (iI ho), .ref q0, .ref v0, .int (iI th), .ref t0, .int (iI tl)])), (a0, .inl (cy 0, 144, .inl G))] (fun (r : Int32) (u : Int) => ((0 ≤ x ∧ x < (M.2.1.length : Int)) ∧ r = iI (endF M.2.1.length (gl M.2.1) x.toNat : Int) ∧ u = 0) ∨ (¬ (0 ≤ x ∧ x < (M.2.1.length : Int)) ∧ r = iI 0 ∧ u = 1)) (fun u : Int => [(m0, .inr (5, [.ref a0, .ref p0, .int (iI ho), .ref q0, .ref v0, .int (iI u), .ref t0, .int (iI tl)])), (a0, .inl (cy 0, 144, .inl G))]) := by
  refine Ci_of (cc := cX5_endSkipByTrying) (maxL := 2) (ret := (some .int)) (by decide) rfl rfl ?_
  intro p e s m args below meth c A hx hb hr hts hown hlocks hml hP hK hD hT hA ls hl
  have hS : va_S A s.heap s.heap [] := va_S.rf
  have hl : lv_has ls 2 [(0, .ref m0), (1, .int (iI x))] := hl
  obtain ⟨h0, h1L, h61, h62W, h78, h79, h80, h81, h82, h83, h84F⟩ := id hG
  obtain ⟨o1, o2, o3, o4, o5, o6, o7, o8, o9, o10, o11, o12, o13, o14, o15⟩ := id hM
  refine lv_aload_n hx hb dX5_endSkipByTrying_0 rfl (lv_at hl 0 rfl) ?_
  refine lv_iload_n hx hb dX5_endSkipByTrying_1 rfl (lv_at hl 1 rfl) ?_
  refine z_cVi (n := 1) (b := m0) (As := [.int (iI x)]) (rest := []) ⟨hx, hb, hml, hown, hts⟩ (c_X5_isInWord l D cy m0 a0 p0 q0 v0 t0 ho th tl G (M.2.1.length : Int) x (by first | assumption | omega) (by first | assumption | omega) (by first | assumption | omega)) gX5_endSkipByTrying_X5_isInWord rfl (by decide +kernel) ⟨Nat.le_of_ble_eq_true rfl, Nat.le_of_ble_eq_true rfl⟩ hK hT hP hD hS hA [0, 1] rfl rfl 0 5 rfl rfl rfl (fun _ => rfl) rfl hl.1 rfl (Nat.le_of_ble_eq_true rfl) dX5_endSkipByTrying_2 ⟨Nat.zero_le _, Nat.zero_le _⟩ (fun r_1 u_1 H locs hw_1 hP hD hS => ?_)
  have hw_1 : ((0 ≤ x ∧ x < (M.2.1.length : Int)) ∧ r_1 = iI 1) ∨ (¬ (0 ≤ x ∧ x < (M.2.1.length : Int)) ∧ r_1 = iI 0) := hw_1
  have hP : va_P D vwCl [(m0, .inr (5, [.ref a0, .ref p0, .int (iI ho), .ref q0, .ref v0, .int (iI th), .ref t0, .int (iI tl)])), (a0, .inl (cy 0, 144, .inl G))] H := hP
  have hD : va_D A [(m0, .inr (5, [.ref a0, .ref p0, .int (iI ho), .ref q0, .ref v0, .int (iI th), .ref t0, .int (iI tl)])), (a0, .inl (cy 0, 144, .inl G))] := hD
  rcases hw_1 with ⟨h_1, rfl⟩ | ⟨h_1, rfl⟩
  · --
    refine z_if_eq (tgt := 20) hx hb (iI_t (by omega) (by omega)) dX5_endSkipByTrying_5 (by decide) (fun c2 => absurd c2 (by omega)) (fun _ => ?_)
    refine lv_aload_n hx hb dX5_endSkipByTrying_8 rfl (lv_at hl 0 rfl) ?_
    refine lv_aload_n hx hb dX5_endSkipByTrying_9 rfl (lv_at hl 0 rfl) ?_
    refine lv_iload_n hx hb dX5_endSkipByTrying_10 rfl (lv_at hl 1 rfl) ?_
    refine z_cVi (n := 1) (b := m0) (As := [.int (iI x)]) (rest := [.ref m0]) ⟨hx, hb, hml, hown, hts⟩ (c_X5_endSkipOf l D cy m0 a0 p0 q0 v0 t0 ho th tl G (M.2.1.length : Int) x (by first | assumption | omega) (by first | assumption | omega) (by first | assumption | omega)) gX5_endSkipByTrying_X5_endSkipOf rfl (by decide +kernel) ⟨Nat.le_of_ble_eq_true rfl, Nat.le_of_ble_eq_true rfl⟩ hK hT hP hD hS hA [0, 1] rfl rfl 0 5 rfl rfl rfl (fun _ => rfl) rfl hl.1 rfl (Nat.le_of_ble_eq_true rfl) dX5_endSkipByTrying_11 ⟨Nat.zero_le _, Nat.zero_le _⟩ (fun r_3 u_3 H locs hw_3 hP hD hS => ?_)
    have hw_3 : r_3 = iI (endF (M.2.1.length : Int).toNat (gW G) x.toNat : Int) := hw_3
    have hP : va_P D vwCl [(m0, .inr (5, [.ref a0, .ref p0, .int (iI ho), .ref q0, .ref v0, .int (iI th), .ref t0, .int (iI tl)])), (a0, .inl (cy 0, 144, .inl G))] H := hP
    have hD : va_D A [(m0, .inr (5, [.ref a0, .ref p0, .int (iI ho), .ref q0, .ref v0, .int (iI th), .ref t0, .int (iI tl)])), (a0, .inl (cy 0, 144, .inl G))] := hD
    obtain rfl := hw_3
    refine z_cVi (n := 1) (b := m0) (As := [.int (iI (endF (M.2.1.length : Int).toNat (gW G) x.toNat : Int))]) (rest := []) ⟨hx, hb, hml, hown, hts⟩ (c_X5_told l D cy m0 a0 p0 q0 v0 t0 ho th tl (iI (endF (M.2.1.length : Int).toNat (gW G) x.toNat : Int)) ) gX5_endSkipByTrying_X5_told rfl (by decide +kernel) ⟨Nat.le_of_ble_eq_true rfl, Nat.le_of_ble_eq_true rfl⟩ hK hT hP hD hS hA [0] rfl rfl 0 5 rfl rfl rfl (fun _ => rfl) rfl hl.1 rfl (Nat.le_of_ble_eq_true rfl) dX5_endSkipByTrying_14 ⟨Nat.zero_le _, Nat.zero_le _⟩ (fun r_4 u_4 H locs hw_4 hP hD hS => ?_)
    have hw_4 : r_4 = (iI (endF (M.2.1.length : Int).toNat (gW G) x.toNat : Int)) := hw_4
    have hP : va_P D vwCl [(m0, .inr (5, [.ref a0, .ref p0, .int (iI ho), .ref q0, .ref v0, .int (iI 0), .ref t0, .int (iI tl)])), (a0, .inl (cy 0, 144, .inl G))] H := hP
    have hD : va_D A [(m0, .inr (5, [.ref a0, .ref p0, .int (iI ho), .ref q0, .ref v0, .int (iI 0), .ref t0, .int (iI tl)])), (a0, .inl (cy 0, 144, .inl G))] := hD
    obtain rfl := hw_4
    refine lv_goto (tgt := 25) hx hb dX5_endSkipByTrying_17 (by decide) ?_
    exact z_iret hx hb hr hlocks hS (0) (show ((0 ≤ x ∧ x < (M.2.1.length : Int)) ∧ (iI (endF (M.2.1.length : Int).toNat (gW G) x.toNat : Int)) = iI (endF M.2.1.length (gl M.2.1) x.toNat : Int) ∧ 0 = 0) ∨ (¬ (0 ≤ x ∧ x < (M.2.1.length : Int)) ∧ (iI (endF (M.2.1.length : Int).toNat (gW G) x.toNat : Int)) = iI 0 ∧ 0 = 1) from (by first | exact Or.inl ⟨by omega, (congrArg (fun k : Nat => iI (k : Int)) (endF_congr (fun j hj => h62W j (by omega)) (by omega))), rfl⟩ | exact Or.inr ⟨by omega, rfl, rfl⟩)) hP dX5_endSkipByTrying_25
  · --
    refine z_if_eq (tgt := 20) hx hb (iI_t (by omega) (by omega)) dX5_endSkipByTrying_5 (by decide) (fun _ => ?_) (fun c5 => absurd c5 (by omega))
    refine lv_aload_n hx hb dX5_endSkipByTrying_20 rfl (lv_at hl 0 rfl) ?_
    refine lv_iconst (v := iI 1) hx hb dX5_endSkipByTrying_21 rfl ?_
    refine z_cVi (n := 1) (b := m0) (As := [.int (iI 1)]) (rest := []) ⟨hx, hb, hml, hown, hts⟩ (c_X5_fails l D cy m0 a0 p0 q0 v0 t0 ho th tl 1 ) gX5_endSkipByTrying_X5_fails rfl (by decide +kernel) ⟨Nat.le_of_ble_eq_true rfl, Nat.le_of_ble_eq_true rfl⟩ hK hT hP hD hS hA [0] rfl rfl 0 5 rfl rfl rfl (fun _ => rfl) rfl hl.1 rfl (Nat.le_of_ble_eq_true rfl) dX5_endSkipByTrying_22 ⟨Nat.zero_le _, Nat.zero_le _⟩ (fun r_6 u_6 H locs hw_6 hP hD hS => ?_)
    have hw_6 : r_6 = iI 0 := hw_6
    have hP : va_P D vwCl [(m0, .inr (5, [.ref a0, .ref p0, .int (iI ho), .ref q0, .ref v0, .int (iI 1), .ref t0, .int (iI tl)])), (a0, .inl (cy 0, 144, .inl G))] H := hP
    have hD : va_D A [(m0, .inr (5, [.ref a0, .ref p0, .int (iI ho), .ref q0, .ref v0, .int (iI 1), .ref t0, .int (iI tl)])), (a0, .inl (cy 0, 144, .inl G))] := hD
    obtain rfl := hw_6
    exact z_iret hx hb hr hlocks hS (1) (show ((0 ≤ x ∧ x < (M.2.1.length : Int)) ∧ (iI 0) = iI (endF M.2.1.length (gl M.2.1) x.toNat : Int) ∧ 1 = 0) ∨ (¬ (0 ≤ x ∧ x < (M.2.1.length : Int)) ∧ (iI 0) = iI 0 ∧ 1 = 1) from (by first | exact Or.inl ⟨by omega, (congrArg (fun k : Nat => iI (k : Int)) (endF_congr (fun j hj => h62W j (by omega)) (by omega))), rfl⟩ | exact Or.inr ⟨by omega, rfl, rfl⟩)) hP dX5_endSkipByTrying_25
set_option maxHeartbeats 4000000 in
set_option maxRecDepth 100000 in
theorem c_X5_period (l : Launch) (D : va_G) (cy : Nat → ClassId) (m0 : Nat) (a0 : Nat) (p0 : Nat) (q0 : Nat) (v0 : Nat) (t0 : Nat) (ho : Int) (th : Int) (tl : Int) (G : Nat → Int32) (M : MS) (hG : RG G M) (hM : MOk M) : Ci l D cy yX5_period wsX5_period 1 24 [.ref m0] [(m0, .inr (5, [.ref a0, .ref p0, .int (iI ho), .ref q0, .ref v0, .int (iI th), .ref t0, .int (iI tl)])), (a0, .inl (cy 0, 144, .inl G))] (fun (r : Int32) (u : Unit) => r = iI (perF M.2.1.length (gl M.2.1) : Int)) (fun u : Unit => [(m0, .inr (5, [.ref a0, .ref p0, .int (iI ho), .ref q0, .ref v0, .int (iI 0), .ref t0, .int (iI tl)])), (a0, .inl (cy 0, 144, .inl G))]) := by
  refine Ci_of (cc := cX5_period) (maxL := 1) (ret := (some .int)) (by decide) rfl rfl ?_
  intro p e s m args below meth c A hx hb hr hts hown hlocks hml hP hK hD hT hA ls hl
  have hS : va_S A s.heap s.heap [] := va_S.rf
  have hl : lv_has ls 1 [(0, .ref m0)] := hl
  obtain ⟨h0, h1L, h61, h62W, h78, h79, h80, h81, h82, h83, h84F⟩ := id hG
  obtain ⟨o1, o2, o3, o4, o5, o6, o7, o8, o9, o10, o11, o12, o13, o14, o15⟩ := id hM
  refine lv_aload_n hx hb dX5_period_0 rfl (lv_at hl 0 rfl) ?_
  refine lv_aload_n hx hb dX5_period_1 rfl (lv_at hl 0 rfl) ?_
  refine z_cVi (n := 0) (b := m0) (As := []) (rest := [.ref m0]) ⟨hx, hb, hml, hown, hts⟩ (c_X5_periodNow l D cy m0 a0 p0 q0 v0 t0 ho th tl G (M.2.1.length : Int) (by first | assumption | omega) (by first | assumption | omega)) gX5_period_X5_periodNow rfl (by decide +kernel) ⟨Nat.le_of_ble_eq_true rfl, Nat.le_of_ble_eq_true rfl⟩ hK hT hP hD hS hA [0, 1] rfl rfl 0 5 rfl rfl rfl (fun _ => rfl) rfl hl.1 rfl (Nat.le_of_ble_eq_true rfl) dX5_period_2 ⟨Nat.zero_le _, Nat.zero_le _⟩ (fun r_1 u_1 H locs hw_1 hP hD hS => ?_)
  have hw_1 : r_1 = iI (perF (M.2.1.length : Int).toNat (gW G) : Int) := hw_1
  have hP : va_P D vwCl [(m0, .inr (5, [.ref a0, .ref p0, .int (iI ho), .ref q0, .ref v0, .int (iI th), .ref t0, .int (iI tl)])), (a0, .inl (cy 0, 144, .inl G))] H := hP
  have hD : va_D A [(m0, .inr (5, [.ref a0, .ref p0, .int (iI ho), .ref q0, .ref v0, .int (iI th), .ref t0, .int (iI tl)])), (a0, .inl (cy 0, 144, .inl G))] := hD
  obtain rfl := hw_1
  refine z_cVi (n := 1) (b := m0) (As := [.int (iI (perF (M.2.1.length : Int).toNat (gW G) : Int))]) (rest := []) ⟨hx, hb, hml, hown, hts⟩ (c_X5_told l D cy m0 a0 p0 q0 v0 t0 ho th tl (iI (perF (M.2.1.length : Int).toNat (gW G) : Int)) ) gX5_period_X5_told rfl (by decide +kernel) ⟨Nat.le_of_ble_eq_true rfl, Nat.le_of_ble_eq_true rfl⟩ hK hT hP hD hS hA [0] rfl rfl 0 5 rfl rfl rfl (fun _ => rfl) rfl hl.1 rfl (Nat.le_of_ble_eq_true rfl) dX5_period_5 ⟨Nat.zero_le _, Nat.zero_le _⟩ (fun r_2 u_2 H locs hw_2 hP hD hS => ?_)
  have hw_2 : r_2 = (iI (perF (M.2.1.length : Int).toNat (gW G) : Int)) := hw_2
  have hP : va_P D vwCl [(m0, .inr (5, [.ref a0, .ref p0, .int (iI ho), .ref q0, .ref v0, .int (iI 0), .ref t0, .int (iI tl)])), (a0, .inl (cy 0, 144, .inl G))] H := hP
  have hD : va_D A [(m0, .inr (5, [.ref a0, .ref p0, .int (iI ho), .ref q0, .ref v0, .int (iI 0), .ref t0, .int (iI tl)])), (a0, .inl (cy 0, 144, .inl G))] := hD
  obtain rfl := hw_2
  exact z_iret hx hb hr hlocks hS () (show (iI (perF (M.2.1.length : Int).toNat (gW G) : Int)) = iI (perF M.2.1.length (gl M.2.1) : Int) from (congrArg (fun k : Nat => iI (k : Int)) (perF_congr (fun j hj => h62W j (by omega))))) hP dX5_period_8
set_option maxHeartbeats 4000000 in
set_option maxRecDepth 100000 in
theorem c_X5_border (l : Launch) (D : va_G) (cy : Nat → ClassId) (m0 : Nat) (a0 : Nat) (p0 : Nat) (q0 : Nat) (v0 : Nat) (t0 : Nat) (ho : Int) (th : Int) (tl : Int) (G : Nat → Int32) (M : MS) (hG : RG G M) (hM : MOk M) : Ci l D cy yX5_border wsX5_border 1 24 [.ref m0] [(m0, .inr (5, [.ref a0, .ref p0, .int (iI ho), .ref q0, .ref v0, .int (iI th), .ref t0, .int (iI tl)])), (a0, .inl (cy 0, 144, .inl G))] (fun (r : Int32) (u : Unit) => r = iI ((M.2.1.length : Int) - (perF M.2.1.length (gl M.2.1) : Int))) (fun u : Unit => [(m0, .inr (5, [.ref a0, .ref p0, .int (iI ho), .ref q0, .ref v0, .int (iI 0), .ref t0, .int (iI tl)])), (a0, .inl (cy 0, 144, .inl G))]) := by
  refine Ci_of (cc := cX5_border) (maxL := 1) (ret := (some .int)) (by decide) rfl rfl ?_
  intro p e s m args below meth c A hx hb hr hts hown hlocks hml hP hK hD hT hA ls hl
  have hS : va_S A s.heap s.heap [] := va_S.rf
  have hl : lv_has ls 1 [(0, .ref m0)] := hl
  have hiX5 : ∀ w ∈ wsX50, w ∈ wsX5_border := by decide +kernel
  obtain ⟨h0, h1L, h61, h62W, h78, h79, h80, h81, h82, h83, h84F⟩ := id hG
  obtain ⟨o1, o2, o3, o4, o5, o6, o7, o8, o9, o10, o11, o12, o13, o14, o15⟩ := id hM
  refine lv_aload_n hx hb dX5_border_0 rfl (lv_at hl 0 rfl) ?_
  refine lv_aload_n hx hb dX5_border_1 rfl (lv_at hl 0 rfl) ?_
  refine va_get (D := D) (ci := 5) (v := .ref a0) (C := RX5) (T := TX5) (N := 8) hx hb hts hiX5 hown hK hP 0 rfl rfl 0 (by decide) (hts (.fieldLink RX5 7 "BackwardSearchModel" "all" "[I") (by decide +kernel)) (fun _ h9 => h9) rfl dX5_border_2 ?_
  refine lv_bipush (v := iI 61) hx hb dX5_border_5 (by decide +kernel) ?_
  refine z_iald hx hb hK hP 1 rfl (by omega) (by omega) (by omega) dX5_border_7 ?_
  refine z_top (show G (61 : Int).toNat = iI (M.2.1.length : Int) from by exact h61) ?_
  refine lv_aload_n hx hb dX5_border_8 rfl (lv_at hl 0 rfl) ?_
  refine z_cVi (n := 0) (b := m0) (As := []) (rest := [.int (iI (M.2.1.length : Int)), .ref m0]) ⟨hx, hb, hml, hown, hts⟩ (c_X5_periodNow l D cy m0 a0 p0 q0 v0 t0 ho th tl G (M.2.1.length : Int) (by first | assumption | omega) (by first | assumption | omega)) gX5_border_X5_periodNow rfl (by decide +kernel) ⟨Nat.le_of_ble_eq_true rfl, Nat.le_of_ble_eq_true rfl⟩ hK hT hP hD hS hA [0, 1] rfl rfl 0 5 rfl rfl rfl (fun _ => rfl) rfl hl.1 rfl (Nat.le_of_ble_eq_true rfl) dX5_border_9 ⟨Nat.zero_le _, Nat.zero_le _⟩ (fun r_1 u_1 H locs hw_1 hP hD hS => ?_)
  have hw_1 : r_1 = iI (perF (M.2.1.length : Int).toNat (gW G) : Int) := hw_1
  have hP : va_P D vwCl [(m0, .inr (5, [.ref a0, .ref p0, .int (iI ho), .ref q0, .ref v0, .int (iI th), .ref t0, .int (iI tl)])), (a0, .inl (cy 0, 144, .inl G))] H := hP
  have hD : va_D A [(m0, .inr (5, [.ref a0, .ref p0, .int (iI ho), .ref q0, .ref v0, .int (iI th), .ref t0, .int (iI tl)])), (a0, .inl (cy 0, 144, .inl G))] := hD
  obtain rfl := hw_1
  refine z_sub hx hb dX5_border_12 ?_
  refine z_cVi (n := 1) (b := m0) (As := [.int (iI ((M.2.1.length : Int) - (perF (M.2.1.length : Int).toNat (gW G) : Int)))]) (rest := []) ⟨hx, hb, hml, hown, hts⟩ (c_X5_told l D cy m0 a0 p0 q0 v0 t0 ho th tl (iI ((M.2.1.length : Int) - (perF (M.2.1.length : Int).toNat (gW G) : Int))) ) gX5_border_X5_told rfl (by decide +kernel) ⟨Nat.le_of_ble_eq_true rfl, Nat.le_of_ble_eq_true rfl⟩ hK hT hP hD hS hA [0] rfl rfl 0 5 rfl rfl rfl (fun _ => rfl) rfl hl.1 rfl (Nat.le_of_ble_eq_true rfl) dX5_border_13 ⟨Nat.zero_le _, Nat.zero_le _⟩ (fun r_2 u_2 H locs hw_2 hP hD hS => ?_)
  have hw_2 : r_2 = (iI ((M.2.1.length : Int) - (perF (M.2.1.length : Int).toNat (gW G) : Int))) := hw_2
  have hP : va_P D vwCl [(m0, .inr (5, [.ref a0, .ref p0, .int (iI ho), .ref q0, .ref v0, .int (iI 0), .ref t0, .int (iI tl)])), (a0, .inl (cy 0, 144, .inl G))] H := hP
  have hD : va_D A [(m0, .inr (5, [.ref a0, .ref p0, .int (iI ho), .ref q0, .ref v0, .int (iI 0), .ref t0, .int (iI tl)])), (a0, .inl (cy 0, 144, .inl G))] := hD
  obtain rfl := hw_2
  exact z_iret hx hb hr hlocks hS () (show (iI ((M.2.1.length : Int) - (perF (M.2.1.length : Int).toNat (gW G) : Int))) = iI ((M.2.1.length : Int) - (perF M.2.1.length (gl M.2.1) : Int)) from (congrArg (fun k : Nat => iI ((M.2.1.length : Int) - (k : Int))) (perF_congr (fun j hj => h62W j (by omega))))) hP dX5_border_16

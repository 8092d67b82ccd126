theorem dX3_copy_0 : decode cX3_copy 0 = .ok (.aload_n 0, 1) := by decide +kernel
theorem dX3_copy_1 : decode cX3_copy 1 = .ok (.getfield 14, 3) := by decide +kernel
theorem dX3_copy_4 : decode cX3_copy 4 = .ok (.aload_n 1, 1) := by decide +kernel
theorem dX3_copy_5 : decode cX3_copy 5 = .ok (.getfield 14, 3) := by decide +kernel
theorem dX3_copy_8 : decode cX3_copy 8 = .ok (.invokevirtual 33, 3) := by decide +kernel
theorem dX3_copy_11 : decode cX3_copy 11 = .ok (.aload_n 0, 1) := by decide +kernel
theorem dX3_copy_12 : decode cX3_copy 12 = .ok (.getfield 20, 3) := by decide +kernel
theorem dX3_copy_15 : decode cX3_copy 15 = .ok (.aload_n 1, 1) := by decide +kernel
theorem dX3_copy_16 : decode cX3_copy 16 = .ok (.getfield 20, 3) := by decide +kernel
theorem dX3_copy_19 : decode cX3_copy 19 = .ok (.invokevirtual 33, 3) := by decide +kernel
theorem dX3_copy_22 : decode cX3_copy 22 = .ok (.aload_n 0, 1) := by decide +kernel
theorem dX3_copy_23 : decode cX3_copy 23 = .ok (.getfield 23, 3) := by decide +kernel
theorem dX3_copy_26 : decode cX3_copy 26 = .ok (.aload_n 1, 1) := by decide +kernel
theorem dX3_copy_27 : decode cX3_copy 27 = .ok (.getfield 23, 3) := by decide +kernel
theorem dX3_copy_30 : decode cX3_copy 30 = .ok (.invokevirtual 33, 3) := by decide +kernel
theorem dX3_copy_33 : decode cX3_copy 33 = .ok (.aload_n 0, 1) := by decide +kernel
theorem dX3_copy_34 : decode cX3_copy 34 = .ok (.aload_n 1, 1) := by decide +kernel
theorem dX3_copy_35 : decode cX3_copy 35 = .ok (.getfield 26, 3) := by decide +kernel
theorem dX3_copy_38 : decode cX3_copy 38 = .ok (.putfield 26, 3) := by decide +kernel
theorem dX3_copy_41 : decode cX3_copy 41 = .ok (.aload_n 0, 1) := by decide +kernel
theorem dX3_copy_42 : decode cX3_copy 42 = .ok (.aload_n 1, 1) := by decide +kernel
theorem dX3_copy_43 : decode cX3_copy 43 = .ok (.getfield 30, 3) := by decide +kernel
theorem dX3_copy_46 : decode cX3_copy 46 = .ok (.putfield 30, 3) := by decide +kernel
theorem dX3_copy_49 : decode cX3_copy 49 = .ok (.aload_n 0, 1) := by decide +kernel
theorem dX3_copy_50 : decode cX3_copy 50 = .ok (.aload_n 1, 1) := by decide +kernel
theorem dX3_copy_51 : decode cX3_copy 51 = .ok (.getfield 37, 3) := by decide +kernel
theorem dX3_copy_54 : decode cX3_copy 54 = .ok (.putfield 37, 3) := by decide +kernel
theorem dX3_copy_57 : decode cX3_copy 57 = .ok (.aload_n 0, 1) := by decide +kernel
theorem dX3_copy_58 : decode cX3_copy 58 = .ok (.aload_n 1, 1) := by decide +kernel
theorem dX3_copy_59 : decode cX3_copy 59 = .ok (.getfield 41, 3) := by decide +kernel
theorem dX3_copy_62 : decode cX3_copy 62 = .ok (.putfield 41, 3) := by decide +kernel
theorem dX3_copy_65 : decode cX3_copy 65 = .ok (.aload_n 0, 1) := by decide +kernel
theorem dX3_copy_66 : decode cX3_copy 66 = .ok (.aload_n 1, 1) := by decide +kernel
theorem dX3_copy_67 : decode cX3_copy 67 = .ok (.getfield 44, 3) := by decide +kernel
theorem dX3_copy_70 : decode cX3_copy 70 = .ok (.putfield 44, 3) := by decide +kernel
theorem dX3_copy_73 : decode cX3_copy 73 = .ok (.return_, 1) := by decide +kernel
set_option maxRecDepth 20000 in
theorem ggX3_copy_X2_copy : GoodIn wsX3_copy wsX2_copy := goodIn_r _ [13, 14, 15, 16, 17, 18, 12, 19, 20, 21, 22, 23, 32, 33] (by decide +kernel) (by decide +kernel)
set_option maxRecDepth 20000 in
theorem gX3_copy_X2_copy : GoodIn wsX3_copy (wsV RX3 33 RX2 yX2_copy wsX2_copy) := goodIn_app (goodIn_of _ (by decide +kernel)) ggX3_copy_X2_copy
theorem dX3_beginAnew_0 : decode cX3_beginAnew 0 = .ok (.aload_n 0, 1) := by decide +kernel
theorem dX3_beginAnew_1 : decode cX3_beginAnew 1 = .ok (.iconst 0, 1) := by decide +kernel
theorem dX3_beginAnew_2 : decode cX3_beginAnew 2 = .ok (.putfield 37, 3) := by decide +kernel
theorem dX3_beginAnew_5 : decode cX3_beginAnew 5 = .ok (.aload_n 0, 1) := by decide +kernel
theorem dX3_beginAnew_6 : decode cX3_beginAnew 6 = .ok (.iconst 0, 1) := by decide +kernel
theorem dX3_beginAnew_7 : decode cX3_beginAnew 7 = .ok (.putfield 41, 3) := by decide +kernel
theorem dX3_beginAnew_10 : decode cX3_beginAnew 10 = .ok (.aload_n 0, 1) := by decide +kernel
theorem dX3_beginAnew_11 : decode cX3_beginAnew 11 = .ok (.iconst 0, 1) := by decide +kernel
theorem dX3_beginAnew_12 : decode cX3_beginAnew 12 = .ok (.putfield 44, 3) := by decide +kernel
theorem dX3_beginAnew_15 : decode cX3_beginAnew 15 = .ok (.aload_n 0, 1) := by decide +kernel
theorem dX3_beginAnew_16 : decode cX3_beginAnew 16 = .ok (.getfield 23, 3) := by decide +kernel
theorem dX3_beginAnew_19 : decode cX3_beginAnew 19 = .ok (.invokevirtual 47, 3) := by decide +kernel
theorem dX3_beginAnew_22 : decode cX3_beginAnew 22 = .ok (.return_, 1) := by decide +kernel
set_option maxRecDepth 20000 in
theorem ggX3_beginAnew_X2_clear : GoodIn wsX3_beginAnew wsX2_clear := goodIn_r _ [9, 10, 19, 20] (by decide +kernel) (by decide +kernel)
set_option maxRecDepth 20000 in
theorem gX3_beginAnew_X2_clear : GoodIn wsX3_beginAnew (wsV RX3 47 RX2 yX2_clear wsX2_clear) := goodIn_app (goodIn_of _ (by decide +kernel)) ggX3_beginAnew_X2_clear
theorem dX3_useRules_0 : decode cX3_useRules 0 = .ok (.aload_n 0, 1) := by decide +kernel
theorem dX3_useRules_1 : decode cX3_useRules 1 = .ok (.iload_n 1, 1) := by decide +kernel
theorem dX3_useRules_2 : decode cX3_useRules 2 = .ok (.putfield 26, 3) := by decide +kernel
theorem dX3_useRules_5 : decode cX3_useRules 5 = .ok (.aload_n 0, 1) := by decide +kernel
theorem dX3_useRules_6 : decode cX3_useRules 6 = .ok (.iload_n 2, 1) := by decide +kernel
theorem dX3_useRules_7 : decode cX3_useRules 7 = .ok (.putfield 30, 3) := by decide +kernel
theorem dX3_useRules_10 : decode cX3_useRules 10 = .ok (.return_, 1) := by decide +kernel
theorem dX3_rulesOn_0 : decode cX3_rulesOn 0 = .ok (.aload_n 0, 1) := by decide +kernel
theorem dX3_rulesOn_1 : decode cX3_rulesOn 1 = .ok (.getfield 26, 3) := by decide +kernel
theorem dX3_rulesOn_4 : decode cX3_rulesOn 4 = .ok (.ifCond .eq 7, 3) := by decide +kernel
theorem dX3_rulesOn_7 : decode cX3_rulesOn 7 = .ok (.iconst 1, 1) := by decide +kernel
theorem dX3_rulesOn_8 : decode cX3_rulesOn 8 = .ok (.goto 4, 3) := by decide +kernel
theorem dX3_rulesOn_11 : decode cX3_rulesOn 11 = .ok (.iconst 0, 1) := by decide +kernel
theorem dX3_rulesOn_12 : decode cX3_rulesOn 12 = .ok (.aload_n 0, 1) := by decide +kernel
theorem dX3_rulesOn_13 : decode cX3_rulesOn 13 = .ok (.getfield 30, 3) := by decide +kernel
theorem dX3_rulesOn_16 : decode cX3_rulesOn 16 = .ok (.ifCond .eq 7, 3) := by decide +kernel
theorem dX3_rulesOn_19 : decode cX3_rulesOn 19 = .ok (.iconst 1, 1) := by decide +kernel
theorem dX3_rulesOn_20 : decode cX3_rulesOn 20 = .ok (.goto 4, 3) := by decide +kernel
theorem dX3_rulesOn_23 : decode cX3_rulesOn 23 = .ok (.iconst 0, 1) := by decide +kernel
theorem dX3_rulesOn_24 : decode cX3_rulesOn 24 = .ok (.iadd, 1) := by decide +kernel
theorem dX3_rulesOn_25 : decode cX3_rulesOn 25 = .ok (.ireturn, 1) := by decide +kernel
theorem dX3_beginnings_0 : decode cX3_beginnings 0 = .ok (.aload_n 0, 1) := by decide +kernel
theorem dX3_beginnings_1 : decode cX3_beginnings 1 = .ok (.getfield 14, 3) := by decide +kernel
theorem dX3_beginnings_4 : decode cX3_beginnings 4 = .ok (.invokevirtual 50, 3) := by decide +kernel
theorem dX3_beginnings_7 : decode cX3_beginnings 7 = .ok (.aload_n 0, 1) := by decide +kernel
theorem dX3_beginnings_8 : decode cX3_beginnings 8 = .ok (.getfield 20, 3) := by decide +kernel
theorem dX3_beginnings_11 : decode cX3_beginnings 11 = .ok (.invokevirtual 50, 3) := by decide +kernel
theorem dX3_beginnings_14 : decode cX3_beginnings 14 = .ok (.isub, 1) := by decide +kernel
theorem dX3_beginnings_15 : decode cX3_beginnings 15 = .ok (.iconst 1, 1) := by decide +kernel
theorem dX3_beginnings_16 : decode cX3_beginnings 16 = .ok (.iadd, 1) := by decide +kernel
theorem dX3_beginnings_17 : decode cX3_beginnings 17 = .ok (.iconst 0, 1) := by decide +kernel
theorem dX3_beginnings_18 : decode cX3_beginnings 18 = .ok (.invokestatic 54, 3) := by decide +kernel
theorem dX3_beginnings_21 : decode cX3_beginnings 21 = .ok (.ireturn, 1) := by decide +kernel
set_option maxRecDepth 20000 in
theorem ggX3_beginnings_X2_size : GoodIn wsX3_beginnings wsX2_size := goodIn_r _ [11, 12, 21, 22] (by decide +kernel) (by decide +kernel)
set_option maxRecDepth 20000 in
theorem gX3_beginnings_X2_size : GoodIn wsX3_beginnings (wsV RX3 50 RX2 yX2_size wsX2_size) := goodIn_app (goodIn_of _ (by decide +kernel)) ggX3_beginnings_X2_size
theorem dX3_hasEnded_0 : decode cX3_hasEnded 0 = .ok (.aload_n 0, 1) := by decide +kernel
theorem dX3_hasEnded_1 : decode cX3_hasEnded 1 = .ok (.getfield 20, 3) := by decide +kernel
theorem dX3_hasEnded_4 : decode cX3_hasEnded 4 = .ok (.invokevirtual 60, 3) := by decide +kernel
theorem dX3_hasEnded_7 : decode cX3_hasEnded 7 = .ok (.ifCond .ne 14, 3) := by decide +kernel
theorem dX3_hasEnded_10 : decode cX3_hasEnded 10 = .ok (.aload_n 0, 1) := by decide +kernel
theorem dX3_hasEnded_11 : decode cX3_hasEnded 11 = .ok (.getfield 37, 3) := by decide +kernel
theorem dX3_hasEnded_14 : decode cX3_hasEnded 14 = .ok (.aload_n 0, 1) := by decide +kernel
theorem dX3_hasEnded_15 : decode cX3_hasEnded 15 = .ok (.invokevirtual 64, 3) := by decide +kernel
theorem dX3_hasEnded_18 : decode cX3_hasEnded 18 = .ok (.if_icmp .lt 7, 3) := by decide +kernel
theorem dX3_hasEnded_21 : decode cX3_hasEnded 21 = .ok (.iconst 1, 1) := by decide +kernel
theorem dX3_hasEnded_22 : decode cX3_hasEnded 22 = .ok (.goto 4, 3) := by decide +kernel
theorem dX3_hasEnded_25 : decode cX3_hasEnded 25 = .ok (.iconst 0, 1) := by decide +kernel
theorem dX3_hasEnded_26 : decode cX3_hasEnded 26 = .ok (.ireturn, 1) := by decide +kernel
set_option maxRecDepth 20000 in
theorem ggX3_hasEnded_X2_isEmpty : GoodIn wsX3_hasEnded wsX2_isEmpty := goodIn_r _ [7, 8, 31, 32] (by decide +kernel) (by decide +kernel)
set_option maxRecDepth 20000 in
theorem gX3_hasEnded_X2_isEmpty : GoodIn wsX3_hasEnded (wsV RX3 60 RX2 yX2_isEmpty wsX2_isEmpty) := goodIn_app (goodIn_of _ (by decide +kernel)) ggX3_hasEnded_X2_isEmpty
set_option maxRecDepth 20000 in
theorem ggX3_hasEnded_X3_beginnings : GoodIn wsX3_hasEnded wsX3_beginnings := goodIn_r _ [13, 14, 1, 15, 16, 17, 18, 19, 20, 21, 6, 22, 8, 23, 24, 25, 26, 27, 28, 29, 30, 31, 32] (by decide +kernel) (by decide +kernel)
set_option maxRecDepth 20000 in
theorem gX3_hasEnded_X3_beginnings : GoodIn wsX3_hasEnded (wsV RX3 64 RX3 yX3_beginnings wsX3_beginnings) := goodIn_app (goodIn_of _ (by decide +kernel)) ggX3_hasEnded_X3_beginnings
theorem dX3_lastDifferenceAt_0 : decode cX3_lastDifferenceAt 0 = .ok (.aload_n 0, 1) := by decide +kernel
theorem dX3_lastDifferenceAt_1 : decode cX3_lastDifferenceAt 1 = .ok (.getfield 20, 3) := by decide +kernel
theorem dX3_lastDifferenceAt_4 : decode cX3_lastDifferenceAt 4 = .ok (.invokevirtual 50, 3) := by decide +kernel
theorem dX3_lastDifferenceAt_7 : decode cX3_lastDifferenceAt 7 = .ok (.iconst 1, 1) := by decide +kernel
theorem dX3_lastDifferenceAt_8 : decode cX3_lastDifferenceAt 8 = .ok (.isub, 1) := by decide +kernel
theorem dX3_lastDifferenceAt_9 : decode cX3_lastDifferenceAt 9 = .ok (.istore_n 2, 1) := by decide +kernel
theorem dX3_lastDifferenceAt_10 : decode cX3_lastDifferenceAt 10 = .ok (.iload_n 2, 1) := by decide +kernel
theorem dX3_lastDifferenceAt_11 : decode cX3_lastDifferenceAt 11 = .ok (.ifCond .lt 32, 3) := by decide +kernel
theorem dX3_lastDifferenceAt_14 : decode cX3_lastDifferenceAt 14 = .ok (.aload_n 0, 1) := by decide +kernel
theorem dX3_lastDifferenceAt_15 : decode cX3_lastDifferenceAt 15 = .ok (.getfield 20, 3) := by decide +kernel
theorem dX3_lastDifferenceAt_18 : decode cX3_lastDifferenceAt 18 = .ok (.iload_n 2, 1) := by decide +kernel
theorem dX3_lastDifferenceAt_19 : decode cX3_lastDifferenceAt 19 = .ok (.invokevirtual 85, 3) := by decide +kernel
theorem dX3_lastDifferenceAt_22 : decode cX3_lastDifferenceAt 22 = .ok (.aload_n 0, 1) := by decide +kernel
theorem dX3_lastDifferenceAt_23 : decode cX3_lastDifferenceAt 23 = .ok (.getfield 14, 3) := by decide +kernel
theorem dX3_lastDifferenceAt_26 : decode cX3_lastDifferenceAt 26 = .ok (.iload_n 1, 1) := by decide +kernel
theorem dX3_lastDifferenceAt_27 : decode cX3_lastDifferenceAt 27 = .ok (.iload_n 2, 1) := by decide +kernel
theorem dX3_lastDifferenceAt_28 : decode cX3_lastDifferenceAt 28 = .ok (.iadd, 1) := by decide +kernel
theorem dX3_lastDifferenceAt_29 : decode cX3_lastDifferenceAt 29 = .ok (.invokevirtual 85, 3) := by decide +kernel
theorem dX3_lastDifferenceAt_32 : decode cX3_lastDifferenceAt 32 = .ok (.if_icmp .eq 5, 3) := by decide +kernel
theorem dX3_lastDifferenceAt_35 : decode cX3_lastDifferenceAt 35 = .ok (.iload_n 2, 1) := by decide +kernel
theorem dX3_lastDifferenceAt_36 : decode cX3_lastDifferenceAt 36 = .ok (.ireturn, 1) := by decide +kernel
theorem dX3_lastDifferenceAt_37 : decode cX3_lastDifferenceAt 37 = .ok (.iinc 2 (-1), 3) := by decide +kernel
theorem dX3_lastDifferenceAt_40 : decode cX3_lastDifferenceAt 40 = .ok (.goto (-30), 3) := by decide +kernel
theorem dX3_lastDifferenceAt_43 : decode cX3_lastDifferenceAt 43 = .ok (.iconst (-1), 1) := by decide +kernel
theorem dX3_lastDifferenceAt_44 : decode cX3_lastDifferenceAt 44 = .ok (.ireturn, 1) := by decide +kernel
set_option maxRecDepth 20000 in
theorem ggX3_lastDifferenceAt_X2_size : GoodIn wsX3_lastDifferenceAt wsX2_size := goodIn_r _ [7, 8, 26, 27] (by decide +kernel) (by decide +kernel)
set_option maxRecDepth 20000 in
theorem gX3_lastDifferenceAt_X2_size : GoodIn wsX3_lastDifferenceAt (wsV RX3 50 RX2 yX2_size wsX2_size) := goodIn_app (goodIn_of _ (by decide +kernel)) ggX3_lastDifferenceAt_X2_size
set_option maxRecDepth 20000 in
theorem ggX3_lastDifferenceAt_X2_at : GoodIn wsX3_lastDifferenceAt wsX2_at := goodIn_r _ [12, 13, 14, 15, 16, 6, 17, 8, 26, 27] (by decide +kernel) (by decide +kernel)
set_option maxRecDepth 20000 in
theorem gX3_lastDifferenceAt_X2_at : GoodIn wsX3_lastDifferenceAt (wsV RX3 85 RX2 yX2_at wsX2_at) := goodIn_app (goodIn_of _ (by decide +kernel)) ggX3_lastDifferenceAt_X2_at
theorem dX3_skipByLetter_0 : decode cX3_skipByLetter 0 = .ok (.iload_n 1, 1) := by decide +kernel
theorem dX3_skipByLetter_1 : decode cX3_skipByLetter 1 = .ok (.aload_n 0, 1) := by decide +kernel
theorem dX3_skipByLetter_2 : decode cX3_skipByLetter 2 = .ok (.getfield 20, 3) := by decide +kernel
theorem dX3_skipByLetter_5 : decode cX3_skipByLetter 5 = .ok (.iload_n 2, 1) := by decide +kernel
theorem dX3_skipByLetter_6 : decode cX3_skipByLetter 6 = .ok (.invokevirtual 99, 3) := by decide +kernel
theorem dX3_skipByLetter_9 : decode cX3_skipByLetter 9 = .ok (.isub, 1) := by decide +kernel
theorem dX3_skipByLetter_10 : decode cX3_skipByLetter 10 = .ok (.ireturn, 1) := by decide +kernel
set_option maxRecDepth 20000 in
theorem ggX3_skipByLetter_X2_lastPlaceWith : GoodIn wsX3_skipByLetter wsX2_lastPlaceWith := goodIn_r _ [6, 7, 8, 17, 18] (by decide +kernel) (by decide +kernel)
set_option maxRecDepth 20000 in
theorem gX3_skipByLetter_X2_lastPlaceWith : GoodIn wsX3_skipByLetter (wsV RX3 99 RX2 yX2_lastPlaceWith wsX2_lastPlaceWith) := goodIn_app (goodIn_of _ (by decide +kernel)) ggX3_skipByLetter_X2_lastPlaceWith
theorem dX0_skipAt_0 : decode cX0_skipAt 0 = .ok (.iload_n 1, 1) := by decide +kernel
theorem dX0_skipAt_1 : decode cX0_skipAt 1 = .ok (.ifCond .lt 22, 3) := by decide +kernel
theorem dX0_skipAt_4 : decode cX0_skipAt 4 = .ok (.iload_n 1, 1) := by decide +kernel
theorem dX0_skipAt_5 : decode cX0_skipAt 5 = .ok (.aload_n 0, 1) := by decide +kernel
theorem dX0_skipAt_6 : decode cX0_skipAt 6 = .ok (.getfield 30, 3) := by decide +kernel
theorem dX0_skipAt_9 : decode cX0_skipAt 9 = .ok (.if_icmp .ge 14, 3) := by decide +kernel
theorem dX0_skipAt_12 : decode cX0_skipAt 12 = .ok (.aload_n 0, 1) := by decide +kernel
theorem dX0_skipAt_13 : decode cX0_skipAt 13 = .ok (.getfield 15, 3) := by decide +kernel
theorem dX0_skipAt_16 : decode cX0_skipAt 16 = .ok (.iload_n 1, 1) := by decide +kernel
theorem dX0_skipAt_17 : decode cX0_skipAt 17 = .ok (.iconst 1, 1) := by decide +kernel
theorem dX0_skipAt_18 : decode cX0_skipAt 18 = .ok (.iadd, 1) := by decide +kernel
theorem dX0_skipAt_19 : decode cX0_skipAt 19 = .ok (.iaload, 1) := by decide +kernel
theorem dX0_skipAt_20 : decode cX0_skipAt 20 = .ok (.goto 4, 3) := by decide +kernel
theorem dX0_skipAt_23 : decode cX0_skipAt 23 = .ok (.iconst 0, 1) := by decide +kernel
theorem dX0_skipAt_24 : decode cX0_skipAt 24 = .ok (.ireturn, 1) := by decide +kernel
theorem dX0_wordPeriod_0 : decode cX0_wordPeriod 0 = .ok (.aload_n 0, 1) := by decide +kernel
theorem dX0_wordPeriod_1 : decode cX0_wordPeriod 1 = .ok (.getfield 30, 3) := by decide +kernel
theorem dX0_wordPeriod_4 : decode cX0_wordPeriod 4 = .ok (.ifCond .ne 7, 3) := by decide +kernel
theorem dX0_wordPeriod_7 : decode cX0_wordPeriod 7 = .ok (.iconst 0, 1) := by decide +kernel
theorem dX0_wordPeriod_8 : decode cX0_wordPeriod 8 = .ok (.goto 9, 3) := by decide +kernel
theorem dX0_wordPeriod_11 : decode cX0_wordPeriod 11 = .ok (.aload_n 0, 1) := by decide +kernel
theorem dX0_wordPeriod_12 : decode cX0_wordPeriod 12 = .ok (.getfield 9, 3) := by decide +kernel
theorem dX0_wordPeriod_15 : decode cX0_wordPeriod 15 = .ok (.iconst 0, 1) := by decide +kernel
theorem dX0_wordPeriod_16 : decode cX0_wordPeriod 16 = .ok (.iaload, 1) := by decide +kernel
theorem dX0_wordPeriod_17 : decode cX0_wordPeriod 17 = .ok (.ireturn, 1) := by decide +kernel
theorem dX3_skipBehind_0 : decode cX3_skipBehind 0 = .ok (.iload_n 1, 1) := by decide +kernel
theorem dX3_skipBehind_1 : decode cX3_skipBehind 1 = .ok (.iconst (-1), 1) := by decide +kernel
theorem dX3_skipBehind_2 : decode cX3_skipBehind 2 = .ok (.if_icmp .ne 8, 3) := by decide +kernel
theorem dX3_skipBehind_5 : decode cX3_skipBehind 5 = .ok (.aload_n 2, 1) := by decide +kernel
theorem dX3_skipBehind_6 : decode cX3_skipBehind 6 = .ok (.invokevirtual 88, 3) := by decide +kernel
theorem dX3_skipBehind_9 : decode cX3_skipBehind 9 = .ok (.ireturn, 1) := by decide +kernel
theorem dX3_skipBehind_10 : decode cX3_skipBehind 10 = .ok (.iconst 1, 1) := by decide +kernel
theorem dX3_skipBehind_11 : decode cX3_skipBehind 11 = .ok (.istore_n 3, 1) := by decide +kernel
theorem dX3_skipBehind_12 : decode cX3_skipBehind 12 = .ok (.aload_n 0, 1) := by decide +kernel
theorem dX3_skipBehind_13 : decode cX3_skipBehind 13 = .ok (.getfield 26, 3) := by decide +kernel
theorem dX3_skipBehind_16 : decode cX3_skipBehind 16 = .ok (.ifCond .eq 26, 3) := by decide +kernel
theorem dX3_skipBehind_19 : decode cX3_skipBehind 19 = .ok (.iload_n 3, 1) := by decide +kernel
theorem dX3_skipBehind_20 : decode cX3_skipBehind 20 = .ok (.aload_n 0, 1) := by decide +kernel
theorem dX3_skipBehind_21 : decode cX3_skipBehind 21 = .ok (.iload_n 1, 1) := by decide +kernel
theorem dX3_skipBehind_22 : decode cX3_skipBehind 22 = .ok (.aload_n 0, 1) := by decide +kernel
theorem dX3_skipBehind_23 : decode cX3_skipBehind 23 = .ok (.getfield 14, 3) := by decide +kernel
theorem dX3_skipBehind_26 : decode cX3_skipBehind 26 = .ok (.aload_n 0, 1) := by decide +kernel
theorem dX3_skipBehind_27 : decode cX3_skipBehind 27 = .ok (.getfield 37, 3) := by decide +kernel
theorem dX3_skipBehind_30 : decode cX3_skipBehind 30 = .ok (.iload_n 1, 1) := by decide +kernel
theorem dX3_skipBehind_31 : decode cX3_skipBehind 31 = .ok (.iadd, 1) := by decide +kernel
theorem dX3_skipBehind_32 : decode cX3_skipBehind 32 = .ok (.invokevirtual 85, 3) := by decide +kernel
theorem dX3_skipBehind_35 : decode cX3_skipBehind 35 = .ok (.invokevirtual 93, 3) := by decide +kernel
theorem dX3_skipBehind_38 : decode cX3_skipBehind 38 = .ok (.invokestatic 54, 3) := by decide +kernel
theorem dX3_skipBehind_41 : decode cX3_skipBehind 41 = .ok (.istore_n 3, 1) := by decide +kernel
theorem dX3_skipBehind_42 : decode cX3_skipBehind 42 = .ok (.aload_n 0, 1) := by decide +kernel
theorem dX3_skipBehind_43 : decode cX3_skipBehind 43 = .ok (.getfield 30, 3) := by decide +kernel
theorem dX3_skipBehind_46 : decode cX3_skipBehind 46 = .ok (.ifCond .eq 13, 3) := by decide +kernel
theorem dX3_skipBehind_49 : decode cX3_skipBehind 49 = .ok (.iload_n 3, 1) := by decide +kernel
theorem dX3_skipBehind_50 : decode cX3_skipBehind 50 = .ok (.aload_n 2, 1) := by decide +kernel
theorem dX3_skipBehind_51 : decode cX3_skipBehind 51 = .ok (.iload_n 1, 1) := by decide +kernel
theorem dX3_skipBehind_52 : decode cX3_skipBehind 52 = .ok (.invokevirtual 96, 3) := by decide +kernel
theorem dX3_skipBehind_55 : decode cX3_skipBehind 55 = .ok (.invokestatic 54, 3) := by decide +kernel
theorem dX3_skipBehind_58 : decode cX3_skipBehind 58 = .ok (.istore_n 3, 1) := by decide +kernel
theorem dX3_skipBehind_59 : decode cX3_skipBehind 59 = .ok (.iload_n 3, 1) := by decide +kernel
theorem dX3_skipBehind_60 : decode cX3_skipBehind 60 = .ok (.ireturn, 1) := by decide +kernel
set_option maxRecDepth 20000 in
theorem ggX3_skipBehind_X0_wordPeriod : GoodIn wsX3_skipBehind wsX0_wordPeriod := goodIn_r _ [13, 14, 15, 50, 51, 52] (by decide +kernel) (by decide +kernel)
set_option maxRecDepth 20000 in
theorem gX3_skipBehind_X0_wordPeriod : GoodIn wsX3_skipBehind (wsV RX3 88 RX0 yX0_wordPeriod wsX0_wordPeriod) := goodIn_app (goodIn_of _ (by decide +kernel)) ggX3_skipBehind_X0_wordPeriod
set_option maxRecDepth 20000 in
theorem ggX3_skipBehind_X2_at : GoodIn wsX3_skipBehind wsX2_at := goodIn_r _ [20, 21, 22, 23, 24, 19, 25, 26, 53, 54] (by decide +kernel) (by decide +kernel)
set_option maxRecDepth 20000 in
theorem gX3_skipBehind_X2_at : GoodIn wsX3_skipBehind (wsV RX3 85 RX2 yX2_at wsX2_at) := goodIn_app (goodIn_of _ (by decide +kernel)) ggX3_skipBehind_X2_at
set_option maxRecDepth 20000 in
theorem ggX3_skipBehind_X3_skipByLetter : GoodIn wsX3_skipBehind wsX3_skipByLetter := goodIn_r _ [31, 32, 33, 34, 35, 19, 36, 26, 21, 42, 43, 44, 45, 46, 47, 48, 49, 53, 54] (by decide +kernel) (by decide +kernel)
set_option maxRecDepth 20000 in
theorem gX3_skipBehind_X3_skipByLetter : GoodIn wsX3_skipBehind (wsV RX3 93 RX3 yX3_skipByLetter wsX3_skipByLetter) := goodIn_app (goodIn_of _ (by decide +kernel)) ggX3_skipBehind_X3_skipByLetter
set_option maxRecDepth 20000 in
theorem ggX3_skipBehind_X0_skipAt : GoodIn wsX3_skipBehind wsX0_skipAt := goodIn_r _ [40, 14, 41, 50, 51, 52] (by decide +kernel) (by decide +kernel)
set_option maxRecDepth 20000 in
theorem gX3_skipBehind_X0_skipAt : GoodIn wsX3_skipBehind (wsV RX3 96 RX0 yX0_skipAt wsX0_skipAt) := goodIn_app (goodIn_of _ (by decide +kernel)) ggX3_skipBehind_X0_skipAt
theorem dX3_lookOnce_0 : decode cX3_lookOnce 0 = .ok (.aload_n 0, 1) := by decide +kernel
theorem dX3_lookOnce_1 : decode cX3_lookOnce 1 = .ok (.aload_n 0, 1) := by decide +kernel
theorem dX3_lookOnce_2 : decode cX3_lookOnce 2 = .ok (.getfield 37, 3) := by decide +kernel
theorem dX3_lookOnce_5 : decode cX3_lookOnce 5 = .ok (.invokevirtual 74, 3) := by decide +kernel
theorem dX3_lookOnce_8 : decode cX3_lookOnce 8 = .ok (.istore_n 2, 1) := by decide +kernel
theorem dX3_lookOnce_9 : decode cX3_lookOnce 9 = .ok (.aload_n 0, 1) := by decide +kernel
theorem dX3_lookOnce_10 : decode cX3_lookOnce 10 = .ok (.dup, 1) := by decide +kernel
theorem dX3_lookOnce_11 : decode cX3_lookOnce 11 = .ok (.getfield 41, 3) := by decide +kernel
theorem dX3_lookOnce_14 : decode cX3_lookOnce 14 = .ok (.iconst 1, 1) := by decide +kernel
theorem dX3_lookOnce_15 : decode cX3_lookOnce 15 = .ok (.iadd, 1) := by decide +kernel
theorem dX3_lookOnce_16 : decode cX3_lookOnce 16 = .ok (.putfield 41, 3) := by decide +kernel
theorem dX3_lookOnce_19 : decode cX3_lookOnce 19 = .ok (.aload_n 0, 1) := by decide +kernel
theorem dX3_lookOnce_20 : decode cX3_lookOnce 20 = .ok (.dup, 1) := by decide +kernel
theorem dX3_lookOnce_21 : decode cX3_lookOnce 21 = .ok (.getfield 44, 3) := by decide +kernel
theorem dX3_lookOnce_24 : decode cX3_lookOnce 24 = .ok (.aload_n 0, 1) := by decide +kernel
theorem dX3_lookOnce_25 : decode cX3_lookOnce 25 = .ok (.getfield 20, 3) := by decide +kernel
theorem dX3_lookOnce_28 : decode cX3_lookOnce 28 = .ok (.invokevirtual 50, 3) := by decide +kernel
theorem dX3_lookOnce_31 : decode cX3_lookOnce 31 = .ok (.iload_n 2, 1) := by decide +kernel
theorem dX3_lookOnce_32 : decode cX3_lookOnce 32 = .ok (.iconst 0, 1) := by decide +kernel
theorem dX3_lookOnce_33 : decode cX3_lookOnce 33 = .ok (.invokestatic 54, 3) := by decide +kernel
theorem dX3_lookOnce_36 : decode cX3_lookOnce 36 = .ok (.isub, 1) := by decide +kernel
theorem dX3_lookOnce_37 : decode cX3_lookOnce 37 = .ok (.iadd, 1) := by decide +kernel
theorem dX3_lookOnce_38 : decode cX3_lookOnce 38 = .ok (.putfield 44, 3) := by decide +kernel
theorem dX3_lookOnce_41 : decode cX3_lookOnce 41 = .ok (.aload_n 0, 1) := by decide +kernel
theorem dX3_lookOnce_42 : decode cX3_lookOnce 42 = .ok (.iload_n 2, 1) := by decide +kernel
theorem dX3_lookOnce_43 : decode cX3_lookOnce 43 = .ok (.aload_n 1, 1) := by decide +kernel
theorem dX3_lookOnce_44 : decode cX3_lookOnce 44 = .ok (.invokevirtual 78, 3) := by decide +kernel
theorem dX3_lookOnce_47 : decode cX3_lookOnce 47 = .ok (.istore_n 3, 1) := by decide +kernel
theorem dX3_lookOnce_48 : decode cX3_lookOnce 48 = .ok (.iload_n 2, 1) := by decide +kernel
theorem dX3_lookOnce_49 : decode cX3_lookOnce 49 = .ok (.iconst (-1), 1) := by decide +kernel
theorem dX3_lookOnce_50 : decode cX3_lookOnce 50 = .ok (.if_icmp .ne 14, 3) := by decide +kernel
theorem dX3_lookOnce_53 : decode cX3_lookOnce 53 = .ok (.aload_n 0, 1) := by decide +kernel
theorem dX3_lookOnce_54 : decode cX3_lookOnce 54 = .ok (.getfield 23, 3) := by decide +kernel
theorem dX3_lookOnce_57 : decode cX3_lookOnce 57 = .ok (.aload_n 0, 1) := by decide +kernel
theorem dX3_lookOnce_58 : decode cX3_lookOnce 58 = .ok (.getfield 37, 3) := by decide +kernel
theorem dX3_lookOnce_61 : decode cX3_lookOnce 61 = .ok (.invokevirtual 82, 3) := by decide +kernel
theorem dX3_lookOnce_64 : decode cX3_lookOnce 64 = .ok (.aload_n 0, 1) := by decide +kernel
theorem dX3_lookOnce_65 : decode cX3_lookOnce 65 = .ok (.dup, 1) := by decide +kernel
theorem dX3_lookOnce_66 : decode cX3_lookOnce 66 = .ok (.getfield 37, 3) := by decide +kernel
theorem dX3_lookOnce_69 : decode cX3_lookOnce 69 = .ok (.iload_n 3, 1) := by decide +kernel
theorem dX3_lookOnce_70 : decode cX3_lookOnce 70 = .ok (.iadd, 1) := by decide +kernel
theorem dX3_lookOnce_71 : decode cX3_lookOnce 71 = .ok (.putfield 37, 3) := by decide +kernel
theorem dX3_lookOnce_74 : decode cX3_lookOnce 74 = .ok (.iload_n 3, 1) := by decide +kernel
theorem dX3_lookOnce_75 : decode cX3_lookOnce 75 = .ok (.ireturn, 1) := by decide +kernel
set_option maxRecDepth 20000 in
theorem ggX3_lookOnce_X3_lastDifferenceAt : GoodIn wsX3_lookOnce wsX3_lastDifferenceAt := goodIn_r _ [14, 4, 15, 16, 17, 18, 19, 20, 21, 22, 23, 24, 25, 26, 27, 28, 29, 30, 61, 62, 63, 64, 65, 66, 67, 68, 69, 70] (by decide +kernel) (by decide +kernel)
set_option maxRecDepth 20000 in
theorem gX3_lookOnce_X3_lastDifferenceAt : GoodIn wsX3_lookOnce (wsV RX3 74 RX3 yX3_lastDifferenceAt wsX3_lastDifferenceAt) := goodIn_app (goodIn_of _ (by decide +kernel)) ggX3_lookOnce_X3_lastDifferenceAt
set_option maxRecDepth 20000 in
theorem ggX3_lookOnce_X2_size : GoodIn wsX3_lookOnce wsX2_size := goodIn_r _ [20, 21, 69, 70] (by decide +kernel) (by decide +kernel)
set_option maxRecDepth 20000 in
theorem gX3_lookOnce_X2_size : GoodIn wsX3_lookOnce (wsV RX3 50 RX2 yX2_size wsX2_size) := goodIn_app (goodIn_of _ (by decide +kernel)) ggX3_lookOnce_X2_size
set_option maxRecDepth 20000 in
theorem ggX3_lookOnce_X3_skipBehind : GoodIn wsX3_lookOnce wsX3_skipBehind := goodIn_r _ [34, 35, 15, 1, 5, 6, 7, 8, 36, 37, 38, 39, 40, 41, 42, 43, 22, 23, 24, 19, 25, 26, 27, 28, 29, 30, 21, 44, 45, 46, 13, 47, 4, 48, 49, 50, 51, 52, 53, 54, 55, 56, 61, 62, 63, 64, 65, 66, 67, 68, 71, 72, 73, 69, 70] (by decide +kernel) (by decide +kernel)
set_option maxRecDepth 20000 in
theorem gX3_lookOnce_X3_skipBehind : GoodIn wsX3_lookOnce (wsV RX3 78 RX3 yX3_skipBehind wsX3_skipBehind) := goodIn_app (goodIn_of _ (by decide +kernel)) ggX3_lookOnce_X3_skipBehind
set_option maxRecDepth 20000 in
theorem ggX3_lookOnce_X2_add : GoodIn wsX3_lookOnce wsX2_add := goodIn_r _ [60, 21, 26, 69, 70] (by decide +kernel) (by decide +kernel)
set_option maxRecDepth 20000 in
theorem gX3_lookOnce_X2_add : GoodIn wsX3_lookOnce (wsV RX3 82 RX2 yX2_add wsX2_add) := goodIn_app (goodIn_of _ (by decide +kernel)) ggX3_lookOnce_X2_add
set_option maxHeartbeats 4000000 in
set_option maxRecDepth 100000 in
theorem c_X3_copy (l : Launch) (D : va_G) (cy : Nat → ClassId) (sia : Nat) (lia : Nat) (mia : Nat) (wia : Nat) (via : Nat) (gia : Nat) (eia : Nat) (nla : Int) (Fla : Nat → Int32) (nwa : Int) (Fwa : Nat → Int32) (nfa : Int) (Ffa : Nat → Int32) (lra : Int) (era : Int) (pla : Int) (lka : Int) (cpa : Int) (sib : Nat) (lib : Nat) (mib : Nat) (wib : Nat) (vib : Nat) (gib : Nat) (eib : Nat) (nlb : Int) (Flb : Nat → Int32) (nwb : Int) (Fwb : Nat → Int32) (nfb : Int) (Ffb : Nat → Int32) (lrb : Int) (erb : Int) (plb : Int) (lkb : Int) (cpb : Int) (hb : 0 ≤ nlb ∧ nlb ≤ 60 ∧ 0 ≤ nwb ∧ nwb ≤ 16 ∧ 0 ≤ nfb ∧ nfb ≤ plb ∧ plb ≤ 100 ∧ nfb ≤ 60 ∧ 0 ≤ lkb ∧ lkb ≤ plb ∧ 0 ≤ cpb ∧ cpb ≤ 16 * lkb ∧ 0 ≤ lrb ∧ lrb ≤ 1 ∧ 0 ≤ erb ∧ erb ≤ 1) : Cv l D cy yX3_copy wsX3_copy 2 43 [.ref sia, .ref sib] [(sia, .inr (3, [.ref lia, .ref wia, .ref gia, .int (iI lra), .int (iI era), .int (iI pla), .int (iI lka), .int (iI cpa)])), (lia, .inr (2, [.ref mia, .int (iI nla)])), (mia, .inl (cy 0, 60, .inl Fla)), (wia, .inr (2, [.ref via, .int (iI nwa)])), (via, .inl (cy 0, 16, .inl Fwa)), (gia, .inr (2, [.ref eia, .int (iI nfa)])), (eia, .inl (cy 0, 60, .inl Ffa)), (sib, .inr (3, [.ref lib, .ref wib, .ref gib, .int (iI lrb), .int (iI erb), .int (iI plb), .int (iI lkb), .int (iI cpb)])), (lib, .inr (2, [.ref mib, .int (iI nlb)])), (mib, .inl (cy 0, 60, .inl Flb)), (wib, .inr (2, [.ref vib, .int (iI nwb)])), (vib, .inl (cy 0, 16, .inl Fwb)), (gib, .inr (2, [.ref eib, .int (iI nfb)])), (eib, .inl (cy 0, 60, .inl Ffb))] (fun (u : (Nat → Int32) × (Nat → Int32) × (Nat → Int32)) => (∀ j : Nat, (j : Int) < nlb → u.1 j = Flb j) ∧ (∀ j : Nat, (j : Int) < nwb → u.2.1 j = Fwb j) ∧ ∀ j : Nat, (j : Int) < nfb → u.2.2 j = Ffb j) (fun u : (Nat → Int32) × (Nat → Int32) × (Nat → Int32) => [(sia, .inr (3, [.ref lia, .ref wia, .ref gia, .int (iI lrb), .int (iI erb), .int (iI plb), .int (iI lkb), .int (iI cpb)])), (lia, .inr (2, [.ref mia, .int (iI nlb)])), (mia, .inl (cy 0, 60, .inl u.1)), (wia, .inr (2, [.ref via, .int (iI nwb)])), (via, .inl (cy 0, 16, .inl u.2.1)), (gia, .inr (2, [.ref eia, .int (iI nfb)])), (eia, .inl (cy 0, 60, .inl u.2.2)), (sib, .inr (3, [.ref lib, .ref wib, .ref gib, .int (iI lrb), .int (iI erb), .int (iI plb), .int (iI lkb), .int (iI cpb)])), (lib, .inr (2, [.ref mib, .int (iI nlb)])), (mib, .inl (cy 0, 60, .inl Flb)), (wib, .inr (2, [.ref vib, .int (iI nwb)])), (vib, .inl (cy 0, 16, .inl Fwb)), (gib, .inr (2, [.ref eib, .int (iI nfb)])), (eib, .inl (cy 0, 60, .inl Ffb))]) := by
  refine Cv_of (cc := cX3_copy) (maxL := 2) (ret := none) (by decide) rfl rfl ?_
  intro p e s m args below meth c A hx hb hr hts hown hlocks hml hP hK hD hT hA ls hl
  have hS : va_S A s.heap s.heap [] := va_S.rf
  have hl : lv_has ls 2 [(0, .ref sia), (1, .ref sib)] := hl
  have hiX3 : ∀ w ∈ wsX30, w ∈ wsX3_copy := by decide +kernel
  refine lv_aload_n hx hb dX3_copy_0 rfl (lv_at hl 0 rfl) ?_
  refine va_get (D := D) (ci := 3) (v := .ref lia) (C := RX3) (T := TX3) (N := 8) hx hb hts hiX3 hown hK hP 0 rfl rfl 0 (by decide) (hts (.fieldLink RX3 14 "BackwardSearch$State" "line" "LBackwardSearch$Row;") (by decide +kernel)) (fun _ h9 => h9) rfl dX3_copy_1 ?_
  refine lv_aload_n hx hb dX3_copy_4 rfl (lv_at hl 1 rfl) ?_
  refine va_get (D := D) (ci := 3) (v := .ref lib) (C := RX3) (T := TX3) (N := 8) hx hb hts hiX3 hown hK hP 7 rfl rfl 0 (by decide) (hts (.fieldLink RX3 14 "BackwardSearch$State" "line" "LBackwardSearch$Row;") (by decide +kernel)) (fun _ h9 => h9) rfl dX3_copy_5 ?_
  refine z_cVv (n := 1) (b := lia) (As := [.ref lib]) (rest := []) ⟨hx, hb, hml, hown, hts⟩ (c_X2_copy l D cy lia mia 60 nla Fla lib mib 60 nlb Flb (by omega)) gX3_copy_X2_copy rfl (by decide +kernel) ⟨Nat.le_of_ble_eq_true rfl, Nat.le_of_ble_eq_true rfl⟩ hK hT hP hD hS hA [1, 2, 8, 9] rfl rfl 1 2 rfl rfl rfl (fun _ => rfl) rfl hl.1 rfl (Nat.le_of_ble_eq_true rfl) dX3_copy_8 ⟨Nat.zero_le _, Nat.zero_le _⟩ (fun  u_1 H locs hw_1 hP hD hS => ?_)
  obtain ⟨g_1, rfl⟩ : ∃ z, z = u_1 := ⟨_, rfl⟩
  have hw_1 : ∀ j : Nat, (j : Int) < nlb → g_1 j = Flb j := hw_1
  have hP : va_P D vwCl [(sia, .inr (3, [.ref lia, .ref wia, .ref gia, .int (iI lra), .int (iI era), .int (iI pla), .int (iI lka), .int (iI cpa)])), (lia, .inr (2, [.ref mia, .int (iI nlb)])), (mia, .inl (cy 0, 60, .inl g_1)), (wia, .inr (2, [.ref via, .int (iI nwa)])), (via, .inl (cy 0, 16, .inl Fwa)), (gia, .inr (2, [.ref eia, .int (iI nfa)])), (eia, .inl (cy 0, 60, .inl Ffa)), (sib, .inr (3, [.ref lib, .ref wib, .ref gib, .int (iI lrb), .int (iI erb), .int (iI plb), .int (iI lkb), .int (iI cpb)])), (lib, .inr (2, [.ref mib, .int (iI nlb)])), (mib, .inl (cy 0, 60, .inl Flb)), (wib, .inr (2, [.ref vib, .int (iI nwb)])), (vib, .inl (cy 0, 16, .inl Fwb)), (gib, .inr (2, [.ref eib, .int (iI nfb)])), (eib, .inl (cy 0, 60, .inl Ffb))] H := hP
  have hD : va_D A [(sia, .inr (3, [.ref lia, .ref wia, .ref gia, .int (iI lra), .int (iI era), .int (iI pla), .int (iI lka), .int (iI cpa)])), (lia, .inr (2, [.ref mia, .int (iI nlb)])), (mia, .inl (cy 0, 60, .inl g_1)), (wia, .inr (2, [.ref via, .int (iI nwa)])), (via, .inl (cy 0, 16, .inl Fwa)), (gia, .inr (2, [.ref eia, .int (iI nfa)])), (eia, .inl (cy 0, 60, .inl Ffa)), (sib, .inr (3, [.ref lib, .ref wib, .ref gib, .int (iI lrb), .int (iI erb), .int (iI plb), .int (iI lkb), .int (iI cpb)])), (lib, .inr (2, [.ref mib, .int (iI nlb)])), (mib, .inl (cy 0, 60, .inl Flb)), (wib, .inr (2, [.ref vib, .int (iI nwb)])), (vib, .inl (cy 0, 16, .inl Fwb)), (gib, .inr (2, [.ref eib, .int (iI nfb)])), (eib, .inl (cy 0, 60, .inl Ffb))] := hD
  refine lv_aload_n hx hb dX3_copy_11 rfl (lv_at hl 0 rfl) ?_
  refine va_get (D := D) (ci := 3) (v := .ref wia) (C := RX3) (T := TX3) (N := 8) hx hb hts hiX3 hown hK hP 0 rfl rfl 1 (by decide) (hts (.fieldLink RX3 20 "BackwardSearch$State" "word" "LBackwardSearch$Row;") (by decide +kernel)) (fun _ h9 => h9) rfl dX3_copy_12 ?_
  refine lv_aload_n hx hb dX3_copy_15 rfl (lv_at hl 1 rfl) ?_
  refine va_get (D := D) (ci := 3) (v := .ref wib) (C := RX3) (T := TX3) (N := 8) hx hb hts hiX3 hown hK hP 7 rfl rfl 1 (by decide) (hts (.fieldLink RX3 20 "BackwardSearch$State" "word" "LBackwardSearch$Row;") (by decide +kernel)) (fun _ h9 => h9) rfl dX3_copy_16 ?_
  refine z_cVv (n := 1) (b := wia) (As := [.ref wib]) (rest := []) ⟨hx, hb, hml, hown, hts⟩ (c_X2_copy l D cy wia via 16 nwa Fwa wib vib 16 nwb Fwb (by omega)) gX3_copy_X2_copy rfl (by decide +kernel) ⟨Nat.le_of_ble_eq_true rfl, Nat.le_of_ble_eq_true rfl⟩ hK hT hP hD hS hA [3, 4, 10, 11] rfl rfl 3 2 rfl rfl rfl (fun _ => rfl) rfl hl.1 rfl (Nat.le_of_ble_eq_true rfl) dX3_copy_19 ⟨Nat.zero_le _, Nat.zero_le _⟩ (fun  u_2 H locs hw_2 hP hD hS => ?_)
  obtain ⟨g_2, rfl⟩ : ∃ z, z = u_2 := ⟨_, rfl⟩
  have hw_2 : ∀ j : Nat, (j : Int) < nwb → g_2 j = Fwb j := hw_2
  have hP : va_P D vwCl [(sia, .inr (3, [.ref lia, .ref wia, .ref gia, .int (iI lra), .int (iI era), .int (iI pla), .int (iI lka), .int (iI cpa)])), (lia, .inr (2, [.ref mia, .int (iI nlb)])), (mia, .inl (cy 0, 60, .inl g_1)), (wia, .inr (2, [.ref via, .int (iI nwb)])), (via, .inl (cy 0, 16, .inl g_2)), (gia, .inr (2, [.ref eia, .int (iI nfa)])), (eia, .inl (cy 0, 60, .inl Ffa)), (sib, .inr (3, [.ref lib, .ref wib, .ref gib, .int (iI lrb), .int (iI erb), .int (iI plb), .int (iI lkb), .int (iI cpb)])), (lib, .inr (2, [.ref mib, .int (iI nlb)])), (mib, .inl (cy 0, 60, .inl Flb)), (wib, .inr (2, [.ref vib, .int (iI nwb)])), (vib, .inl (cy 0, 16, .inl Fwb)), (gib, .inr (2, [.ref eib, .int (iI nfb)])), (eib, .inl (cy 0, 60, .inl Ffb))] H := hP
  have hD : va_D A [(sia, .inr (3, [.ref lia, .ref wia, .ref gia, .int (iI lra), .int (iI era), .int (iI pla), .int (iI lka), .int (iI cpa)])), (lia, .inr (2, [.ref mia, .int (iI nlb)])), (mia, .inl (cy 0, 60, .inl g_1)), (wia, .inr (2, [.ref via, .int (iI nwb)])), (via, .inl (cy 0, 16, .inl g_2)), (gia, .inr (2, [.ref eia, .int (iI nfa)])), (eia, .inl (cy 0, 60, .inl Ffa)), (sib, .inr (3, [.ref lib, .ref wib, .ref gib, .int (iI lrb), .int (iI erb), .int (iI plb), .int (iI lkb), .int (iI cpb)])), (lib, .inr (2, [.ref mib, .int (iI nlb)])), (mib, .inl (cy 0, 60, .inl Flb)), (wib, .inr (2, [.ref vib, .int (iI nwb)])), (vib, .inl (cy 0, 16, .inl Fwb)), (gib, .inr (2, [.ref eib, .int (iI nfb)])), (eib, .inl (cy 0, 60, .inl Ffb))] := hD
  refine lv_aload_n hx hb dX3_copy_22 rfl (lv_at hl 0 rfl) ?_
  refine va_get (D := D) (ci := 3) (v := .ref gia) (C := RX3) (T := TX3) (N := 8) hx hb hts hiX3 hown hK hP 0 rfl rfl 2 (by decide) (hts (.fieldLink RX3 23 "BackwardSearch$State" "found" "LBackwardSearch$Row;") (by decide +kernel)) (fun _ h9 => h9) rfl dX3_copy_23 ?_
  refine lv_aload_n hx hb dX3_copy_26 rfl (lv_at hl 1 rfl) ?_
  refine va_get (D := D) (ci := 3) (v := .ref gib) (C := RX3) (T := TX3) (N := 8) hx hb hts hiX3 hown hK hP 7 rfl rfl 2 (by decide) (hts (.fieldLink RX3 23 "BackwardSearch$State" "found" "LBackwardSearch$Row;") (by decide +kernel)) (fun _ h9 => h9) rfl dX3_copy_27 ?_
  refine z_cVv (n := 1) (b := gia) (As := [.ref gib]) (rest := []) ⟨hx, hb, hml, hown, hts⟩ (c_X2_copy l D cy gia eia 60 nfa Ffa gib eib 60 nfb Ffb (by omega)) gX3_copy_X2_copy rfl (by decide +kernel) ⟨Nat.le_of_ble_eq_true rfl, Nat.le_of_ble_eq_true rfl⟩ hK hT hP hD hS hA [5, 6, 12, 13] rfl rfl 5 2 rfl rfl rfl (fun _ => rfl) rfl hl.1 rfl (Nat.le_of_ble_eq_true rfl) dX3_copy_30 ⟨Nat.zero_le _, Nat.zero_le _⟩ (fun  u_3 H locs hw_3 hP hD hS => ?_)
  obtain ⟨g_3, rfl⟩ : ∃ z, z = u_3 := ⟨_, rfl⟩
  have hw_3 : ∀ j : Nat, (j : Int) < nfb → g_3 j = Ffb j := hw_3
  have hP : va_P D vwCl [(sia, .inr (3, [.ref lia, .ref wia, .ref gia, .int (iI lra), .int (iI era), .int (iI pla), .int (iI lka), .int (iI cpa)])), (lia, .inr (2, [.ref mia, .int (iI nlb)])), (mia, .inl (cy 0, 60, .inl g_1)), (wia, .inr (2, [.ref via, .int (iI nwb)])), (via, .inl (cy 0, 16, .inl g_2)), (gia, .inr (2, [.ref eia, .int (iI nfb)])), (eia, .inl (cy 0, 60, .inl g_3)), (sib, .inr (3, [.ref lib, .ref wib, .ref gib, .int (iI lrb), .int (iI erb), .int (iI plb), .int (iI lkb), .int (iI cpb)])), (lib, .inr (2, [.ref mib, .int (iI nlb)])), (mib, .inl (cy 0, 60, .inl Flb)), (wib, .inr (2, [.ref vib, .int (iI nwb)])), (vib, .inl (cy 0, 16, .inl Fwb)), (gib, .inr (2, [.ref eib, .int (iI nfb)])), (eib, .inl (cy 0, 60, .inl Ffb))] H := hP
  have hD : va_D A [(sia, .inr (3, [.ref lia, .ref wia, .ref gia, .int (iI lra), .int (iI era), .int (iI pla), .int (iI lka), .int (iI cpa)])), (lia, .inr (2, [.ref mia, .int (iI nlb)])), (mia, .inl (cy 0, 60, .inl g_1)), (wia, .inr (2, [.ref via, .int (iI nwb)])), (via, .inl (cy 0, 16, .inl g_2)), (gia, .inr (2, [.ref eia, .int (iI nfb)])), (eia, .inl (cy 0, 60, .inl g_3)), (sib, .inr (3, [.ref lib, .ref wib, .ref gib, .int (iI lrb), .int (iI erb), .int (iI plb), .int (iI lkb), .int (iI cpb)])), (lib, .inr (2, [.ref mib, .int (iI nlb)])), (mib, .inl (cy 0, 60, .inl Flb)), (wib, .inr (2, [.ref vib, .int (iI nwb)])), (vib, .inl (cy 0, 16, .inl Fwb)), (gib, .inr (2, [.ref eib, .int (iI nfb)])), (eib, .inl (cy 0, 60, .inl Ffb))] := hD
  refine lv_aload_n hx hb dX3_copy_33 rfl (lv_at hl 0 rfl) ?_
  refine lv_aload_n hx hb dX3_copy_34 rfl (lv_at hl 1 rfl) ?_
  refine va_get (D := D) (ci := 3) (v := .int (iI lrb)) (C := RX3) (T := TX3) (N := 8) hx hb hts hiX3 hown hK hP 7 rfl rfl 3 (by decide) (hts (.fieldLink RX3 26 "BackwardSearch$State" "letterRule" "Z") (by decide +kernel)) (fun _ h9 => h9) rfl dX3_copy_35 ?_
  refine va_put (D := D) (ci := 3) (v := .int (iI lrb)) (ty := .boolean) (C := RX3) (T := TX3) (N := 8) hx hb hts hiX3 tyX3 tyX3_ok nmX3 hown hK hP hD hS 0 rfl rfl 3 (by decide) (hts (.fieldLink RX3 26 "BackwardSearch$State" "letterRule" "Z") (by decide +kernel)) (fun _ h9 => h9) rfl (by decide +kernel) (z_nb (by omega) (by omega)) (z_fb (by omega) (by omega)) (Nat.le_of_ble_eq_true rfl) dX3_copy_38 (fun H locs hP hD hS => ?_)
  have hP : va_P D vwCl [(sia, .inr (3, [.ref lia, .ref wia, .ref gia, .int (iI lrb), .int (iI era), .int (iI pla), .int (iI lka), .int (iI cpa)])), (lia, .inr (2, [.ref mia, .int (iI nlb)])), (mia, .inl (cy 0, 60, .inl g_1)), (wia, .inr (2, [.ref via, .int (iI nwb)])), (via, .inl (cy 0, 16, .inl g_2)), (gia, .inr (2, [.ref eia, .int (iI nfb)])), (eia, .inl (cy 0, 60, .inl g_3)), (sib, .inr (3, [.ref lib, .ref wib, .ref gib, .int (iI lrb), .int (iI erb), .int (iI plb), .int (iI lkb), .int (iI cpb)])), (lib, .inr (2, [.ref mib, .int (iI nlb)])), (mib, .inl (cy 0, 60, .inl Flb)), (wib, .inr (2, [.ref vib, .int (iI nwb)])), (vib, .inl (cy 0, 16, .inl Fwb)), (gib, .inr (2, [.ref eib, .int (iI nfb)])), (eib, .inl (cy 0, 60, .inl Ffb))] H := hP
  have hD : va_D A [(sia, .inr (3, [.ref lia, .ref wia, .ref gia, .int (iI lrb), .int (iI era), .int (iI pla), .int (iI lka), .int (iI cpa)])), (lia, .inr (2, [.ref mia, .int (iI nlb)])), (mia, .inl (cy 0, 60, .inl g_1)), (wia, .inr (2, [.ref via, .int (iI nwb)])), (via, .inl (cy 0, 16, .inl g_2)), (gia, .inr (2, [.ref eia, .int (iI nfb)])), (eia, .inl (cy 0, 60, .inl g_3)), (sib, .inr (3, [.ref lib, .ref wib, .ref gib, .int (iI lrb), .int (iI erb), .int (iI plb), .int (iI lkb), .int (iI cpb)])), (lib, .inr (2, [.ref mib, .int (iI nlb)])), (mib, .inl (cy 0, 60, .inl Flb)), (wib, .inr (2, [.ref vib, .int (iI nwb)])), (vib, .inl (cy 0, 16, .inl Fwb)), (gib, .inr (2, [.ref eib, .int (iI nfb)])), (eib, .inl (cy 0, 60, .inl Ffb))] := hD
  refine lv_aload_n hx hb dX3_copy_41 rfl (lv_at hl 0 rfl) ?_
  refine lv_aload_n hx hb dX3_copy_42 rfl (lv_at hl 1 rfl) ?_
  refine va_get (D := D) (ci := 3) (v := .int (iI erb)) (C := RX3) (T := TX3) (N := 8) hx hb hts hiX3 hown hK hP 7 rfl rfl 4 (by decide) (hts (.fieldLink RX3 30 "BackwardSearch$State" "endRule" "Z") (by decide +kernel)) (fun _ h9 => h9) rfl dX3_copy_43 ?_
  refine va_put (D := D) (ci := 3) (v := .int (iI erb)) (ty := .boolean) (C := RX3) (T := TX3) (N := 8) hx hb hts hiX3 tyX3 tyX3_ok nmX3 hown hK hP hD hS 0 rfl rfl 4 (by decide) (hts (.fieldLink RX3 30 "BackwardSearch$State" "endRule" "Z") (by decide +kernel)) (fun _ h9 => h9) rfl (by decide +kernel) (z_nb (by omega) (by omega)) (z_fb (by omega) (by omega)) (Nat.le_of_ble_eq_true rfl) dX3_copy_46 (fun H locs hP hD hS => ?_)
  have hP : va_P D vwCl [(sia, .inr (3, [.ref lia, .ref wia, .ref gia, .int (iI lrb), .int (iI erb), .int (iI pla), .int (iI lka), .int (iI cpa)])), (lia, .inr (2, [.ref mia, .int (iI nlb)])), (mia, .inl (cy 0, 60, .inl g_1)), (wia, .inr (2, [.ref via, .int (iI nwb)])), (via, .inl (cy 0, 16, .inl g_2)), (gia, .inr (2, [.ref eia, .int (iI nfb)])), (eia, .inl (cy 0, 60, .inl g_3)), (sib, .inr (3, [.ref lib, .ref wib, .ref gib, .int (iI lrb), .int (iI erb), .int (iI plb), .int (iI lkb), .int (iI cpb)])), (lib, .inr (2, [.ref mib, .int (iI nlb)])), (mib, .inl (cy 0, 60, .inl Flb)), (wib, .inr (2, [.ref vib, .int (iI nwb)])), (vib, .inl (cy 0, 16, .inl Fwb)), (gib, .inr (2, [.ref eib, .int (iI nfb)])), (eib, .inl (cy 0, 60, .inl Ffb))] H := hP
  have hD : va_D A [(sia, .inr (3, [.ref lia, .ref wia, .ref gia, .int (iI lrb), .int (iI erb), .int (iI pla), .int (iI lka), .int (iI cpa)])), (lia, .inr (2, [.ref mia, .int (iI nlb)])), (mia, .inl (cy 0, 60, .inl g_1)), (wia, .inr (2, [.ref via, .int (iI nwb)])), (via, .inl (cy 0, 16, .inl g_2)), (gia, .inr (2, [.ref eia, .int (iI nfb)])), (eia, .inl (cy 0, 60, .inl g_3)), (sib, .inr (3, [.ref lib, .ref wib, .ref gib, .int (iI lrb), .int (iI erb), .int (iI plb), .int (iI lkb), .int (iI cpb)])), (lib, .inr (2, [.ref mib, .int (iI nlb)])), (mib, .inl (cy 0, 60, .inl Flb)), (wib, .inr (2, [.ref vib, .int (iI nwb)])), (vib, .inl (cy 0, 16, .inl Fwb)), (gib, .inr (2, [.ref eib, .int (iI nfb)])), (eib, .inl (cy 0, 60, .inl Ffb))] := hD
  refine lv_aload_n hx hb dX3_copy_49 rfl (lv_at hl 0 rfl) ?_
  refine lv_aload_n hx hb dX3_copy_50 rfl (lv_at hl 1 rfl) ?_
  refine va_get (D := D) (ci := 3) (v := .int (iI plb)) (C := RX3) (T := TX3) (N := 8) hx hb hts hiX3 hown hK hP 7 rfl rfl 5 (by decide) (hts (.fieldLink RX3 37 "BackwardSearch$State" "place" "I") (by decide +kernel)) (fun _ h9 => h9) rfl dX3_copy_51 ?_
  refine va_put (D := D) (ci := 3) (v := .int (iI plb)) (ty := .int) (C := RX3) (T := TX3) (N := 8) hx hb hts hiX3 tyX3 tyX3_ok nmX3 hown hK hP hD hS 0 rfl rfl 5 (by decide) (hts (.fieldLink RX3 37 "BackwardSearch$State" "place" "I") (by decide +kernel)) (fun _ h9 => h9) rfl (by decide +kernel) rfl rfl (Nat.le_of_ble_eq_true rfl) dX3_copy_54 (fun H locs hP hD hS => ?_)
  have hP : va_P D vwCl [(sia, .inr (3, [.ref lia, .ref wia, .ref gia, .int (iI lrb), .int (iI erb), .int (iI plb), .int (iI lka), .int (iI cpa)])), (lia, .inr (2, [.ref mia, .int (iI nlb)])), (mia, .inl (cy 0, 60, .inl g_1)), (wia, .inr (2, [.ref via, .int (iI nwb)])), (via, .inl (cy 0, 16, .inl g_2)), (gia, .inr (2, [.ref eia, .int (iI nfb)])), (eia, .inl (cy 0, 60, .inl g_3)), (sib, .inr (3, [.ref lib, .ref wib, .ref gib, .int (iI lrb), .int (iI erb), .int (iI plb), .int (iI lkb), .int (iI cpb)])), (lib, .inr (2, [.ref mib, .int (iI nlb)])), (mib, .inl (cy 0, 60, .inl Flb)), (wib, .inr (2, [.ref vib, .int (iI nwb)])), (vib, .inl (cy 0, 16, .inl Fwb)), (gib, .inr (2, [.ref eib, .int (iI nfb)])), (eib, .inl (cy 0, 60, .inl Ffb))] H := hP
  have hD : va_D A [(sia, .inr (3, [.ref lia, .ref wia, .ref gia, .int (iI lrb), .int (iI erb), .int (iI plb), .int (iI lka), .int (iI cpa)])), (lia, .inr (2, [.ref mia, .int (iI nlb)])), (mia, .inl (cy 0, 60, .inl g_1)), (wia, .inr (2, [.ref via, .int (iI nwb)])), (via, .inl (cy 0, 16, .inl g_2)), (gia, .inr (2, [.ref eia, .int (iI nfb)])), (eia, .inl (cy 0, 60, .inl g_3)), (sib, .inr (3, [.ref lib, .ref wib, .ref gib, .int (iI lrb), .int (iI erb), .int (iI plb), .int (iI lkb), .int (iI cpb)])), (lib, .inr (2, [.ref mib, .int (iI nlb)])), (mib, .inl (cy 0, 60, .inl Flb)), (wib, .inr (2, [.ref vib, .int (iI nwb)])), (vib, .inl (cy 0, 16, .inl Fwb)), (gib, .inr (2, [.ref eib, .int (iI nfb)])), (eib, .inl (cy 0, 60, .inl Ffb))] := hD
  refine lv_aload_n hx hb dX3_copy_57 rfl (lv_at hl 0 rfl) ?_
  refine lv_aload_n hx hb dX3_copy_58 rfl (lv_at hl 1 rfl) ?_
  refine va_get (D := D) (ci := 3) (v := .int (iI lkb)) (C := RX3) (T := TX3) (N := 8) hx hb hts hiX3 hown hK hP 7 rfl rfl 6 (by decide) (hts (.fieldLink RX3 41 "BackwardSearch$State" "looks" "I") (by decide +kernel)) (fun _ h9 => h9) rfl dX3_copy_59 ?_
  refine va_put (D := D) (ci := 3) (v := .int (iI lkb)) (ty := .int) (C := RX3) (T := TX3) (N := 8) hx hb hts hiX3 tyX3 tyX3_ok nmX3 hown hK hP hD hS 0 rfl rfl 6 (by decide) (hts (.fieldLink RX3 41 "BackwardSearch$State" "looks" "I") (by decide +kernel)) (fun _ h9 => h9) rfl (by decide +kernel) rfl rfl (Nat.le_of_ble_eq_true rfl) dX3_copy_62 (fun H locs hP hD hS => ?_)
  have hP : va_P D vwCl [(sia, .inr (3, [.ref lia, .ref wia, .ref gia, .int (iI lrb), .int (iI erb), .int (iI plb), .int (iI lkb), .int (iI cpa)])), (lia, .inr (2, [.ref mia, .int (iI nlb)])), (mia, .inl (cy 0, 60, .inl g_1)), (wia, .inr (2, [.ref via, .int (iI nwb)])), (via, .inl (cy 0, 16, .inl g_2)), (gia, .inr (2, [.ref eia, .int (iI nfb)])), (eia, .inl (cy 0, 60, .inl g_3)), (sib, .inr (3, [.ref lib, .ref wib, .ref gib, .int (iI lrb), .int (iI erb), .int (iI plb), .int (iI lkb), .int (iI cpb)])), (lib, .inr (2, [.ref mib, .int (iI nlb)])), (mib, .inl (cy 0, 60, .inl Flb)), (wib, .inr (2, [.ref vib, .int (iI nwb)])), (vib, .inl (cy 0, 16, .inl Fwb)), (gib, .inr (2, [.ref eib, .int (iI nfb)])), (eib, .inl (cy 0, 60, .inl Ffb))] H := hP
  have hD : va_D A [(sia, .inr (3, [.ref lia, .ref wia, .ref gia, .int (iI lrb), .int (iI erb), .int (iI plb), .int (iI lkb), .int (iI cpa)])), (lia, .inr (2, [.ref mia, .int (iI nlb)])), (mia, .inl (cy 0, 60, .inl g_1)), (wia, .inr (2, [.ref via, .int (iI nwb)])), (via, .inl (cy 0, 16, .inl g_2)), (gia, .inr (2, [.ref eia, .int (iI nfb)])), (eia, .inl (cy 0, 60, .inl g_3)), (sib, .inr (3, [.ref lib, .ref wib, .ref gib, .int (iI lrb), .int (iI erb), .int (iI plb), .int (iI lkb), .int (iI cpb)])), (lib, .inr (2, [.ref mib, .int (iI nlb)])), (mib, .inl (cy 0, 60, .inl Flb)), (wib, .inr (2, [.ref vib, .int (iI nwb)])), (vib, .inl (cy 0, 16, .inl Fwb)), (gib, .inr (2, [.ref eib, .int (iI nfb)])), (eib, .inl (cy 0, 60, .inl Ffb))] := hD
  refine lv_aload_n hx hb dX3_copy_65 rfl (lv_at hl 0 rfl) ?_
  refine lv_aload_n hx hb dX3_copy_66 rfl (lv_at hl 1 rfl) ?_
  refine va_get (D := D) (ci := 3) (v := .int (iI cpb)) (C := RX3) (T := TX3) (N := 8) hx hb hts hiX3 hown hK hP 7 rfl rfl 7 (by decide) (hts (.fieldLink RX3 44 "BackwardSearch$State" "compared" "I") (by decide +kernel)) (fun _ h9 => h9) rfl dX3_copy_67 ?_
  refine va_put (D := D) (ci := 3) (v := .int (iI cpb)) (ty := .int) (C := RX3) (T := TX3) (N := 8) hx hb hts hiX3 tyX3 tyX3_ok nmX3 hown hK hP hD hS 0 rfl rfl 7 (by decide) (hts (.fieldLink RX3 44 "BackwardSearch$State" "compared" "I") (by decide +kernel)) (fun _ h9 => h9) rfl (by decide +kernel) rfl rfl (Nat.le_of_ble_eq_true rfl) dX3_copy_70 (fun H locs hP hD hS => ?_)
  have hP : va_P D vwCl [(sia, .inr (3, [.ref lia, .ref wia, .ref gia, .int (iI lrb), .int (iI erb), .int (iI plb), .int (iI lkb), .int (iI cpb)])), (lia, .inr (2, [.ref mia, .int (iI nlb)])), (mia, .inl (cy 0, 60, .inl g_1)), (wia, .inr (2, [.ref via, .int (iI nwb)])), (via, .inl (cy 0, 16, .inl g_2)), (gia, .inr (2, [.ref eia, .int (iI nfb)])), (eia, .inl (cy 0, 60, .inl g_3)), (sib, .inr (3, [.ref lib, .ref wib, .ref gib, .int (iI lrb), .int (iI erb), .int (iI plb), .int (iI lkb), .int (iI cpb)])), (lib, .inr (2, [.ref mib, .int (iI nlb)])), (mib, .inl (cy 0, 60, .inl Flb)), (wib, .inr (2, [.ref vib, .int (iI nwb)])), (vib, .inl (cy 0, 16, .inl Fwb)), (gib, .inr (2, [.ref eib, .int (iI nfb)])), (eib, .inl (cy 0, 60, .inl Ffb))] H := hP
  have hD : va_D A [(sia, .inr (3, [.ref lia, .ref wia, .ref gia, .int (iI lrb), .int (iI erb), .int (iI plb), .int (iI lkb), .int (iI cpb)])), (lia, .inr (2, [.ref mia, .int (iI nlb)])), (mia, .inl (cy 0, 60, .inl g_1)), (wia, .inr (2, [.ref via, .int (iI nwb)])), (via, .inl (cy 0, 16, .inl g_2)), (gia, .inr (2, [.ref eia, .int (iI nfb)])), (eia, .inl (cy 0, 60, .inl g_3)), (sib, .inr (3, [.ref lib, .ref wib, .ref gib, .int (iI lrb), .int (iI erb), .int (iI plb), .int (iI lkb), .int (iI cpb)])), (lib, .inr (2, [.ref mib, .int (iI nlb)])), (mib, .inl (cy 0, 60, .inl Flb)), (wib, .inr (2, [.ref vib, .int (iI nwb)])), (vib, .inl (cy 0, 16, .inl Fwb)), (gib, .inr (2, [.ref eib, .int (iI nfb)])), (eib, .inl (cy 0, 60, .inl Ffb))] := hD
  exact z_vret hx hb hr hlocks hS (g_1, g_2, g_3) (show (∀ j : Nat, (j : Int) < nlb → g_1 j = Flb j) ∧ (∀ j : Nat, (j : Int) < nwb → g_2 j = Fwb j) ∧ ∀ j : Nat, (j : Int) < nfb → g_3 j = Ffb j from ⟨hw_1, hw_2, hw_3⟩) hP dX3_copy_73
set_option maxHeartbeats 4000000 in
set_option maxRecDepth 100000 in
theorem c_X3_beginAnew (l : Launch) (D : va_G) (cy : Nat → ClassId) (si : Nat) (li : Nat) (wi : Nat) (gi : Nat) (ei : Nat) (nf : Int) (lr : Int) (er : Int) (pl : Int) (lk : Int) (cp : Int) : Cv l D cy yX3_beginAnew wsX3_beginAnew 1 20 [.ref si] [(si, .inr (3, [.ref li, .ref wi, .ref gi, .int (iI lr), .int (iI er), .int (iI pl), .int (iI lk), .int (iI cp)])), (gi, .inr (2, [.ref ei, .int (iI nf)]))] (fun (u : Unit) => True) (fun u : Unit => [(si, .inr (3, [.ref li, .ref wi, .ref gi, .int (iI lr), .int (iI er), .int (iI 0), .int (iI 0), .int (iI 0)])), (gi, .inr (2, [.ref ei, .int (iI 0)]))]) := by
  refine Cv_of (cc := cX3_beginAnew) (maxL := 1) (ret := none) (by decide) rfl rfl ?_
  intro p e s m args below meth c A hx hb hr hts hown hlocks hml hP hK hD hT hA ls hl
  have hS : va_S A s.heap s.heap [] := va_S.rf
  have hl : lv_has ls 1 [(0, .ref si)] := hl
  have hiX3 : ∀ w ∈ wsX30, w ∈ wsX3_beginAnew := by decide +kernel
  refine lv_aload_n hx hb dX3_beginAnew_0 rfl (lv_at hl 0 rfl) ?_
  refine lv_iconst (v := iI 0) hx hb dX3_beginAnew_1 rfl ?_
  refine va_put (D := D) (ci := 3) (v := .int (iI 0)) (ty := .int) (C := RX3) (T := TX3) (N := 8) hx hb hts hiX3 tyX3 tyX3_ok nmX3 hown hK hP hD hS 0 rfl rfl 5 (by decide) (hts (.fieldLink RX3 37 "BackwardSearch$State" "place" "I") (by decide +kernel)) (fun _ h9 => h9) rfl (by decide +kernel) rfl rfl (Nat.le_of_ble_eq_true rfl) dX3_beginAnew_2 (fun H locs hP hD hS => ?_)
  have hP : va_P D vwCl [(si, .inr (3, [.ref li, .ref wi, .ref gi, .int (iI lr), .int (iI er), .int (iI 0), .int (iI lk), .int (iI cp)])), (gi, .inr (2, [.ref ei, .int (iI nf)]))] H := hP
  have hD : va_D A [(si, .inr (3, [.ref li, .ref wi, .ref gi, .int (iI lr), .int (iI er), .int (iI 0), .int (iI lk), .int (iI cp)])), (gi, .inr (2, [.ref ei, .int (iI nf)]))] := hD
  refine lv_aload_n hx hb dX3_beginAnew_5 rfl (lv_at hl 0 rfl) ?_
  refine lv_iconst (v := iI 0) hx hb dX3_beginAnew_6 rfl ?_
  refine va_put (D := D) (ci := 3) (v := .int (iI 0)) (ty := .int) (C := RX3) (T := TX3) (N := 8) hx hb hts hiX3 tyX3 tyX3_ok nmX3 hown hK hP hD hS 0 rfl rfl 6 (by decide) (hts (.fieldLink RX3 41 "BackwardSearch$State" "looks" "I") (by decide +kernel)) (fun _ h9 => h9) rfl (by decide +kernel) rfl rfl (Nat.le_of_ble_eq_true rfl) dX3_beginAnew_7 (fun H locs hP hD hS => ?_)
  have hP : va_P D vwCl [(si, .inr (3, [.ref li, .ref wi, .ref gi, .int (iI lr), .int (iI er), .int (iI 0), .int (iI 0), .int (iI cp)])), (gi, .inr (2, [.ref ei, .int (iI nf)]))] H := hP
  have hD : va_D A [(si, .inr (3, [.ref li, .ref wi, .ref gi, .int (iI lr), .int (iI er), .int (iI 0), .int (iI 0), .int (iI cp)])), (gi, .inr (2, [.ref ei, .int (iI nf)]))] := hD
  refine lv_aload_n hx hb dX3_beginAnew_10 rfl (lv_at hl 0 rfl) ?_
  refine lv_iconst (v := iI 0) hx hb dX3_beginAnew_11 rfl ?_
  refine va_put (D := D) (ci := 3) (v := .int (iI 0)) (ty := .int) (C := RX3) (T := TX3) (N := 8) hx hb hts hiX3 tyX3 tyX3_ok nmX3 hown hK hP hD hS 0 rfl rfl 7 (by decide) (hts (.fieldLink RX3 44 "BackwardSearch$State" "compared" "I") (by decide +kernel)) (fun _ h9 => h9) rfl (by decide +kernel) rfl rfl (Nat.le_of_ble_eq_true rfl) dX3_beginAnew_12 (fun H locs hP hD hS => ?_)
  have hP : va_P D vwCl [(si, .inr (3, [.ref li, .ref wi, .ref gi, .int (iI lr), .int (iI er), .int (iI 0), .int (iI 0), .int (iI 0)])), (gi, .inr (2, [.ref ei, .int (iI nf)]))] H := hP
  have hD : va_D A [(si, .inr (3, [.ref li, .ref wi, .ref gi, .int (iI lr), .int (iI er), .int (iI 0), .int (iI 0), .int (iI 0)])), (gi, .inr (2, [.ref ei, .int (iI nf)]))] := hD
  refine lv_aload_n hx hb dX3_beginAnew_15 rfl (lv_at hl 0 rfl) ?_
  refine va_get (D := D) (ci := 3) (v := .ref gi) (C := RX3) (T := TX3) (N := 8) hx hb hts hiX3 hown hK hP 0 rfl rfl 2 (by decide) (hts (.fieldLink RX3 23 "BackwardSearch$State" "found" "LBackwardSearch$Row;") (by decide +kernel)) (fun _ h9 => h9) rfl dX3_beginAnew_16 ?_
  refine z_cVv (n := 0) (b := gi) (As := []) (rest := []) ⟨hx, hb, hml, hown, hts⟩ (c_X2_clear l D cy gi ei nf ) gX3_beginAnew_X2_clear rfl (by decide +kernel) ⟨Nat.le_of_ble_eq_true rfl, Nat.le_of_ble_eq_true rfl⟩ hK hT hP hD hS hA [1] rfl rfl 1 2 rfl rfl rfl (fun _ => rfl) rfl hl.1 rfl (Nat.le_of_ble_eq_true rfl) dX3_beginAnew_19 ⟨Nat.zero_le _, Nat.zero_le _⟩ (fun  u_1 H locs hw_1 hP hD hS => ?_)
  have hw_1 : True := hw_1
  have hP : va_P D vwCl [(si, .inr (3, [.ref li, .ref wi, .ref gi, .int (iI lr), .int (iI er), .int (iI 0), .int (iI 0), .int (iI 0)])), (gi, .inr (2, [.ref ei, .int (iI 0)]))] H := hP
  have hD : va_D A [(si, .inr (3, [.ref li, .ref wi, .ref gi, .int (iI lr), .int (iI er), .int (iI 0), .int (iI 0), .int (iI 0)])), (gi, .inr (2, [.ref ei, .int (iI 0)]))] := hD
  exact z_vret hx hb hr hlocks hS () (show True from trivial) hP dX3_beginAnew_22
set_option maxHeartbeats 4000000 in
set_option maxRecDepth 100000 in
theorem c_X3_useRules (l : Launch) (D : va_G) (cy : Nat → ClassId) (si : Nat) (li : Nat) (wi : Nat) (gi : Nat) (lr : Int) (er : Int) (pl : Int) (lk : Int) (cp : Int) (x : Int) (y : Int) (hx1 : 0 ≤ x ∧ x ≤ 1) (hy1 : 0 ≤ y ∧ y ≤ 1) : Cv l D cy yX3_useRules wsX3_useRules 0 0 [.ref si, .int (iI x), .int (iI y)] [(si, .inr (3, [.ref li, .ref wi, .ref gi, .int (iI lr), .int (iI er), .int (iI pl), .int (iI lk), .int (iI cp)]))] (fun (u : Unit) => True) (fun u : Unit => [(si, .inr (3, [.ref li, .ref wi, .ref gi, .int (iI x), .int (iI y), .int (iI pl), .int (iI lk), .int (iI cp)]))]) := by
  refine Cv_of (cc := cX3_useRules) (maxL := 3) (ret := none) (by decide) rfl rfl ?_
  intro p e s m args below meth c A hx hb hr hts hown hlocks hml hP hK hD hT hA ls hl
  have hS : va_S A s.heap s.heap [] := va_S.rf
  have hl : lv_has ls 3 [(0, .ref si), (1, .int (iI x)), (2, .int (iI y))] := hl
  have hiX3 : ∀ w ∈ wsX30, w ∈ wsX3_useRules := by decide +kernel
  refine lv_aload_n hx hb dX3_useRules_0 rfl (lv_at hl 0 rfl) ?_
  refine lv_iload_n hx hb dX3_useRules_1 rfl (lv_at hl 1 rfl) ?_
  refine va_put (D := D) (ci := 3) (v := .int (iI x)) (ty := .boolean) (C := RX3) (T := TX3) (N := 8) hx hb hts hiX3 tyX3 tyX3_ok nmX3 hown hK hP hD hS 0 rfl rfl 3 (by decide) (hts (.fieldLink RX3 26 "BackwardSearch$State" "letterRule" "Z") (by decide +kernel)) (fun _ h9 => h9) rfl (by decide +kernel) (z_nb (by omega) (by omega)) (z_fb (by omega) (by omega)) (Nat.le_of_ble_eq_true rfl) dX3_useRules_2 (fun H locs hP hD hS => ?_)
  have hP : va_P D vwCl [(si, .inr (3, [.ref li, .ref wi, .ref gi, .int (iI x), .int (iI er), .int (iI pl), .int (iI lk), .int (iI cp)]))] H := hP
  have hD : va_D A [(si, .inr (3, [.ref li, .ref wi, .ref gi, .int (iI x), .int (iI er), .int (iI pl), .int (iI lk), .int (iI cp)]))] := hD
  refine lv_aload_n hx hb dX3_useRules_5 rfl (lv_at hl 0 rfl) ?_
  refine lv_iload_n hx hb dX3_useRules_6 rfl (lv_at hl 2 rfl) ?_
  refine va_put (D := D) (ci := 3) (v := .int (iI y)) (ty := .boolean) (C := RX3) (T := TX3) (N := 8) hx hb hts hiX3 tyX3 tyX3_ok nmX3 hown hK hP hD hS 0 rfl rfl 4 (by decide) (hts (.fieldLink RX3 30 "BackwardSearch$State" "endRule" "Z") (by decide +kernel)) (fun _ h9 => h9) rfl (by decide +kernel) (z_nb (by omega) (by omega)) (z_fb (by omega) (by omega)) (Nat.le_of_ble_eq_true rfl) dX3_useRules_7 (fun H locs hP hD hS => ?_)
  have hP : va_P D vwCl [(si, .inr (3, [.ref li, .ref wi, .ref gi, .int (iI x), .int (iI y), .int (iI pl), .int (iI lk), .int (iI cp)]))] H := hP
  have hD : va_D A [(si, .inr (3, [.ref li, .ref wi, .ref gi, .int (iI x), .int (iI y), .int (iI pl), .int (iI lk), .int (iI cp)]))] := hD
  exact z_vret hx hb hr hlocks hS () (show True from trivial) hP dX3_useRules_10
set_option maxHeartbeats 4000000 in
set_option maxRecDepth 100000 in
theorem c_X3_rulesOn (l : Launch) (D : va_G) (cy : Nat → ClassId) (si : Nat) (li : Nat) (wi : Nat) (gi : Nat) (lr : Int) (er : Int) (pl : Int) (lk : Int) (cp : Int) (hb : 0 ≤ lr ∧ lr ≤ 1 ∧ 0 ≤ er ∧ er ≤ 1) : Ci l D cy yX3_rulesOn wsX3_rulesOn 0 0 [.ref si] [(si, .inr (3, [.ref li, .ref wi, .ref gi, .int (iI lr), .int (iI er), .int (iI pl), .int (iI lk), .int (iI cp)]))] (fun (r : Int32) (u : Unit) => r = iI (lr + er)) (fun u : Unit => [(si, .inr (3, [.ref li, .ref wi, .ref gi, .int (iI lr), .int (iI er), .int (iI pl), .int (iI lk), .int (iI cp)]))]) := by
  refine Ci_of (cc := cX3_rulesOn) (maxL := 1) (ret := (some .int)) (by decide) rfl rfl ?_
  intro p e s m args below meth c A hx hb hr hts hown hlocks hml hP hK hD hT hA ls hl
  have hS : va_S A s.heap s.heap [] := va_S.rf
  have hl : lv_has ls 1 [(0, .ref si)] := hl
  have hiX3 : ∀ w ∈ wsX30, w ∈ wsX3_rulesOn := by decide +kernel
  refine lv_aload_n hx hb dX3_rulesOn_0 rfl (lv_at hl 0 rfl) ?_
  refine va_get (D := D) (ci := 3) (v := .int (iI lr)) (C := RX3) (T := TX3) (N := 8) hx hb hts hiX3 hown hK hP 0 rfl rfl 3 (by decide) (hts (.fieldLink RX3 26 "BackwardSearch$State" "letterRule" "Z") (by decide +kernel)) (fun _ h9 => h9) rfl dX3_rulesOn_1 ?_
  refine z_if_eq (tgt := 11) hx hb (iI_t (by omega) (by omega)) dX3_rulesOn_4 (by decide) (fun c1 => ?_) (fun c1 => ?_)
  · --
    refine lv_iconst (v := iI 0) hx hb dX3_rulesOn_11 rfl ?_
    refine lv_aload_n hx hb dX3_rulesOn_12 rfl (lv_at hl 0 rfl) ?_
    refine va_get (D := D) (ci := 3) (v := .int (iI er)) (C := RX3) (T := TX3) (N := 8) hx hb hts hiX3 hown hK hP 0 rfl rfl 4 (by decide) (hts (.fieldLink RX3 30 "BackwardSearch$State" "endRule" "Z") (by decide +kernel)) (fun _ h9 => h9) rfl dX3_rulesOn_13 ?_
    refine z_if_eq (tgt := 23) hx hb (iI_t (by omega) (by omega)) dX3_rulesOn_16 (by decide) (fun c2 => ?_) (fun c2 => ?_)
    · --
      refine lv_iconst (v := iI 0) hx hb dX3_rulesOn_23 rfl ?_
      refine z_add hx hb dX3_rulesOn_24 ?_
      exact z_iret hx hb hr hlocks hS () (show (iI (0 + 0)) = iI (lr + er) from (congrArg iI (by omega))) hP dX3_rulesOn_25
    · --
      refine lv_iconst (v := iI 1) hx hb dX3_rulesOn_19 rfl ?_
      refine lv_goto (tgt := 24) hx hb dX3_rulesOn_20 (by decide) ?_
      refine z_add hx hb dX3_rulesOn_24 ?_
      exact z_iret hx hb hr hlocks hS () (show (iI (0 + 1)) = iI (lr + er) from (congrArg iI (by omega))) hP dX3_rulesOn_25
  · --
    refine lv_iconst (v := iI 1) hx hb dX3_rulesOn_7 rfl ?_
    refine lv_goto (tgt := 12) hx hb dX3_rulesOn_8 (by decide) ?_
    refine lv_aload_n hx hb dX3_rulesOn_12 rfl (lv_at hl 0 rfl) ?_
    refine va_get (D := D) (ci := 3) (v := .int (iI er)) (C := RX3) (T := TX3) (N := 8) hx hb hts hiX3 hown hK hP 0 rfl rfl 4 (by decide) (hts (.fieldLink RX3 30 "BackwardSearch$State" "endRule" "Z") (by decide +kernel)) (fun _ h9 => h9) rfl dX3_rulesOn_13 ?_
    refine z_if_eq (tgt := 23) hx hb (iI_t (by omega) (by omega)) dX3_rulesOn_16 (by decide) (fun c3 => ?_) (fun c3 => ?_)
    · --
      refine lv_iconst (v := iI 0) hx hb dX3_rulesOn_23 rfl ?_
      refine z_add hx hb dX3_rulesOn_24 ?_
      exact z_iret hx hb hr hlocks hS () (show (iI (1 + 0)) = iI (lr + er) from (congrArg iI (by omega))) hP dX3_rulesOn_25
    · --
      refine lv_iconst (v := iI 1) hx hb dX3_rulesOn_19 rfl ?_
      refine lv_goto (tgt := 24) hx hb dX3_rulesOn_20 (by decide) ?_
      refine z_add hx hb dX3_rulesOn_24 ?_
      exact z_iret hx hb hr hlocks hS () (show (iI (1 + 1)) = iI (lr + er) from (congrArg iI (by omega))) hP dX3_rulesOn_25
set_option maxHeartbeats 4000000 in
set_option maxRecDepth 100000 in
theorem c_X3_beginnings (l : Launch) (D : va_G) (cy : Nat → ClassId) (si : Nat) (li : Nat) (mi : Nat) (wi : Nat) (vi : Nat) (gi : Nat) (nl : Int) (nw : Int) (lr : Int) (er : Int) (pl : Int) (lk : Int) (cp : Int) (hb : 0 ≤ nl ∧ nl ≤ 60 ∧ 0 ≤ nw ∧ nw ≤ 16) : Ci l D cy yX3_beginnings wsX3_beginnings 1 21 [.ref si] [(si, .inr (3, [.ref li, .ref wi, .ref gi, .int (iI lr), .int (iI er), .int (iI pl), .int (iI lk), .int (iI cp)])), (li, .inr (2, [.ref mi, .int (iI nl)])), (wi, .inr (2, [.ref vi, .int (iI nw)]))] (fun (r : Int32) (u : Unit) => r = iI (max (nl - nw + 1) 0)) (fun u : Unit => [(si, .inr (3, [.ref li, .ref wi, .ref gi, .int (iI lr), .int (iI er), .int (iI pl), .int (iI lk), .int (iI cp)])), (li, .inr (2, [.ref mi, .int (iI nl)])), (wi, .inr (2, [.ref vi, .int (iI nw)]))]) := by
  refine Ci_of (cc := cX3_beginnings) (maxL := 1) (ret := (some .int)) (by decide) rfl rfl ?_
  intro p e s m args below meth c A hx hb hr hts hown hlocks hml hP hK hD hT hA ls hl
  have hS : va_S A s.heap s.heap [] := va_S.rf
  have hl : lv_has ls 1 [(0, .ref si)] := hl
  have hiX3 : ∀ w ∈ wsX30, w ∈ wsX3_beginnings := by decide +kernel
  refine lv_aload_n hx hb dX3_beginnings_0 rfl (lv_at hl 0 rfl) ?_
  refine va_get (D := D) (ci := 3) (v := .ref li) (C := RX3) (T := TX3) (N := 8) hx hb hts hiX3 hown hK hP 0 rfl rfl 0 (by decide) (hts (.fieldLink RX3 14 "BackwardSearch$State" "line" "LBackwardSearch$Row;") (by decide +kernel)) (fun _ h9 => h9) rfl dX3_beginnings_1 ?_
  refine z_cVi (n := 0) (b := li) (As := []) (rest := []) ⟨hx, hb, hml, hown, hts⟩ (c_X2_size l D cy li mi nl ) gX3_beginnings_X2_size rfl (by decide +kernel) ⟨Nat.le_of_ble_eq_true rfl, Nat.le_of_ble_eq_true rfl⟩ hK hT hP hD hS hA [1] rfl rfl 1 2 rfl rfl rfl (fun _ => rfl) rfl hl.1 rfl (Nat.le_of_ble_eq_true rfl) dX3_beginnings_4 ⟨Nat.zero_le _, Nat.zero_le _⟩ (fun r_1 u_1 H locs hw_1 hP hD hS => ?_)
  have hw_1 : r_1 = iI nl := hw_1
  have hP : va_P D vwCl [(si, .inr (3, [.ref li, .ref wi, .ref gi, .int (iI lr), .int (iI er), .int (iI pl), .int (iI lk), .int (iI cp)])), (li, .inr (2, [.ref mi, .int (iI nl)])), (wi, .inr (2, [.ref vi, .int (iI nw)]))] H := hP
  have hD : va_D A [(si, .inr (3, [.ref li, .ref wi, .ref gi, .int (iI lr), .int (iI er), .int (iI pl), .int (iI lk), .int (iI cp)])), (li, .inr (2, [.ref mi, .int (iI nl)])), (wi, .inr (2, [.ref vi, .int (iI nw)]))] := hD
  obtain rfl := hw_1
  refine lv_aload_n hx hb dX3_beginnings_7 rfl (lv_at hl 0 rfl) ?_
  refine va_get (D := D) (ci := 3) (v := .ref wi) (C := RX3) (T := TX3) (N := 8) hx hb hts hiX3 hown hK hP 0 rfl rfl 1 (by decide) (hts (.fieldLink RX3 20 "BackwardSearch$State" "word" "LBackwardSearch$Row;") (by decide +kernel)) (fun _ h9 => h9) rfl dX3_beginnings_8 ?_
  refine z_cVi (n := 0) (b := wi) (As := []) (rest := [.int (iI nl)]) ⟨hx, hb, hml, hown, hts⟩ (c_X2_size l D cy wi vi nw ) gX3_beginnings_X2_size rfl (by decide +kernel) ⟨Nat.le_of_ble_eq_true rfl, Nat.le_of_ble_eq_true rfl⟩ hK hT hP hD hS hA [2] rfl rfl 2 2 rfl rfl rfl (fun _ => rfl) rfl hl.1 rfl (Nat.le_of_ble_eq_true rfl) dX3_beginnings_11 ⟨Nat.zero_le _, Nat.zero_le _⟩ (fun r_2 u_2 H locs hw_2 hP hD hS => ?_)
  have hw_2 : r_2 = iI nw := hw_2
  have hP : va_P D vwCl [(si, .inr (3, [.ref li, .ref wi, .ref gi, .int (iI lr), .int (iI er), .int (iI pl), .int (iI lk), .int (iI cp)])), (li, .inr (2, [.ref mi, .int (iI nl)])), (wi, .inr (2, [.ref vi, .int (iI nw)]))] H := hP
  have hD : va_D A [(si, .inr (3, [.ref li, .ref wi, .ref gi, .int (iI lr), .int (iI er), .int (iI pl), .int (iI lk), .int (iI cp)])), (li, .inr (2, [.ref mi, .int (iI nl)])), (wi, .inr (2, [.ref vi, .int (iI nw)]))] := hD
  obtain rfl := hw_2
  refine z_sub hx hb dX3_beginnings_14 ?_
  refine lv_iconst (v := iI 1) hx hb dX3_beginnings_15 rfl ?_
  refine z_add hx hb dX3_beginnings_16 ?_
  refine lv_iconst (v := iI 0) hx hb dX3_beginnings_17 rfl ?_
  refine z_mmax (hml := hml.trans hl.1.symm) hx hb hown (hts (.methodLink RX3 54 Lib.Math.max.name) (by decide +kernel)) (hts (.static Lib.Math.max.name) (by decide +kernel)) (hts (.initialized "java/lang/Math") (by decide +kernel)) (hts (.code Lib.Math.max.name Lib.Math.max.code 2 (some .int)) (by decide +kernel)) (Nat.le_of_ble_eq_true rfl) (Nat.le_of_ble_eq_true rfl) (Nat.zero_le _) (Nat.zero_le _) (by omega) (by omega) (by omega) (by omega) dX3_beginnings_18 (fun z_3 e_3 => ?_)
  exact z_iret hx hb hr hlocks hS () (show (iI z_3) = iI (max (nl - nw + 1) 0) from (congrArg iI (by omega))) hP dX3_beginnings_21
set_option maxHeartbeats 4000000 in
set_option maxRecDepth 100000 in
theorem c_X3_hasEnded (l : Launch) (D : va_G) (cy : Nat → ClassId) (si : Nat) (li : Nat) (mi : Nat) (wi : Nat) (vi : Nat) (gi : Nat) (nl : Int) (nw : Int) (lr : Int) (er : Int) (pl : Int) (lk : Int) (cp : Int) (hb : 0 ≤ nl ∧ nl ≤ 60 ∧ 0 ≤ nw ∧ nw ≤ 16 ∧ 0 ≤ pl ∧ pl ≤ 100) : Ci l D cy yX3_hasEnded wsX3_hasEnded 2 41 [.ref si] [(si, .inr (3, [.ref li, .ref wi, .ref gi, .int (iI lr), .int (iI er), .int (iI pl), .int (iI lk), .int (iI cp)])), (li, .inr (2, [.ref mi, .int (iI nl)])), (wi, .inr (2, [.ref vi, .int (iI nw)]))] (fun (r : Int32) (u : Unit) => ((nw = 0 ∨ nl - nw + 1 ≤ pl) ∧ r = iI 1) ∨ (¬ (nw = 0 ∨ nl - nw + 1 ≤ pl) ∧ r = iI 0)) (fun u : Unit => [(si, .inr (3, [.ref li, .ref wi, .ref gi, .int (iI lr), .int (iI er), .int (iI pl), .int (iI lk), .int (iI cp)])), (li, .inr (2, [.ref mi, .int (iI nl)])), (wi, .inr (2, [.ref vi, .int (iI nw)]))]) := by
  refine Ci_of (cc := cX3_hasEnded) (maxL := 1) (ret := (some .boolean)) (by decide) rfl rfl ?_
  intro p e s m args below meth c A hx hb hr hts hown hlocks hml hP hK hD hT hA ls hl
  have hS : va_S A s.heap s.heap [] := va_S.rf
  have hl : lv_has ls 1 [(0, .ref si)] := hl
  have hiX3 : ∀ w ∈ wsX30, w ∈ wsX3_hasEnded := by decide +kernel
  refine lv_aload_n hx hb dX3_hasEnded_0 rfl (lv_at hl 0 rfl) ?_
  refine va_get (D := D) (ci := 3) (v := .ref wi) (C := RX3) (T := TX3) (N := 8) hx hb hts hiX3 hown hK hP 0 rfl rfl 1 (by decide) (hts (.fieldLink RX3 20 "BackwardSearch$State" "word" "LBackwardSearch$Row;") (by decide +kernel)) (fun _ h9 => h9) rfl dX3_hasEnded_1 ?_
  refine z_cVi (n := 0) (b := wi) (As := []) (rest := []) ⟨hx, hb, hml, hown, hts⟩ (c_X2_isEmpty l D cy wi vi nw (by omega)) gX3_hasEnded_X2_isEmpty rfl (by decide +kernel) ⟨Nat.le_of_ble_eq_true rfl, Nat.le_of_ble_eq_true rfl⟩ hK hT hP hD hS hA [2] rfl rfl 2 2 rfl rfl rfl (fun _ => rfl) rfl hl.1 rfl (Nat.le_of_ble_eq_true rfl) dX3_hasEnded_4 ⟨Nat.zero_le _, Nat.zero_le _⟩ (fun r_1 u_1 H locs hw_1 hP hD hS => ?_)
  have hw_1 : (nw = 0 ∧ r_1 = iI 1) ∨ (¬ nw = 0 ∧ r_1 = iI 0) := hw_1
  have hP : va_P D vwCl [(si, .inr (3, [.ref li, .ref wi, .ref gi, .int (iI lr), .int (iI er), .int (iI pl), .int (iI lk), .int (iI cp)])), (li, .inr (2, [.ref mi, .int (iI nl)])), (wi, .inr (2, [.ref vi, .int (iI nw)]))] H := hP
  have hD : va_D A [(si, .inr (3, [.ref li, .ref wi, .ref gi, .int (iI lr), .int (iI er), .int (iI pl), .int (iI lk), .int (iI cp)])), (li, .inr (2, [.ref mi, .int (iI nl)])), (wi, .inr (2, [.ref vi, .int (iI nw)]))] := hD
  rcases hw_1 with ⟨h_1, rfl⟩ | ⟨h_1, rfl⟩
  · --
    refine z_if_ne (tgt := 21) hx hb (iI_t (by omega) (by omega)) dX3_hasEnded_7 (by decide) (fun _ => ?_) (fun c2 => absurd c2 (by omega))
    refine lv_iconst (v := iI 1) hx hb dX3_hasEnded_21 rfl ?_
    refine lv_goto (tgt := 26) hx hb dX3_hasEnded_22 (by decide) ?_
    exact z_zret hx hb hr hlocks (by decide +kernel) hS () (show ((nw = 0 ∨ nl - nw + 1 ≤ pl) ∧ (iI 1) = iI 1) ∨ (¬ (nw = 0 ∨ nl - nw + 1 ≤ pl) ∧ (iI 1) = iI 0) from (by first | exact Or.inl ⟨by omega, rfl⟩ | exact Or.inr ⟨by omega, rfl⟩)) hP dX3_hasEnded_26
  · --
    refine z_if_ne (tgt := 21) hx hb (iI_t (by omega) (by omega)) dX3_hasEnded_7 (by decide) (fun c3 => absurd c3 (by omega)) (fun _ => ?_)
    refine lv_aload_n hx hb dX3_hasEnded_10 rfl (lv_at hl 0 rfl) ?_
    refine va_get (D := D) (ci := 3) (v := .int (iI pl)) (C := RX3) (T := TX3) (N := 8) hx hb hts hiX3 hown hK hP 0 rfl rfl 5 (by decide) (hts (.fieldLink RX3 37 "BackwardSearch$State" "place" "I") (by decide +kernel)) (fun _ h9 => h9) rfl dX3_hasEnded_11 ?_
    refine lv_aload_n hx hb dX3_hasEnded_14 rfl (lv_at hl 0 rfl) ?_
    refine z_cVi (n := 0) (b := si) (As := []) (rest := [.int (iI pl)]) ⟨hx, hb, hml, hown, hts⟩ (c_X3_beginnings l D cy si li mi wi vi gi nl nw lr er pl lk cp (by omega)) gX3_hasEnded_X3_beginnings rfl (by decide +kernel) ⟨Nat.le_of_ble_eq_true rfl, Nat.le_of_ble_eq_true rfl⟩ hK hT hP hD hS hA [0, 1, 2] rfl rfl 0 3 rfl rfl rfl (fun _ => rfl) rfl hl.1 rfl (Nat.le_of_ble_eq_true rfl) dX3_hasEnded_15 ⟨Nat.zero_le _, Nat.zero_le _⟩ (fun r_4 u_4 H locs hw_4 hP hD hS => ?_)
    have hw_4 : r_4 = iI (max (nl - nw + 1) 0) := hw_4
    have hP : va_P D vwCl [(si, .inr (3, [.ref li, .ref wi, .ref gi, .int (iI lr), .int (iI er), .int (iI pl), .int (iI lk), .int (iI cp)])), (li, .inr (2, [.ref mi, .int (iI nl)])), (wi, .inr (2, [.ref vi, .int (iI nw)]))] H := hP
    have hD : va_D A [(si, .inr (3, [.ref li, .ref wi, .ref gi, .int (iI lr), .int (iI er), .int (iI pl), .int (iI lk), .int (iI cp)])), (li, .inr (2, [.ref mi, .int (iI nl)])), (wi, .inr (2, [.ref vi, .int (iI nw)]))] := hD
    obtain rfl := hw_4
    refine z_icmp_lt (tgt := 25) hx hb (iI_t (by omega) (by omega)) (iI_t (by omega) (by omega)) dX3_hasEnded_18 (by decide) (fun c5 => ?_) (fun c5 => ?_)
    · --
      refine lv_iconst (v := iI 0) hx hb dX3_hasEnded_25 rfl ?_
      exact z_zret hx hb hr hlocks (by decide +kernel) hS () (show ((nw = 0 ∨ nl - nw + 1 ≤ pl) ∧ (iI 0) = iI 1) ∨ (¬ (nw = 0 ∨ nl - nw + 1 ≤ pl) ∧ (iI 0) = iI 0) from (by first | exact Or.inl ⟨by omega, rfl⟩ | exact Or.inr ⟨by omega, rfl⟩)) hP dX3_hasEnded_26
    · --
      refine lv_iconst (v := iI 1) hx hb dX3_hasEnded_21 rfl ?_
      refine lv_goto (tgt := 26) hx hb dX3_hasEnded_22 (by decide) ?_
      exact z_zret hx hb hr hlocks (by decide +kernel) hS () (show ((nw = 0 ∨ nl - nw + 1 ≤ pl) ∧ (iI 1) = iI 1) ∨ (¬ (nw = 0 ∨ nl - nw + 1 ≤ pl) ∧ (iI 1) = iI 0) from (by first | exact Or.inl ⟨by omega, rfl⟩ | exact Or.inr ⟨by omega, rfl⟩)) hP dX3_hasEnded_26
set_option maxHeartbeats 4000000 in
set_option maxRecDepth 100000 in
theorem c_X3_lastDifferenceAt (l : Launch) (D : va_G) (cy : Nat → ClassId) (si : Nat) (li : Nat) (mi : Nat) (wi : Nat) (vi : Nat) (gi : Nat) (nl : Int) (Fl : Nat → Int32) (nw : Int) (Fw : Nat → Int32) (lr : Int) (er : Int) (pl : Int) (lk : Int) (cp : Int) (x : Int) (hb : 0 ≤ nl ∧ nl ≤ 60 ∧ 0 ≤ nw ∧ nw ≤ 16) (hx1 : 0 ≤ x ∧ x + nw ≤ nl) : Ci l D cy yX3_lastDifferenceAt wsX3_lastDifferenceAt 2 42 [.ref si, .int (iI x)] [(si, .inr (3, [.ref li, .ref wi, .ref gi, .int (iI lr), .int (iI er), .int (iI pl), .int (iI lk), .int (iI cp)])), (li, .inr (2, [.ref mi, .int (iI nl)])), (mi, .inl (cy 0, 60, .inl Fl)), (wi, .inr (2, [.ref vi, .int (iI nw)])), (vi, .inl (cy 0, 16, .inl Fw))] (fun (r : Int32) (u : Unit) => r = iI (diffF nw.toNat Fw Fl x)) (fun u : Unit => [(si, .inr (3, [.ref li, .ref wi, .ref gi, .int (iI lr), .int (iI er), .int (iI pl), .int (iI lk), .int (iI cp)])), (li, .inr (2, [.ref mi, .int (iI nl)])), (mi, .inl (cy 0, 60, .inl Fl)), (wi, .inr (2, [.ref vi, .int (iI nw)])), (vi, .inl (cy 0, 16, .inl Fw))]) := by
  refine Ci_of (cc := cX3_lastDifferenceAt) (maxL := 3) (ret := (some .int)) (by decide) rfl rfl ?_
  intro p e s m args below meth c A hx hb hr hts hown hlocks hml hP hK hD hT hA ls hl
  have hS : va_S A s.heap s.heap [] := va_S.rf
  have hl : lv_has ls 3 [(0, .ref si), (1, .int (iI x))] := hl
  have hiX3 : ∀ w ∈ wsX30, w ∈ wsX3_lastDifferenceAt := by decide +kernel
  refine lv_aload_n hx hb dX3_lastDifferenceAt_0 rfl (lv_at hl 0 rfl) ?_
  refine va_get (D := D) (ci := 3) (v := .ref wi) (C := RX3) (T := TX3) (N := 8) hx hb hts hiX3 hown hK hP 0 rfl rfl 1 (by decide) (hts (.fieldLink RX3 20 "BackwardSearch$State" "word" "LBackwardSearch$Row;") (by decide +kernel)) (fun _ h9 => h9) rfl dX3_lastDifferenceAt_1 ?_
  refine z_cVi (n := 0) (b := wi) (As := []) (rest := []) ⟨hx, hb, hml, hown, hts⟩ (c_X2_size l D cy wi vi nw ) gX3_lastDifferenceAt_X2_size rfl (by decide +kernel) ⟨Nat.le_of_ble_eq_true rfl, Nat.le_of_ble_eq_true rfl⟩ hK hT hP hD hS hA [3] rfl rfl 3 2 rfl rfl rfl (fun _ => rfl) rfl hl.1 rfl (Nat.le_of_ble_eq_true rfl) dX3_lastDifferenceAt_4 ⟨Nat.zero_le _, Nat.zero_le _⟩ (fun r_1 u_1 H locs hw_1 hP hD hS => ?_)
  have hw_1 : r_1 = iI nw := hw_1
  have hP : va_P D vwCl [(si, .inr (3, [.ref li, .ref wi, .ref gi, .int (iI lr), .int (iI er), .int (iI pl), .int (iI lk), .int (iI cp)])), (li, .inr (2, [.ref mi, .int (iI nl)])), (mi, .inl (cy 0, 60, .inl Fl)), (wi, .inr (2, [.ref vi, .int (iI nw)])), (vi, .inl (cy 0, 16, .inl Fw))] H := hP
  have hD : va_D A [(si, .inr (3, [.ref li, .ref wi, .ref gi, .int (iI lr), .int (iI er), .int (iI pl), .int (iI lk), .int (iI cp)])), (li, .inr (2, [.ref mi, .int (iI nl)])), (mi, .inl (cy 0, 60, .inl Fl)), (wi, .inr (2, [.ref vi, .int (iI nw)])), (vi, .inl (cy 0, 16, .inl Fw))] := hD
  obtain rfl := hw_1
  refine lv_iconst (v := iI 1) hx hb dX3_lastDifferenceAt_7 rfl ?_
  refine z_sub hx hb dX3_lastDifferenceAt_8 ?_
  refine lv_istore_n (lv' := [(2, .int (iI (nw - 1))), (0, .ref si), (1, .int (iI x))]) hx hb dX3_lastDifferenceAt_9 rfl hl (by decide) rfl (fun ls hl => ?_)
  have hloop2 : ∀ (n2 : Nat) (i : Int) (hi : -1 ≤ i ∧ i < nw) (hg : ∀ j : Nat, i < j → j < nw.toNat → Fw j = Fl (x + (j : Int)).toNat) (hm : i + 1 < (n2 : Int)) (H : Heap) (locs : List Loc) (ls : Array Slot) (hP : va_P D vwCl [(si, .inr (3, [.ref li, .ref wi, .ref gi, .int (iI lr), .int (iI er), .int (iI pl), .int (iI lk), .int (iI cp)])), (li, .inr (2, [.ref mi, .int (iI nl)])), (mi, .inl (cy 0, 60, .inl Fl)), (wi, .inr (2, [.ref vi, .int (iI nw)])), (vi, .inl (cy 0, 16, .inl Fw))] H) (hD : va_D A [(si, .inr (3, [.ref li, .ref wi, .ref gi, .int (iI lr), .int (iI er), .int (iI pl), .int (iI lk), .int (iI cp)])), (li, .inr (2, [.ref mi, .int (iI nl)])), (mi, .inl (cy 0, 60, .inl Fl)), (wi, .inr (2, [.ref vi, .int (iI nw)])), (vi, .inl (cy 0, 16, .inl Fw))]) (hS : va_S A s.heap H locs) (hl : lv_has ls 3 [(2, .int (iI i)), (0, .ref si), (1, .int (iI x))]), W p l e ({ frames := 2, cells := 0, slots := 0, locals := 42 } : Room) s m args below meth c H locs 0 0 (MQ below (va_Qi (fun (r : Int32) (u : Unit) => r = iI (diffF nw.toNat Fw Fl x)) (fun u t => va_P D vwCl ((fun u : Unit => [(si, .inr (3, [.ref li, .ref wi, .ref gi, .int (iI lr), .int (iI er), .int (iI pl), .int (iI lk), .int (iI cp)])), (li, .inr (2, [.ref mi, .int (iI nl)])), (mi, .inl (cy 0, 60, .inl Fl)), (wi, .inr (2, [.ref vi, .int (iI nw)])), (vi, .inl (cy 0, 16, .inl Fw))]) u) t.heap) A) args s 0 0 A) (F0 m 10 ls []) := by
    intro n2
    induction n2 with
    | zero =>
      intro i hi hg hm; exact absurd hm (by omega)
    | succ n2 ih2 =>
      intro i hi hg hm H locs ls hP hD hS hl
      refine lv_iload_n hx hb dX3_lastDifferenceAt_10 rfl (lv_at hl 0 rfl) ?_
      refine z_if_lt (tgt := 43) hx hb (iI_t (by omega) (by omega)) dX3_lastDifferenceAt_11 (by decide) (fun c3 => ?_) (fun c3 => ?_)
      · --
        refine lv_iconst (v := iI (-1)) hx hb dX3_lastDifferenceAt_43 rfl ?_
        exact z_iret hx hb hr hlocks hS () (show (iI (-1)) = iI (diffF nw.toNat Fw Fl x) from (congrArg iI (diffF_eq ⟨by omega, by omega, fun h => absurd h (by omega), fun j h1 h2 => hg j (by omega) h2⟩))) hP dX3_lastDifferenceAt_44
      · --
        refine lv_aload_n hx hb dX3_lastDifferenceAt_14 rfl (lv_at hl 1 rfl) ?_
        refine va_get (D := D) (ci := 3) (v := .ref wi) (C := RX3) (T := TX3) (N := 8) hx hb hts hiX3 hown hK hP 0 rfl rfl 1 (by decide) (hts (.fieldLink RX3 20 "BackwardSearch$State" "word" "LBackwardSearch$Row;") (by decide +kernel)) (fun _ h9 => h9) rfl dX3_lastDifferenceAt_15 ?_
        refine lv_iload_n hx hb dX3_lastDifferenceAt_18 rfl (lv_at hl 0 rfl) ?_
        refine z_cVi (n := 1) (b := wi) (As := [.int (iI i)]) (rest := []) ⟨hx, hb, hml, hown, hts⟩ (c_X2_at l D cy wi vi 16 nw Fw i (by omega) (by omega)) gX3_lastDifferenceAt_X2_at rfl (by decide +kernel) ⟨Nat.le_of_ble_eq_true rfl, Nat.le_of_ble_eq_true rfl⟩ hK hT hP hD hS hA [3, 4] rfl rfl 3 2 rfl rfl rfl (fun _ => rfl) rfl hl.1 rfl (Nat.le_of_ble_eq_true rfl) dX3_lastDifferenceAt_19 ⟨Nat.zero_le _, Nat.zero_le _⟩ (fun r_4 u_4 H locs hw_4 hP hD hS => ?_)
        have hw_4 : (0 ≤ i ∧ i < nw ∧ r_4 = Fw i.toNat) ∨ (¬ (0 ≤ i ∧ i < nw) ∧ r_4 = iI (-1)) := hw_4
        have hP : va_P D vwCl [(si, .inr (3, [.ref li, .ref wi, .ref gi, .int (iI lr), .int (iI er), .int (iI pl), .int (iI lk), .int (iI cp)])), (li, .inr (2, [.ref mi, .int (iI nl)])), (mi, .inl (cy 0, 60, .inl Fl)), (wi, .inr (2, [.ref vi, .int (iI nw)])), (vi, .inl (cy 0, 16, .inl Fw))] H := hP
        have hD : va_D A [(si, .inr (3, [.ref li, .ref wi, .ref gi, .int (iI lr), .int (iI er), .int (iI pl), .int (iI lk), .int (iI cp)])), (li, .inr (2, [.ref mi, .int (iI nl)])), (mi, .inl (cy 0, 60, .inl Fl)), (wi, .inr (2, [.ref vi, .int (iI nw)])), (vi, .inl (cy 0, 16, .inl Fw))] := hD
        rcases hw_4 with ⟨h_4, g_4, rfl⟩ | ⟨h_4, rfl⟩
        · --
          refine lv_aload_n hx hb dX3_lastDifferenceAt_22 rfl (lv_at hl 1 rfl) ?_
          refine va_get (D := D) (ci := 3) (v := .ref li) (C := RX3) (T := TX3) (N := 8) hx hb hts hiX3 hown hK hP 0 rfl rfl 0 (by decide) (hts (.fieldLink RX3 14 "BackwardSearch$State" "line" "LBackwardSearch$Row;") (by decide +kernel)) (fun _ h9 => h9) rfl dX3_lastDifferenceAt_23 ?_
          refine lv_iload_n hx hb dX3_lastDifferenceAt_26 rfl (lv_at hl 2 rfl) ?_
          refine lv_iload_n hx hb dX3_lastDifferenceAt_27 rfl (lv_at hl 0 rfl) ?_
          refine z_add hx hb dX3_lastDifferenceAt_28 ?_
          refine z_cVi (n := 1) (b := li) (As := [.int (iI (x + i))]) (rest := [.int (Fw i.toNat)]) ⟨hx, hb, hml, hown, hts⟩ (c_X2_at l D cy li mi 60 nl Fl (x + i) (by omega) (by omega)) gX3_lastDifferenceAt_X2_at rfl (by decide +kernel) ⟨Nat.le_of_ble_eq_true rfl, Nat.le_of_ble_eq_true rfl⟩ hK hT hP hD hS hA [1, 2] rfl rfl 1 2 rfl rfl rfl (fun _ => rfl) rfl hl.1 rfl (Nat.le_of_ble_eq_true rfl) dX3_lastDifferenceAt_29 ⟨Nat.zero_le _, Nat.zero_le _⟩ (fun r_5 u_5 H locs hw_5 hP hD hS => ?_)
          have hw_5 : (0 ≤ (x + i) ∧ (x + i) < nl ∧ r_5 = Fl (x + i).toNat) ∨ (¬ (0 ≤ (x + i) ∧ (x + i) < nl) ∧ r_5 = iI (-1)) := hw_5
          have hP : va_P D vwCl [(si, .inr (3, [.ref li, .ref wi, .ref gi, .int (iI lr), .int (iI er), .int (iI pl), .int (iI lk), .int (iI cp)])), (li, .inr (2, [.ref mi, .int (iI nl)])), (mi, .inl (cy 0, 60, .inl Fl)), (wi, .inr (2, [.ref vi, .int (iI nw)])), (vi, .inl (cy 0, 16, .inl Fw))] H := hP
          have hD : va_D A [(si, .inr (3, [.ref li, .ref wi, .ref gi, .int (iI lr), .int (iI er), .int (iI pl), .int (iI lk), .int (iI cp)])), (li, .inr (2, [.ref mi, .int (iI nl)])), (mi, .inl (cy 0, 60, .inl Fl)), (wi, .inr (2, [.ref vi, .int (iI nw)])), (vi, .inl (cy 0, 16, .inl Fw))] := hD
          rcases hw_5 with ⟨h_5, g_5, rfl⟩ | ⟨h_5, rfl⟩
          · --
            refine lv_icmp_eq (tgt := 37) hx hb dX3_lastDifferenceAt_32 (by decide) (fun c6 => ?_) (fun c6 => ?_)
            · --
              refine z_iinc (lv' := [(2, .int (iI (i + (-1)))), (0, .ref si), (1, .int (iI x))]) hx hb dX3_lastDifferenceAt_37 hl (k := 0) rfl (by decide) rfl (fun ls hl => ?_)
              refine lv_goto (tgt := 10) hx hb dX3_lastDifferenceAt_40 (by decide) ?_
              exact ih2 (i + (-1)) (by omega) (diff_step (by omega) hg (by assumption)) (by omega) _ _ _ hP hD hS (lv_sub hl [0, 1, 2] rfl)
            · --
              refine lv_iload_n hx hb dX3_lastDifferenceAt_35 rfl (lv_at hl 0 rfl) ?_
              exact z_iret hx hb hr hlocks hS () (show (iI i) = iI (diffF nw.toNat Fw Fl x) from (congrArg iI (diffF_eq ⟨by omega, by omega, fun _ => by assumption, hg⟩))) hP dX3_lastDifferenceAt_36
          · --
            exfalso; omega
        · --
          exfalso; omega
  exact hloop2 (Int.toNat ((nw - 1) + 1) + 1) (nw - 1) (by omega) (fun j h1 h2 => absurd h2 (by omega)) (by omega) _ _ _ hP hD hS (lv_sub hl [0, 1, 2] rfl)
set_option maxHeartbeats 4000000 in
set_option maxRecDepth 100000 in
theorem c_X3_skipByLetter (l : Launch) (D : va_G) (cy : Nat → ClassId) (si : Nat) (li : Nat) (wi : Nat) (vi : Nat) (gi : Nat) (nw : Int) (Fw : Nat → Int32) (lr : Int) (er : Int) (pl : Int) (lk : Int) (cp : Int) (x : Int) (y : Int32) (hb : 0 ≤ nw ∧ nw ≤ 16) : Ci l D cy yX3_skipByLetter wsX3_skipByLetter 1 22 [.ref si, .int (iI x), .int y] [(si, .inr (3, [.ref li, .ref wi, .ref gi, .int (iI lr), .int (iI er), .int (iI pl), .int (iI lk), .int (iI cp)])), (wi, .inr (2, [.ref vi, .int (iI nw)])), (vi, .inl (cy 0, 16, .inl Fw))] (fun (r : Int32) (u : Unit) => r = iI (x - lastF nw.toNat Fw y)) (fun u : Unit => [(si, .inr (3, [.ref li, .ref wi, .ref gi, .int (iI lr), .int (iI er), .int (iI pl), .int (iI lk), .int (iI cp)])), (wi, .inr (2, [.ref vi, .int (iI nw)])), (vi, .inl (cy 0, 16, .inl Fw))]) := by
  refine Ci_of (cc := cX3_skipByLetter) (maxL := 3) (ret := (some .int)) (by decide) rfl rfl ?_
  intro p e s m args below meth c A hx hb hr hts hown hlocks hml hP hK hD hT hA ls hl
  have hS : va_S A s.heap s.heap [] := va_S.rf
  have hl : lv_has ls 3 [(0, .ref si), (1, .int (iI x)), (2, .int y)] := hl
  have hiX3 : ∀ w ∈ wsX30, w ∈ wsX3_skipByLetter := by decide +kernel
  refine lv_iload_n hx hb dX3_skipByLetter_0 rfl (lv_at hl 1 rfl) ?_
  refine lv_aload_n hx hb dX3_skipByLetter_1 rfl (lv_at hl 0 rfl) ?_
  refine va_get (D := D) (ci := 3) (v := .ref wi) (C := RX3) (T := TX3) (N := 8) hx hb hts hiX3 hown hK hP 0 rfl rfl 1 (by decide) (hts (.fieldLink RX3 20 "BackwardSearch$State" "word" "LBackwardSearch$Row;") (by decide +kernel)) (fun _ h9 => h9) rfl dX3_skipByLetter_2 ?_
  refine lv_iload_n hx hb dX3_skipByLetter_5 rfl (lv_at hl 2 rfl) ?_
  refine z_cVi (n := 1) (b := wi) (As := [.int y]) (rest := [.int (iI x)]) ⟨hx, hb, hml, hown, hts⟩ (c_X2_lastPlaceWith l D cy wi vi 16 nw Fw y (by omega)) gX3_skipByLetter_X2_lastPlaceWith rfl (by decide +kernel) ⟨Nat.le_of_ble_eq_true rfl, Nat.le_of_ble_eq_true rfl⟩ hK hT hP hD hS hA [1, 2] rfl rfl 1 2 rfl rfl rfl (fun _ => rfl) rfl hl.1 rfl (Nat.le_of_ble_eq_true rfl) dX3_skipByLetter_6 ⟨Nat.zero_le _, Nat.zero_le _⟩ (fun r_1 u_1 H locs hw_1 hP hD hS => ?_)
  have hw_1 : r_1 = iI (lastF nw.toNat Fw y) := hw_1
  have hP : va_P D vwCl [(si, .inr (3, [.ref li, .ref wi, .ref gi, .int (iI lr), .int (iI er), .int (iI pl), .int (iI lk), .int (iI cp)])), (wi, .inr (2, [.ref vi, .int (iI nw)])), (vi, .inl (cy 0, 16, .inl Fw))] H := hP
  have hD : va_D A [(si, .inr (3, [.ref li, .ref wi, .ref gi, .int (iI lr), .int (iI er), .int (iI pl), .int (iI lk), .int (iI cp)])), (wi, .inr (2, [.ref vi, .int (iI nw)])), (vi, .inl (cy 0, 16, .inl Fw))] := hD
  obtain rfl := hw_1
  refine z_sub hx hb dX3_skipByLetter_9 ?_
  exact z_iret hx hb hr hlocks hS () (show (iI (x - (lastF nw.toNat Fw y))) = iI (x - lastF nw.toNat Fw y) from rfl) hP dX3_skipByLetter_10
set_option maxHeartbeats 4000000 in
set_option maxRecDepth 100000 in
theorem c_X0_skipAt (l : Launch) (D : va_G) (cy : Nat → ClassId) (n0 : Nat) (b0 : Nat) (k0 : Nat) (en : Int) (Kf : Nat → Int) (x : Int) (hx1 : 0 ≤ x ∧ x < en ∧ en ≤ 16) : Ci l D cy yX0_skipAt wsX0_skipAt 0 0 [.ref n0, .int (iI x)] [(n0, .inr (0, [.ref b0, .ref k0, .int (iI en)])), (k0, .inl (cy 0, 17, .inl (zI Kf)))] (fun (r : Int32) (u : Unit) => r = iI (Kf (x + 1).toNat)) (fun u : Unit => [(n0, .inr (0, [.ref b0, .ref k0, .int (iI en)])), (k0, .inl (cy 0, 17, .inl (zI Kf)))]) := by
  refine Ci_of (cc := cX0_skipAt) (maxL := 2) (ret := (some .int)) (by decide) rfl rfl ?_
  intro p e s m args below meth c A hx hb hr hts hown hlocks hml hP hK hD hT hA ls hl
  have hS : va_S A s.heap s.heap [] := va_S.rf
  have hl : lv_has ls 2 [(0, .ref n0), (1, .int (iI x))] := hl
  have hiX0 : ∀ w ∈ wsX00, w ∈ wsX0_skipAt := by decide +kernel
  refine lv_iload_n hx hb dX0_skipAt_0 rfl (lv_at hl 1 rfl) ?_
  refine z_if_lt (tgt := 23) hx hb (iI_t (by omega) (by omega)) dX0_skipAt_1 (by decide) (fun c1 => absurd c1 (by omega)) (fun c1 => ?_)
  refine lv_iload_n hx hb dX0_skipAt_4 rfl (lv_at hl 1 rfl) ?_
  refine lv_aload_n hx hb dX0_skipAt_5 rfl (lv_at hl 0 rfl) ?_
  refine va_get (D := D) (ci := 0) (v := .int (iI en)) (C := RX0) (T := TX0) (N := 3) hx hb hts hiX0 hown hK hP 0 rfl rfl 2 (by decide) (hts (.fieldLink RX0 30 "BackwardSearch$Ends" "length" "I") (by decide +kernel)) (fun _ h9 => h9) rfl dX0_skipAt_6 ?_
  refine z_icmp_ge (tgt := 23) hx hb (iI_t (by omega) (by omega)) (iI_t (by omega) (by omega)) dX0_skipAt_9 (by decide) (fun c2 => absurd c2 (by omega)) (fun c2 => ?_)
  refine lv_aload_n hx hb dX0_skipAt_12 rfl (lv_at hl 0 rfl) ?_
  refine va_get (D := D) (ci := 0) (v := .ref k0) (C := RX0) (T := TX0) (N := 3) hx hb hts hiX0 hown hK hP 0 rfl rfl 1 (by decide) (hts (.fieldLink RX0 15 "BackwardSearch$Ends" "skipOf" "[I") (by decide +kernel)) (fun _ h9 => h9) rfl dX0_skipAt_13 ?_
  refine lv_iload_n hx hb dX0_skipAt_16 rfl (lv_at hl 1 rfl) ?_
  refine lv_iconst (v := iI 1) hx hb dX0_skipAt_17 rfl ?_
  refine z_add hx hb dX0_skipAt_18 ?_
  refine z_iald hx hb hK hP 1 rfl (by omega) (by omega) (by omega) dX0_skipAt_19 ?_
  refine lv_goto (tgt := 24) hx hb dX0_skipAt_20 (by decide) ?_
  exact z_iret hx hb hr hlocks hS () (show (iI (Kf (x + 1).toNat)) = iI (Kf (x + 1).toNat) from rfl) hP dX0_skipAt_24
set_option maxHeartbeats 4000000 in
set_option maxRecDepth 100000 in
theorem c_X0_wordPeriod (l : Launch) (D : va_G) (cy : Nat → ClassId) (n0 : Nat) (b0 : Nat) (k0 : Nat) (en : Int) (B : Nat → Int) (hb : 0 ≤ en ∧ en ≤ 16) : Ci l D cy yX0_wordPeriod wsX0_wordPeriod 0 0 [.ref n0] [(n0, .inr (0, [.ref b0, .ref k0, .int (iI en)])), (b0, .inl (cy 0, 17, .inl (zI B)))] (fun (r : Int32) (u : Unit) => r = iI (if en = 0 then 0 else B 0)) (fun u : Unit => [(n0, .inr (0, [.ref b0, .ref k0, .int (iI en)])), (b0, .inl (cy 0, 17, .inl (zI B)))]) := by
  refine Ci_of (cc := cX0_wordPeriod) (maxL := 1) (ret := (some .int)) (by decide) rfl rfl ?_
  intro p e s m args below meth c A hx hb hr hts hown hlocks hml hP hK hD hT hA ls hl
  have hS : va_S A s.heap s.heap [] := va_S.rf
  have hl : lv_has ls 1 [(0, .ref n0)] := hl
  have hiX0 : ∀ w ∈ wsX00, w ∈ wsX0_wordPeriod := by decide +kernel
  refine lv_aload_n hx hb dX0_wordPeriod_0 rfl (lv_at hl 0 rfl) ?_
  refine va_get (D := D) (ci := 0) (v := .int (iI en)) (C := RX0) (T := TX0) (N := 3) hx hb hts hiX0 hown hK hP 0 rfl rfl 2 (by decide) (hts (.fieldLink RX0 30 "BackwardSearch$Ends" "length" "I") (by decide +kernel)) (fun _ h9 => h9) rfl dX0_wordPeriod_1 ?_
  refine z_if_ne (tgt := 11) hx hb (iI_t (by omega) (by omega)) dX0_wordPeriod_4 (by decide) (fun c1 => ?_) (fun c1 => ?_)
  · --
    refine lv_aload_n hx hb dX0_wordPeriod_11 rfl (lv_at hl 0 rfl) ?_
    refine va_get (D := D) (ci := 0) (v := .ref b0) (C := RX0) (T := TX0) (N := 3) hx hb hts hiX0 hown hK hP 0 rfl rfl 0 (by decide) (hts (.fieldLink RX0 9 "BackwardSearch$Ends" "borderOf" "[I") (by decide +kernel)) (fun _ h9 => h9) rfl dX0_wordPeriod_12 ?_
    refine lv_iconst (v := iI 0) hx hb dX0_wordPeriod_15 rfl ?_
    refine z_iald hx hb hK hP 1 rfl (by omega) (by omega) (by omega) dX0_wordPeriod_16 ?_
    exact z_iret hx hb hr hlocks hS () (show (iI (B (0 : Int).toNat)) = iI (if en = 0 then 0 else B 0) from (by first | rw [if_pos (by assumption)] | (rw [if_neg (by assumption)]; rfl))) hP dX0_wordPeriod_17
  · --
    refine lv_iconst (v := iI 0) hx hb dX0_wordPeriod_7 rfl ?_
    refine lv_goto (tgt := 17) hx hb dX0_wordPeriod_8 (by decide) ?_
    exact z_iret hx hb hr hlocks hS () (show (iI 0) = iI (if en = 0 then 0 else B 0) from (by first | rw [if_pos (by assumption)] | (rw [if_neg (by assumption)]; rfl))) hP dX0_wordPeriod_17
set_option maxHeartbeats 4000000 in
set_option maxRecDepth 100000 in
theorem c_X3_skipBehind (l : Launch) (D : va_G) (cy : Nat → ClassId) (si : Nat) (li : Nat) (mi : Nat) (wi : Nat) (vi : Nat) (gi : Nat) (nl : Int) (Fl : Nat → Int32) (nw : Int) (Fw : Nat → Int32) (lr : Int) (er : Int) (pl : Int) (lk : Int) (cp : Int) (n0 : Nat) (b0 : Nat) (k0 : Nat) (en : Int) (B : Nat → Int) (Kf : Nat → Int) (d : Int) (hb : 0 ≤ nl ∧ nl ≤ 60 ∧ 0 ≤ nw ∧ nw ≤ 16) (hd : -1 ≤ d ∧ d < nw ∧ en = nw ∧ 0 ≤ pl ∧ pl + nw ≤ nl) (hk : ∀ j : Nat, 0 ≤ Kf j ∧ Kf j ≤ 17) (hr01 : 0 ≤ lr ∧ lr ≤ 1 ∧ 0 ≤ er ∧ er ≤ 1) : Ci l D cy yX3_skipBehind wsX3_skipBehind 2 44 [.ref si, .int (iI d), .ref n0] [(si, .inr (3, [.ref li, .ref wi, .ref gi, .int (iI lr), .int (iI er), .int (iI pl), .int (iI lk), .int (iI cp)])), (li, .inr (2, [.ref mi, .int (iI nl)])), (mi, .inl (cy 0, 60, .inl Fl)), (wi, .inr (2, [.ref vi, .int (iI nw)])), (vi, .inl (cy 0, 16, .inl Fw)), (n0, .inr (0, [.ref b0, .ref k0, .int (iI en)])), (b0, .inl (cy 0, 17, .inl (zI B))), (k0, .inl (cy 0, 17, .inl (zI Kf)))] (fun (r : Int32) (u : Unit) => r = iI (skX (B 0) Kf lr er nw.toNat Fw Fl pl d)) (fun u : Unit => [(si, .inr (3, [.ref li, .ref wi, .ref gi, .int (iI lr), .int (iI er), .int (iI pl), .int (iI lk), .int (iI cp)])), (li, .inr (2, [.ref mi, .int (iI nl)])), (mi, .inl (cy 0, 60, .inl Fl)), (wi, .inr (2, [.ref vi, .int (iI nw)])), (vi, .inl (cy 0, 16, .inl Fw)), (n0, .inr (0, [.ref b0, .ref k0, .int (iI en)])), (b0, .inl (cy 0, 17, .inl (zI B))), (k0, .inl (cy 0, 17, .inl (zI Kf)))]) := by
  refine Ci_of (cc := cX3_skipBehind) (maxL := 4) (ret := (some .int)) (by decide) rfl rfl ?_
  intro p e s m args below meth c A hx hb hr hts hown hlocks hml hP hK hD hT hA ls hl
  have hS : va_S A s.heap s.heap [] := va_S.rf
  have hl : lv_has ls 4 [(0, .ref si), (1, .int (iI d)), (2, .ref n0)] := hl
  have hiX3 : ∀ w ∈ wsX30, w ∈ wsX3_skipBehind := by decide +kernel
  refine lv_iload_n hx hb dX3_skipBehind_0 rfl (lv_at hl 1 rfl) ?_
  refine lv_iconst (v := iI (-1)) hx hb dX3_skipBehind_1 rfl ?_
  refine z_icmp_ne (tgt := 10) hx hb (iI_t (by omega) (by omega)) (iI_t (by omega) (by omega)) dX3_skipBehind_2 (by decide) (fun c1 => ?_) (fun c1 => ?_)
  · --
    refine lv_iconst (v := iI 1) hx hb dX3_skipBehind_10 rfl ?_
    refine lv_istore_n (lv' := [(3, .int (iI 1)), (0, .ref si), (1, .int (iI d)), (2, .ref n0)]) hx hb dX3_skipBehind_11 rfl hl (by decide) rfl (fun ls hl => ?_)
    refine lv_aload_n hx hb dX3_skipBehind_12 rfl (lv_at hl 1 rfl) ?_
    refine va_get (D := D) (ci := 3) (v := .int (iI lr)) (C := RX3) (T := TX3) (N := 8) hx hb hts hiX3 hown hK hP 0 rfl rfl 3 (by decide) (hts (.fieldLink RX3 26 "BackwardSearch$State" "letterRule" "Z") (by decide +kernel)) (fun _ h9 => h9) rfl dX3_skipBehind_13 ?_
    refine z_if_eq (tgt := 42) hx hb (iI_t (by omega) (by omega)) dX3_skipBehind_16 (by decide) (fun c2 => ?_) (fun c2 => ?_)
    · --
      refine lv_aload_n hx hb dX3_skipBehind_42 rfl (lv_at hl 1 rfl) ?_
      refine va_get (D := D) (ci := 3) (v := .int (iI er)) (C := RX3) (T := TX3) (N := 8) hx hb hts hiX3 hown hK hP 0 rfl rfl 4 (by decide) (hts (.fieldLink RX3 30 "BackwardSearch$State" "endRule" "Z") (by decide +kernel)) (fun _ h9 => h9) rfl dX3_skipBehind_43 ?_
      refine z_if_eq (tgt := 59) hx hb (iI_t (by omega) (by omega)) dX3_skipBehind_46 (by decide) (fun c3 => ?_) (fun c3 => ?_)
      · --
        refine lv_iload_n hx hb dX3_skipBehind_59 rfl (lv_at hl 0 rfl) ?_
        exact z_iret hx hb hr hlocks hS () (show (iI 1) = iI (skX (B 0) Kf lr er nw.toNat Fw Fl pl d) from (congrArg iI (by simp only [skX]; omega))) hP dX3_skipBehind_60
      · --
        refine lv_iload_n hx hb dX3_skipBehind_49 rfl (lv_at hl 0 rfl) ?_
        refine lv_aload_n hx hb dX3_skipBehind_50 rfl (lv_at hl 3 rfl) ?_
        refine lv_iload_n hx hb dX3_skipBehind_51 rfl (lv_at hl 2 rfl) ?_
        refine z_cVi (n := 1) (b := n0) (As := [.int (iI d)]) (rest := [.int (iI 1)]) ⟨hx, hb, hml, hown, hts⟩ (c_X0_skipAt l D cy n0 b0 k0 en Kf d (by omega)) gX3_skipBehind_X0_skipAt rfl (by decide +kernel) ⟨Nat.le_of_ble_eq_true rfl, Nat.le_of_ble_eq_true rfl⟩ hK hT hP hD hS hA [5, 7] rfl rfl 5 0 rfl rfl rfl (fun _ => rfl) rfl hl.1 rfl (Nat.le_of_ble_eq_true rfl) dX3_skipBehind_52 ⟨Nat.zero_le _, Nat.zero_le _⟩ (fun r_4 u_4 H locs hw_4 hP hD hS => ?_)
        have hw_4 : r_4 = iI (Kf (d + 1).toNat) := hw_4
        have hP : va_P D vwCl [(si, .inr (3, [.ref li, .ref wi, .ref gi, .int (iI lr), .int (iI er), .int (iI pl), .int (iI lk), .int (iI cp)])), (li, .inr (2, [.ref mi, .int (iI nl)])), (mi, .inl (cy 0, 60, .inl Fl)), (wi, .inr (2, [.ref vi, .int (iI nw)])), (vi, .inl (cy 0, 16, .inl Fw)), (n0, .inr (0, [.ref b0, .ref k0, .int (iI en)])), (b0, .inl (cy 0, 17, .inl (zI B))), (k0, .inl (cy 0, 17, .inl (zI Kf)))] H := hP
        have hD : va_D A [(si, .inr (3, [.ref li, .ref wi, .ref gi, .int (iI lr), .int (iI er), .int (iI pl), .int (iI lk), .int (iI cp)])), (li, .inr (2, [.ref mi, .int (iI nl)])), (mi, .inl (cy 0, 60, .inl Fl)), (wi, .inr (2, [.ref vi, .int (iI nw)])), (vi, .inl (cy 0, 16, .inl Fw)), (n0, .inr (0, [.ref b0, .ref k0, .int (iI en)])), (b0, .inl (cy 0, 17, .inl (zI B))), (k0, .inl (cy 0, 17, .inl (zI Kf)))] := hD
        obtain rfl := hw_4
        have hk1 := hk (d + 1).toNat
        refine z_mmax (hml := hml.trans hl.1.symm) hx hb hown (hts (.methodLink RX3 54 Lib.Math.max.name) (by decide +kernel)) (hts (.static Lib.Math.max.name) (by decide +kernel)) (hts (.initialized "java/lang/Math") (by decide +kernel)) (hts (.code Lib.Math.max.name Lib.Math.max.code 2 (some .int)) (by decide +kernel)) (Nat.le_of_ble_eq_true rfl) (Nat.le_of_ble_eq_true rfl) (Nat.zero_le _) (Nat.zero_le _) (by omega) (by omega) (by omega) (by omega) dX3_skipBehind_55 (fun z_5 e_5 => ?_)
        refine lv_istore_n (lv' := [(3, .int (iI z_5)), (0, .ref si), (1, .int (iI d)), (2, .ref n0)]) hx hb dX3_skipBehind_58 rfl hl (by decide) rfl (fun ls hl => ?_)
        refine lv_iload_n hx hb dX3_skipBehind_59 rfl (lv_at hl 0 rfl) ?_
        exact z_iret hx hb hr hlocks hS () (show (iI z_5) = iI (skX (B 0) Kf lr er nw.toNat Fw Fl pl d) from (congrArg iI (by simp only [skX]; omega))) hP dX3_skipBehind_60
    · --
      refine lv_iload_n hx hb dX3_skipBehind_19 rfl (lv_at hl 0 rfl) ?_
      refine lv_aload_n hx hb dX3_skipBehind_20 rfl (lv_at hl 1 rfl) ?_
      refine lv_iload_n hx hb dX3_skipBehind_21 rfl (lv_at hl 2 rfl) ?_
      refine lv_aload_n hx hb dX3_skipBehind_22 rfl (lv_at hl 1 rfl) ?_
      refine va_get (D := D) (ci := 3) (v := .ref li) (C := RX3) (T := TX3) (N := 8) hx hb hts hiX3 hown hK hP 0 rfl rfl 0 (by decide) (hts (.fieldLink RX3 14 "BackwardSearch$State" "line" "LBackwardSearch$Row;") (by decide +kernel)) (fun _ h9 => h9) rfl dX3_skipBehind_23 ?_
      refine lv_aload_n hx hb dX3_skipBehind_26 rfl (lv_at hl 1 rfl) ?_
      refine va_get (D := D) (ci := 3) (v := .int (iI pl)) (C := RX3) (T := TX3) (N := 8) hx hb hts hiX3 hown hK hP 0 rfl rfl 5 (by decide) (hts (.fieldLink RX3 37 "BackwardSearch$State" "place" "I") (by decide +kernel)) (fun _ h9 => h9) rfl dX3_skipBehind_27 ?_
      refine lv_iload_n hx hb dX3_skipBehind_30 rfl (lv_at hl 2 rfl) ?_
      refine z_add hx hb dX3_skipBehind_31 ?_
      refine z_cVi (n := 1) (b := li) (As := [.int (iI (pl + d))]) (rest := [.int (iI d), .ref si, .int (iI 1)]) ⟨hx, hb, hml, hown, hts⟩ (c_X2_at l D cy li mi 60 nl Fl (pl + d) (by omega) (by omega)) gX3_skipBehind_X2_at rfl (by decide +kernel) ⟨Nat.le_of_ble_eq_true rfl, Nat.le_of_ble_eq_true rfl⟩ hK hT hP hD hS hA [1, 2] rfl rfl 1 2 rfl rfl rfl (fun _ => rfl) rfl hl.1 rfl (Nat.le_of_ble_eq_true rfl) dX3_skipBehind_32 ⟨Nat.zero_le _, Nat.zero_le _⟩ (fun r_6 u_6 H locs hw_6 hP hD hS => ?_)
      have hw_6 : (0 ≤ (pl + d) ∧ (pl + d) < nl ∧ r_6 = Fl (pl + d).toNat) ∨ (¬ (0 ≤ (pl + d) ∧ (pl + d) < nl) ∧ r_6 = iI (-1)) := hw_6
      have hP : va_P D vwCl [(si, .inr (3, [.ref li, .ref wi, .ref gi, .int (iI lr), .int (iI er), .int (iI pl), .int (iI lk), .int (iI cp)])), (li, .inr (2, [.ref mi, .int (iI nl)])), (mi, .inl (cy 0, 60, .inl Fl)), (wi, .inr (2, [.ref vi, .int (iI nw)])), (vi, .inl (cy 0, 16, .inl Fw)), (n0, .inr (0, [.ref b0, .ref k0, .int (iI en)])), (b0, .inl (cy 0, 17, .inl (zI B))), (k0, .inl (cy 0, 17, .inl (zI Kf)))] H := hP
      have hD : va_D A [(si, .inr (3, [.ref li, .ref wi, .ref gi, .int (iI lr), .int (iI er), .int (iI pl), .int (iI lk), .int (iI cp)])), (li, .inr (2, [.ref mi, .int (iI nl)])), (mi, .inl (cy 0, 60, .inl Fl)), (wi, .inr (2, [.ref vi, .int (iI nw)])), (vi, .inl (cy 0, 16, .inl Fw)), (n0, .inr (0, [.ref b0, .ref k0, .int (iI en)])), (b0, .inl (cy 0, 17, .inl (zI B))), (k0, .inl (cy 0, 17, .inl (zI Kf)))] := hD
      rcases hw_6 with ⟨h_6, g_6, rfl⟩ | ⟨h_6, rfl⟩
      · --
        refine z_cVi (n := 2) (b := si) (As := [.int (iI d), .int (Fl (pl + d).toNat)]) (rest := [.int (iI 1)]) ⟨hx, hb, hml, hown, hts⟩ (c_X3_skipByLetter l D cy si li wi vi gi nw Fw lr er pl lk cp d (Fl (pl + d).toNat) (by omega)) gX3_skipBehind_X3_skipByLetter rfl (by decide +kernel) ⟨Nat.le_of_ble_eq_true rfl, Nat.le_of_ble_eq_true rfl⟩ hK hT hP hD hS hA [0, 3, 4] rfl rfl 0 3 rfl rfl rfl (fun _ => rfl) rfl hl.1 rfl (Nat.le_of_ble_eq_true rfl) dX3_skipBehind_35 ⟨Nat.zero_le _, Nat.zero_le _⟩ (fun r_7 u_7 H locs hw_7 hP hD hS => ?_)
        have hw_7 : r_7 = iI (d - lastF nw.toNat Fw (Fl (pl + d).toNat)) := hw_7
        have hP : va_P D vwCl [(si, .inr (3, [.ref li, .ref wi, .ref gi, .int (iI lr), .int (iI er), .int (iI pl), .int (iI lk), .int (iI cp)])), (li, .inr (2, [.ref mi, .int (iI nl)])), (mi, .inl (cy 0, 60, .inl Fl)), (wi, .inr (2, [.ref vi, .int (iI nw)])), (vi, .inl (cy 0, 16, .inl Fw)), (n0, .inr (0, [.ref b0, .ref k0, .int (iI en)])), (b0, .inl (cy 0, 17, .inl (zI B))), (k0, .inl (cy 0, 17, .inl (zI Kf)))] H := hP
        have hD : va_D A [(si, .inr (3, [.ref li, .ref wi, .ref gi, .int (iI lr), .int (iI er), .int (iI pl), .int (iI lk), .int (iI cp)])), (li, .inr (2, [.ref mi, .int (iI nl)])), (mi, .inl (cy 0, 60, .inl Fl)), (wi, .inr (2, [.ref vi, .int (iI nw)])), (vi, .inl (cy 0, 16, .inl Fw)), (n0, .inr (0, [.ref b0, .ref k0, .int (iI en)])), (b0, .inl (cy 0, 17, .inl (zI B))), (k0, .inl (cy 0, 17, .inl (zI Kf)))] := hD
        obtain rfl := hw_7
        have hl1 := lastF_rng nw.toNat Fw (Fl (pl + d).toNat)
        refine z_mmax (hml := hml.trans hl.1.symm) hx hb hown (hts (.methodLink RX3 54 Lib.Math.max.name) (by decide +kernel)) (hts (.static Lib.Math.max.name) (by decide +kernel)) (hts (.initialized "java/lang/Math") (by decide +kernel)) (hts (.code Lib.Math.max.name Lib.Math.max.code 2 (some .int)) (by decide +kernel)) (Nat.le_of_ble_eq_true rfl) (Nat.le_of_ble_eq_true rfl) (Nat.zero_le _) (Nat.zero_le _) (by omega) (by omega) (by omega) (by omega) dX3_skipBehind_38 (fun z_8 e_8 => ?_)
        refine lv_istore_n (lv' := [(3, .int (iI z_8)), (0, .ref si), (1, .int (iI d)), (2, .ref n0)]) hx hb dX3_skipBehind_41 rfl hl (by decide) rfl (fun ls hl => ?_)
        refine lv_aload_n hx hb dX3_skipBehind_42 rfl (lv_at hl 1 rfl) ?_
        refine va_get (D := D) (ci := 3) (v := .int (iI er)) (C := RX3) (T := TX3) (N := 8) hx hb hts hiX3 hown hK hP 0 rfl rfl 4 (by decide) (hts (.fieldLink RX3 30 "BackwardSearch$State" "endRule" "Z") (by decide +kernel)) (fun _ h9 => h9) rfl dX3_skipBehind_43 ?_
        refine z_if_eq (tgt := 59) hx hb (iI_t (by omega) (by omega)) dX3_skipBehind_46 (by decide) (fun c9 => ?_) (fun c9 => ?_)
        · --
          refine lv_iload_n hx hb dX3_skipBehind_59 rfl (lv_at hl 0 rfl) ?_
          exact z_iret hx hb hr hlocks hS () (show (iI z_8) = iI (skX (B 0) Kf lr er nw.toNat Fw Fl pl d) from (congrArg iI (by simp only [skX]; omega))) hP dX3_skipBehind_60
        · --
          refine lv_iload_n hx hb dX3_skipBehind_49 rfl (lv_at hl 0 rfl) ?_
          refine lv_aload_n hx hb dX3_skipBehind_50 rfl (lv_at hl 3 rfl) ?_
          refine lv_iload_n hx hb dX3_skipBehind_51 rfl (lv_at hl 2 rfl) ?_
          refine z_cVi (n := 1) (b := n0) (As := [.int (iI d)]) (rest := [.int (iI z_8)]) ⟨hx, hb, hml, hown, hts⟩ (c_X0_skipAt l D cy n0 b0 k0 en Kf d (by omega)) gX3_skipBehind_X0_skipAt rfl (by decide +kernel) ⟨Nat.le_of_ble_eq_true rfl, Nat.le_of_ble_eq_true rfl⟩ hK hT hP hD hS hA [5, 7] rfl rfl 5 0 rfl rfl rfl (fun _ => rfl) rfl hl.1 rfl (Nat.le_of_ble_eq_true rfl) dX3_skipBehind_52 ⟨Nat.zero_le _, Nat.zero_le _⟩ (fun r_10 u_10 H locs hw_10 hP hD hS => ?_)
          have hw_10 : r_10 = iI (Kf (d + 1).toNat) := hw_10
          have hP : va_P D vwCl [(si, .inr (3, [.ref li, .ref wi, .ref gi, .int (iI lr), .int (iI er), .int (iI pl), .int (iI lk), .int (iI cp)])), (li, .inr (2, [.ref mi, .int (iI nl)])), (mi, .inl (cy 0, 60, .inl Fl)), (wi, .inr (2, [.ref vi, .int (iI nw)])), (vi, .inl (cy 0, 16, .inl Fw)), (n0, .inr (0, [.ref b0, .ref k0, .int (iI en)])), (b0, .inl (cy 0, 17, .inl (zI B))), (k0, .inl (cy 0, 17, .inl (zI Kf)))] H := hP
          have hD : va_D A [(si, .inr (3, [.ref li, .ref wi, .ref gi, .int (iI lr), .int (iI er), .int (iI pl), .int (iI lk), .int (iI cp)])), (li, .inr (2, [.ref mi, .int (iI nl)])), (mi, .inl (cy 0, 60, .inl Fl)), (wi, .inr (2, [.ref vi, .int (iI nw)])), (vi, .inl (cy 0, 16, .inl Fw)), (n0, .inr (0, [.ref b0, .ref k0, .int (iI en)])), (b0, .inl (cy 0, 17, .inl (zI B))), (k0, .inl (cy 0, 17, .inl (zI Kf)))] := hD
          obtain rfl := hw_10
          have hk1 := hk (d + 1).toNat
          refine z_mmax (hml := hml.trans hl.1.symm) hx hb hown (hts (.methodLink RX3 54 Lib.Math.max.name) (by decide +kernel)) (hts (.static Lib.Math.max.name) (by decide +kernel)) (hts (.initialized "java/lang/Math") (by decide +kernel)) (hts (.code Lib.Math.max.name Lib.Math.max.code 2 (some .int)) (by decide +kernel)) (Nat.le_of_ble_eq_true rfl) (Nat.le_of_ble_eq_true rfl) (Nat.zero_le _) (Nat.zero_le _) (by omega) (by omega) (by omega) (by omega) dX3_skipBehind_55 (fun z_11 e_11 => ?_)
          refine lv_istore_n (lv' := [(3, .int (iI z_11)), (0, .ref si), (1, .int (iI d)), (2, .ref n0)]) hx hb dX3_skipBehind_58 rfl hl (by decide) rfl (fun ls hl => ?_)
          refine lv_iload_n hx hb dX3_skipBehind_59 rfl (lv_at hl 0 rfl) ?_
          exact z_iret hx hb hr hlocks hS () (show (iI z_11) = iI (skX (B 0) Kf lr er nw.toNat Fw Fl pl d) from (congrArg iI (by simp only [skX]; omega))) hP dX3_skipBehind_60
      · --
        exfalso; omega
  · --
    refine lv_aload_n hx hb dX3_skipBehind_5 rfl (lv_at hl 2 rfl) ?_
    refine z_cVi (n := 0) (b := n0) (As := []) (rest := []) ⟨hx, hb, hml, hown, hts⟩ (c_X0_wordPeriod l D cy n0 b0 k0 en B (by omega)) gX3_skipBehind_X0_wordPeriod rfl (by decide +kernel) ⟨Nat.le_of_ble_eq_true rfl, Nat.le_of_ble_eq_true rfl⟩ hK hT hP hD hS hA [5, 6] rfl rfl 5 0 rfl rfl rfl (fun _ => rfl) rfl hl.1 rfl (Nat.le_of_ble_eq_true rfl) dX3_skipBehind_6 ⟨Nat.zero_le _, Nat.zero_le _⟩ (fun r_12 u_12 H locs hw_12 hP hD hS => ?_)
    have hw_12 : r_12 = iI (if en = 0 then 0 else B 0) := hw_12
    have hP : va_P D vwCl [(si, .inr (3, [.ref li, .ref wi, .ref gi, .int (iI lr), .int (iI er), .int (iI pl), .int (iI lk), .int (iI cp)])), (li, .inr (2, [.ref mi, .int (iI nl)])), (mi, .inl (cy 0, 60, .inl Fl)), (wi, .inr (2, [.ref vi, .int (iI nw)])), (vi, .inl (cy 0, 16, .inl Fw)), (n0, .inr (0, [.ref b0, .ref k0, .int (iI en)])), (b0, .inl (cy 0, 17, .inl (zI B))), (k0, .inl (cy 0, 17, .inl (zI Kf)))] H := hP
    have hD : va_D A [(si, .inr (3, [.ref li, .ref wi, .ref gi, .int (iI lr), .int (iI er), .int (iI pl), .int (iI lk), .int (iI cp)])), (li, .inr (2, [.ref mi, .int (iI nl)])), (mi, .inl (cy 0, 60, .inl Fl)), (wi, .inr (2, [.ref vi, .int (iI nw)])), (vi, .inl (cy 0, 16, .inl Fw)), (n0, .inr (0, [.ref b0, .ref k0, .int (iI en)])), (b0, .inl (cy 0, 17, .inl (zI B))), (k0, .inl (cy 0, 17, .inl (zI Kf)))] := hD
    obtain rfl := hw_12
    exact z_iret hx hb hr hlocks hS () (show (iI (if en = 0 then 0 else B 0)) = iI (skX (B 0) Kf lr er nw.toNat Fw Fl pl d) from (congrArg iI (by simp only [skX]; omega))) hP dX3_skipBehind_9
set_option maxHeartbeats 4000000 in
set_option maxRecDepth 100000 in
theorem c_X3_lookOnce (l : Launch) (D : va_G) (cy : Nat → ClassId) (si : Nat) (li : Nat) (mi : Nat) (wi : Nat) (vi : Nat) (gi : Nat) (ei : Nat) (nl : Int) (Fl : Nat → Int32) (nw : Int) (Fw : Nat → Int32) (nf : Int) (Ff : Nat → Int32) (lr : Int) (er : Int) (pl : Int) (lk : Int) (cp : Int) (n0 : Nat) (b0 : Nat) (k0 : Nat) (en : Int) (B : Nat → Int) (Kf : Nat → Int) (hb : 0 ≤ nl ∧ nl ≤ 60 ∧ 0 ≤ nw ∧ nw ≤ 16 ∧ 0 ≤ nf ∧ nf ≤ pl ∧ pl ≤ 100 ∧ nf ≤ 60 ∧ 0 ≤ lk ∧ lk ≤ pl ∧ 0 ≤ cp ∧ cp ≤ 16 * lk ∧ 0 ≤ lr ∧ lr ≤ 1 ∧ 0 ≤ er ∧ er ≤ 1) (hd : 0 < nw ∧ en = nw ∧ pl + nw ≤ nl) (hk : ∀ j : Nat, 0 ≤ Kf j ∧ Kf j ≤ 17) (hB : 0 ≤ B 0 ∧ B 0 ≤ 17) : Ci l D cy yX3_lookOnce wsX3_lookOnce 3 67 [.ref si, .ref n0] [(si, .inr (3, [.ref li, .ref wi, .ref gi, .int (iI lr), .int (iI er), .int (iI pl), .int (iI lk), .int (iI cp)])), (li, .inr (2, [.ref mi, .int (iI nl)])), (mi, .inl (cy 0, 60, .inl Fl)), (wi, .inr (2, [.ref vi, .int (iI nw)])), (vi, .inl (cy 0, 16, .inl Fw)), (gi, .inr (2, [.ref ei, .int (iI nf)])), (ei, .inl (cy 0, 60, .inl Ff)), (n0, .inr (0, [.ref b0, .ref k0, .int (iI en)])), (b0, .inl (cy 0, 17, .inl (zI B))), (k0, .inl (cy 0, 17, .inl (zI Kf)))] (fun (r : Int32) (u : Int × Int × (Nat → Int32)) => r = iI (skX (B 0) Kf lr er nw.toNat Fw Fl pl (diffF nw.toNat Fw Fl pl)) ∧ u.1 = cp + (nw - max (diffF nw.toNat Fw Fl pl) 0) ∧ (((diffF nw.toNat Fw Fl pl) = -1 ∧ u.2.1 = nf + 1 ∧ u.2.2 = upd Ff nf.toNat (iI pl)) ∨ (¬ (diffF nw.toNat Fw Fl pl) = -1 ∧ u.2.1 = nf ∧ u.2.2 = Ff))) (fun u : Int × Int × (Nat → Int32) => [(si, .inr (3, [.ref li, .ref wi, .ref gi, .int (iI lr), .int (iI er), .int (iI (pl + (skX (B 0) Kf lr er nw.toNat Fw Fl pl (diffF nw.toNat Fw Fl pl)))), .int (iI (lk + 1)), .int (iI u.1)])), (li, .inr (2, [.ref mi, .int (iI nl)])), (mi, .inl (cy 0, 60, .inl Fl)), (wi, .inr (2, [.ref vi, .int (iI nw)])), (vi, .inl (cy 0, 16, .inl Fw)), (gi, .inr (2, [.ref ei, .int (iI u.2.1)])), (ei, .inl (cy 0, 60, .inl u.2.2)), (n0, .inr (0, [.ref b0, .ref k0, .int (iI en)])), (b0, .inl (cy 0, 17, .inl (zI B))), (k0, .inl (cy 0, 17, .inl (zI Kf)))]) := by
  refine Ci_of (cc := cX3_lookOnce) (maxL := 4) (ret := (some .int)) (by decide) rfl rfl ?_
  intro p e s m args below meth c A hx hb hr hts hown hlocks hml hP hK hD hT hA ls hl
  have hS : va_S A s.heap s.heap [] := va_S.rf
  have hl : lv_has ls 4 [(0, .ref si), (1, .ref n0)] := hl
  have hiX3 : ∀ w ∈ wsX30, w ∈ wsX3_lookOnce := by decide +kernel
  refine lv_aload_n hx hb dX3_lookOnce_0 rfl (lv_at hl 0 rfl) ?_
  refine lv_aload_n hx hb dX3_lookOnce_1 rfl (lv_at hl 0 rfl) ?_
  refine va_get (D := D) (ci := 3) (v := .int (iI pl)) (C := RX3) (T := TX3) (N := 8) hx hb hts hiX3 hown hK hP 0 rfl rfl 5 (by decide) (hts (.fieldLink RX3 37 "BackwardSearch$State" "place" "I") (by decide +kernel)) (fun _ h9 => h9) rfl dX3_lookOnce_2 ?_
  refine z_cVi (n := 1) (b := si) (As := [.int (iI pl)]) (rest := []) ⟨hx, hb, hml, hown, hts⟩ (c_X3_lastDifferenceAt l D cy si li mi wi vi gi nl Fl nw Fw lr er pl lk cp pl (by omega) (by omega)) gX3_lookOnce_X3_lastDifferenceAt rfl (by decide +kernel) ⟨Nat.le_of_ble_eq_true rfl, Nat.le_of_ble_eq_true rfl⟩ hK hT hP hD hS hA [0, 1, 2, 3, 4] rfl rfl 0 3 rfl rfl rfl (fun _ => rfl) rfl hl.1 rfl (Nat.le_of_ble_eq_true rfl) dX3_lookOnce_5 ⟨Nat.zero_le _, Nat.zero_le _⟩ (fun r_1 u_1 H locs hw_1 hP hD hS => ?_)
  have hw_1 : r_1 = iI (diffF nw.toNat Fw Fl pl) := hw_1
  have hP : va_P D vwCl [(si, .inr (3, [.ref li, .ref wi, .ref gi, .int (iI lr), .int (iI er), .int (iI pl), .int (iI lk), .int (iI cp)])), (li, .inr (2, [.ref mi, .int (iI nl)])), (mi, .inl (cy 0, 60, .inl Fl)), (wi, .inr (2, [.ref vi, .int (iI nw)])), (vi, .inl (cy 0, 16, .inl Fw)), (gi, .inr (2, [.ref ei, .int (iI nf)])), (ei, .inl (cy 0, 60, .inl Ff)), (n0, .inr (0, [.ref b0, .ref k0, .int (iI en)])), (b0, .inl (cy 0, 17, .inl (zI B))), (k0, .inl (cy 0, 17, .inl (zI Kf)))] H := hP
  have hD : va_D A [(si, .inr (3, [.ref li, .ref wi, .ref gi, .int (iI lr), .int (iI er), .int (iI pl), .int (iI lk), .int (iI cp)])), (li, .inr (2, [.ref mi, .int (iI nl)])), (mi, .inl (cy 0, 60, .inl Fl)), (wi, .inr (2, [.ref vi, .int (iI nw)])), (vi, .inl (cy 0, 16, .inl Fw)), (gi, .inr (2, [.ref ei, .int (iI nf)])), (ei, .inl (cy 0, 60, .inl Ff)), (n0, .inr (0, [.ref b0, .ref k0, .int (iI en)])), (b0, .inl (cy 0, 17, .inl (zI B))), (k0, .inl (cy 0, 17, .inl (zI Kf)))] := hD
  obtain rfl := hw_1
  have hdr := diffF_rng nw.toNat Fw Fl pl
  have hsr := skX_rng (lr := lr) (er := er) (m := nw.toNat) (W := Fw) (L := Fl) (pl := pl) (d := diffF nw.toNat Fw Fl pl) hB hk (by omega) (by omega) (by omega)
  refine lv_istore_n (lv' := [(2, .int (iI (diffF nw.toNat Fw Fl pl))), (0, .ref si), (1, .ref n0)]) hx hb dX3_lookOnce_8 rfl hl (by decide) rfl (fun ls hl => ?_)
  refine lv_aload_n hx hb dX3_lookOnce_9 rfl (lv_at hl 1 rfl) ?_
  refine lv_dup hx hb dX3_lookOnce_10 rfl ?_
  refine va_get (D := D) (ci := 3) (v := .int (iI lk)) (C := RX3) (T := TX3) (N := 8) hx hb hts hiX3 hown hK hP 0 rfl rfl 6 (by decide) (hts (.fieldLink RX3 41 "BackwardSearch$State" "looks" "I") (by decide +kernel)) (fun _ h9 => h9) rfl dX3_lookOnce_11 ?_
  refine lv_iconst (v := iI 1) hx hb dX3_lookOnce_14 rfl ?_
  refine z_add hx hb dX3_lookOnce_15 ?_
  refine va_put (D := D) (ci := 3) (v := .int (iI (lk + 1))) (ty := .int) (C := RX3) (T := TX3) (N := 8) hx hb hts hiX3 tyX3 tyX3_ok nmX3 hown hK hP hD hS 0 rfl rfl 6 (by decide) (hts (.fieldLink RX3 41 "BackwardSearch$State" "looks" "I") (by decide +kernel)) (fun _ h9 => h9) rfl (by decide +kernel) rfl rfl (Nat.le_of_ble_eq_true rfl) dX3_lookOnce_16 (fun H locs hP hD hS => ?_)
  have hP : va_P D vwCl [(si, .inr (3, [.ref li, .ref wi, .ref gi, .int (iI lr), .int (iI er), .int (iI pl), .int (iI (lk + 1)), .int (iI cp)])), (li, .inr (2, [.ref mi, .int (iI nl)])), (mi, .inl (cy 0, 60, .inl Fl)), (wi, .inr (2, [.ref vi, .int (iI nw)])), (vi, .inl (cy 0, 16, .inl Fw)), (gi, .inr (2, [.ref ei, .int (iI nf)])), (ei, .inl (cy 0, 60, .inl Ff)), (n0, .inr (0, [.ref b0, .ref k0, .int (iI en)])), (b0, .inl (cy 0, 17, .inl (zI B))), (k0, .inl (cy 0, 17, .inl (zI Kf)))] H := hP
  have hD : va_D A [(si, .inr (3, [.ref li, .ref wi, .ref gi, .int (iI lr), .int (iI er), .int (iI pl), .int (iI (lk + 1)), .int (iI cp)])), (li, .inr (2, [.ref mi, .int (iI nl)])), (mi, .inl (cy 0, 60, .inl Fl)), (wi, .inr (2, [.ref vi, .int (iI nw)])), (vi, .inl (cy 0, 16, .inl Fw)), (gi, .inr (2, [.ref ei, .int (iI nf)])), (ei, .inl (cy 0, 60, .inl Ff)), (n0, .inr (0, [.ref b0, .ref k0, .int (iI en)])), (b0, .inl (cy 0, 17, .inl (zI B))), (k0, .inl (cy 0, 17, .inl (zI Kf)))] := hD
  refine lv_aload_n hx hb dX3_lookOnce_19 rfl (lv_at hl 1 rfl) ?_
  refine lv_dup hx hb dX3_lookOnce_20 rfl ?_
  refine va_get (D := D) (ci := 3) (v := .int (iI cp)) (C := RX3) (T := TX3) (N := 8) hx hb hts hiX3 hown hK hP 0 rfl rfl 7 (by decide) (hts (.fieldLink RX3 44 "BackwardSearch$State" "compared" "I") (by decide +kernel)) (fun _ h9 => h9) rfl dX3_lookOnce_21 ?_
  refine lv_aload_n hx hb dX3_lookOnce_24 rfl (lv_at hl 1 rfl) ?_
  refine va_get (D := D) (ci := 3) (v := .ref wi) (C := RX3) (T := TX3) (N := 8) hx hb hts hiX3 hown hK hP 0 rfl rfl 1 (by decide) (hts (.fieldLink RX3 20 "BackwardSearch$State" "word" "LBackwardSearch$Row;") (by decide +kernel)) (fun _ h9 => h9) rfl dX3_lookOnce_25 ?_
  refine z_cVi (n := 0) (b := wi) (As := []) (rest := [.int (iI cp), .ref si]) ⟨hx, hb, hml, hown, hts⟩ (c_X2_size l D cy wi vi nw ) gX3_lookOnce_X2_size rfl (by decide +kernel) ⟨Nat.le_of_ble_eq_true rfl, Nat.le_of_ble_eq_true rfl⟩ hK hT hP hD hS hA [3] rfl rfl 3 2 rfl rfl rfl (fun _ => rfl) rfl hl.1 rfl (Nat.le_of_ble_eq_true rfl) dX3_lookOnce_28 ⟨Nat.zero_le _, Nat.zero_le _⟩ (fun r_2 u_2 H locs hw_2 hP hD hS => ?_)
  have hw_2 : r_2 = iI nw := hw_2
  have hP : va_P D vwCl [(si, .inr (3, [.ref li, .ref wi, .ref gi, .int (iI lr), .int (iI er), .int (iI pl), .int (iI (lk + 1)), .int (iI cp)])), (li, .inr (2, [.ref mi, .int (iI nl)])), (mi, .inl (cy 0, 60, .inl Fl)), (wi, .inr (2, [.ref vi, .int (iI nw)])), (vi, .inl (cy 0, 16, .inl Fw)), (gi, .inr (2, [.ref ei, .int (iI nf)])), (ei, .inl (cy 0, 60, .inl Ff)), (n0, .inr (0, [.ref b0, .ref k0, .int (iI en)])), (b0, .inl (cy 0, 17, .inl (zI B))), (k0, .inl (cy 0, 17, .inl (zI Kf)))] H := hP
  have hD : va_D A [(si, .inr (3, [.ref li, .ref wi, .ref gi, .int (iI lr), .int (iI er), .int (iI pl), .int (iI (lk + 1)), .int (iI cp)])), (li, .inr (2, [.ref mi, .int (iI nl)])), (mi, .inl (cy 0, 60, .inl Fl)), (wi, .inr (2, [.ref vi, .int (iI nw)])), (vi, .inl (cy 0, 16, .inl Fw)), (gi, .inr (2, [.ref ei, .int (iI nf)])), (ei, .inl (cy 0, 60, .inl Ff)), (n0, .inr (0, [.ref b0, .ref k0, .int (iI en)])), (b0, .inl (cy 0, 17, .inl (zI B))), (k0, .inl (cy 0, 17, .inl (zI Kf)))] := hD
  obtain rfl := hw_2
  refine lv_iload_n hx hb dX3_lookOnce_31 rfl (lv_at hl 0 rfl) ?_
  refine lv_iconst (v := iI 0) hx hb dX3_lookOnce_32 rfl ?_
  refine z_mmax (hml := hml.trans hl.1.symm) hx hb hown (hts (.methodLink RX3 54 Lib.Math.max.name) (by decide +kernel)) (hts (.static Lib.Math.max.name) (by decide +kernel)) (hts (.initialized "java/lang/Math") (by decide +kernel)) (hts (.code Lib.Math.max.name Lib.Math.max.code 2 (some .int)) (by decide +kernel)) (Nat.le_of_ble_eq_true rfl) (Nat.le_of_ble_eq_true rfl) (Nat.zero_le _) (Nat.zero_le _) (by omega) (by omega) (by omega) (by omega) dX3_lookOnce_33 (fun z_3 e_3 => ?_)
  refine z_sub hx hb dX3_lookOnce_36 ?_
  refine z_add hx hb dX3_lookOnce_37 ?_
  refine va_put (D := D) (ci := 3) (v := .int (iI (cp + (nw - z_3)))) (ty := .int) (C := RX3) (T := TX3) (N := 8) hx hb hts hiX3 tyX3 tyX3_ok nmX3 hown hK hP hD hS 0 rfl rfl 7 (by decide) (hts (.fieldLink RX3 44 "BackwardSearch$State" "compared" "I") (by decide +kernel)) (fun _ h9 => h9) rfl (by decide +kernel) rfl rfl (Nat.le_of_ble_eq_true rfl) dX3_lookOnce_38 (fun H locs hP hD hS => ?_)
  have hP : va_P D vwCl [(si, .inr (3, [.ref li, .ref wi, .ref gi, .int (iI lr), .int (iI er), .int (iI pl), .int (iI (lk + 1)), .int (iI (cp + (nw - z_3)))])), (li, .inr (2, [.ref mi, .int (iI nl)])), (mi, .inl (cy 0, 60, .inl Fl)), (wi, .inr (2, [.ref vi, .int (iI nw)])), (vi, .inl (cy 0, 16, .inl Fw)), (gi, .inr (2, [.ref ei, .int (iI nf)])), (ei, .inl (cy 0, 60, .inl Ff)), (n0, .inr (0, [.ref b0, .ref k0, .int (iI en)])), (b0, .inl (cy 0, 17, .inl (zI B))), (k0, .inl (cy 0, 17, .inl (zI Kf)))] H := hP
  have hD : va_D A [(si, .inr (3, [.ref li, .ref wi, .ref gi, .int (iI lr), .int (iI er), .int (iI pl), .int (iI (lk + 1)), .int (iI (cp + (nw - z_3)))])), (li, .inr (2, [.ref mi, .int (iI nl)])), (mi, .inl (cy 0, 60, .inl Fl)), (wi, .inr (2, [.ref vi, .int (iI nw)])), (vi, .inl (cy 0, 16, .inl Fw)), (gi, .inr (2, [.ref ei, .int (iI nf)])), (ei, .inl (cy 0, 60, .inl Ff)), (n0, .inr (0, [.ref b0, .ref k0, .int (iI en)])), (b0, .inl (cy 0, 17, .inl (zI B))), (k0, .inl (cy 0, 17, .inl (zI Kf)))] := hD
  refine lv_aload_n hx hb dX3_lookOnce_41 rfl (lv_at hl 1 rfl) ?_
  refine lv_iload_n hx hb dX3_lookOnce_42 rfl (lv_at hl 0 rfl) ?_
  refine lv_aload_n hx hb dX3_lookOnce_43 rfl (lv_at hl 2 rfl) ?_
  refine z_cVi (n := 2) (b := si) (As := [.int (iI (diffF nw.toNat Fw Fl pl)), .ref n0]) (rest := []) ⟨hx, hb, hml, hown, hts⟩ (c_X3_skipBehind l D cy si li mi wi vi gi nl Fl nw Fw lr er pl (lk + 1) (cp + (nw - z_3)) n0 b0 k0 en B Kf (diffF nw.toNat Fw Fl pl) (by omega) (by omega) (hk) (by omega)) gX3_lookOnce_X3_skipBehind rfl (by decide +kernel) ⟨Nat.le_of_ble_eq_true rfl, Nat.le_of_ble_eq_true rfl⟩ hK hT hP hD hS hA [0, 1, 2, 3, 4, 7, 8, 9] rfl rfl 0 3 rfl rfl rfl (fun _ => rfl) rfl hl.1 rfl (Nat.le_of_ble_eq_true rfl) dX3_lookOnce_44 ⟨Nat.zero_le _, Nat.zero_le _⟩ (fun r_4 u_4 H locs hw_4 hP hD hS => ?_)
  have hw_4 : r_4 = iI (skX (B 0) Kf lr er nw.toNat Fw Fl pl (diffF nw.toNat Fw Fl pl)) := hw_4
  have hP : va_P D vwCl [(si, .inr (3, [.ref li, .ref wi, .ref gi, .int (iI lr), .int (iI er), .int (iI pl), .int (iI (lk + 1)), .int (iI (cp + (nw - z_3)))])), (li, .inr (2, [.ref mi, .int (iI nl)])), (mi, .inl (cy 0, 60, .inl Fl)), (wi, .inr (2, [.ref vi, .int (iI nw)])), (vi, .inl (cy 0, 16, .inl Fw)), (gi, .inr (2, [.ref ei, .int (iI nf)])), (ei, .inl (cy 0, 60, .inl Ff)), (n0, .inr (0, [.ref b0, .ref k0, .int (iI en)])), (b0, .inl (cy 0, 17, .inl (zI B))), (k0, .inl (cy 0, 17, .inl (zI Kf)))] H := hP
  have hD : va_D A [(si, .inr (3, [.ref li, .ref wi, .ref gi, .int (iI lr), .int (iI er), .int (iI pl), .int (iI (lk + 1)), .int (iI (cp + (nw - z_3)))])), (li, .inr (2, [.ref mi, .int (iI nl)])), (mi, .inl (cy 0, 60, .inl Fl)), (wi, .inr (2, [.ref vi, .int (iI nw)])), (vi, .inl (cy 0, 16, .inl Fw)), (gi, .inr (2, [.ref ei, .int (iI nf)])), (ei, .inl (cy 0, 60, .inl Ff)), (n0, .inr (0, [.ref b0, .ref k0, .int (iI en)])), (b0, .inl (cy 0, 17, .inl (zI B))), (k0, .inl (cy 0, 17, .inl (zI Kf)))] := hD
  obtain rfl := hw_4
  refine lv_istore_n (lv' := [(3, .int (iI (skX (B 0) Kf lr er nw.toNat Fw Fl pl (diffF nw.toNat Fw Fl pl)))), (2, .int (iI (diffF nw.toNat Fw Fl pl))), (0, .ref si), (1, .ref n0)]) hx hb dX3_lookOnce_47 rfl hl (by decide) rfl (fun ls hl => ?_)
  refine lv_iload_n hx hb dX3_lookOnce_48 rfl (lv_at hl 1 rfl) ?_
  refine lv_iconst (v := iI (-1)) hx hb dX3_lookOnce_49 rfl ?_
  refine z_icmp_ne (tgt := 64) hx hb (iI_t (by omega) (by omega)) (iI_t (by omega) (by omega)) dX3_lookOnce_50 (by decide) (fun c5 => ?_) (fun c5 => ?_)
  · --
    refine lv_aload_n hx hb dX3_lookOnce_64 rfl (lv_at hl 2 rfl) ?_
    refine lv_dup hx hb dX3_lookOnce_65 rfl ?_
    refine va_get (D := D) (ci := 3) (v := .int (iI pl)) (C := RX3) (T := TX3) (N := 8) hx hb hts hiX3 hown hK hP 0 rfl rfl 5 (by decide) (hts (.fieldLink RX3 37 "BackwardSearch$State" "place" "I") (by decide +kernel)) (fun _ h9 => h9) rfl dX3_lookOnce_66 ?_
    refine lv_iload_n hx hb dX3_lookOnce_69 rfl (lv_at hl 0 rfl) ?_
    refine z_add hx hb dX3_lookOnce_70 ?_
    refine va_put (D := D) (ci := 3) (v := .int (iI (pl + (skX (B 0) Kf lr er nw.toNat Fw Fl pl (diffF nw.toNat Fw Fl pl))))) (ty := .int) (C := RX3) (T := TX3) (N := 8) hx hb hts hiX3 tyX3 tyX3_ok nmX3 hown hK hP hD hS 0 rfl rfl 5 (by decide) (hts (.fieldLink RX3 37 "BackwardSearch$State" "place" "I") (by decide +kernel)) (fun _ h9 => h9) rfl (by decide +kernel) rfl rfl (Nat.le_of_ble_eq_true rfl) dX3_lookOnce_71 (fun H locs hP hD hS => ?_)
    have hP : va_P D vwCl [(si, .inr (3, [.ref li, .ref wi, .ref gi, .int (iI lr), .int (iI er), .int (iI (pl + (skX (B 0) Kf lr er nw.toNat Fw Fl pl (diffF nw.toNat Fw Fl pl)))), .int (iI (lk + 1)), .int (iI (cp + (nw - z_3)))])), (li, .inr (2, [.ref mi, .int (iI nl)])), (mi, .inl (cy 0, 60, .inl Fl)), (wi, .inr (2, [.ref vi, .int (iI nw)])), (vi, .inl (cy 0, 16, .inl Fw)), (gi, .inr (2, [.ref ei, .int (iI nf)])), (ei, .inl (cy 0, 60, .inl Ff)), (n0, .inr (0, [.ref b0, .ref k0, .int (iI en)])), (b0, .inl (cy 0, 17, .inl (zI B))), (k0, .inl (cy 0, 17, .inl (zI Kf)))] H := hP
    have hD : va_D A [(si, .inr (3, [.ref li, .ref wi, .ref gi, .int (iI lr), .int (iI er), .int (iI (pl + (skX (B 0) Kf lr er nw.toNat Fw Fl pl (diffF nw.toNat Fw Fl pl)))), .int (iI (lk + 1)), .int (iI (cp + (nw - z_3)))])), (li, .inr (2, [.ref mi, .int (iI nl)])), (mi, .inl (cy 0, 60, .inl Fl)), (wi, .inr (2, [.ref vi, .int (iI nw)])), (vi, .inl (cy 0, 16, .inl Fw)), (gi, .inr (2, [.ref ei, .int (iI nf)])), (ei, .inl (cy 0, 60, .inl Ff)), (n0, .inr (0, [.ref b0, .ref k0, .int (iI en)])), (b0, .inl (cy 0, 17, .inl (zI B))), (k0, .inl (cy 0, 17, .inl (zI Kf)))] := hD
    refine lv_iload_n hx hb dX3_lookOnce_74 rfl (lv_at hl 0 rfl) ?_
    exact z_iret hx hb hr hlocks hS ((cp + (nw - z_3)), nf, Ff) (show (iI (skX (B 0) Kf lr er nw.toNat Fw Fl pl (diffF nw.toNat Fw Fl pl))) = iI (skX (B 0) Kf lr er nw.toNat Fw Fl pl (diffF nw.toNat Fw Fl pl)) ∧ (cp + (nw - z_3)) = cp + (nw - max (diffF nw.toNat Fw Fl pl) 0) ∧ (((diffF nw.toNat Fw Fl pl) = -1 ∧ nf = nf + 1 ∧ Ff = upd Ff nf.toNat (iI pl)) ∨ (¬ (diffF nw.toNat Fw Fl pl) = -1 ∧ nf = nf ∧ Ff = Ff)) from (by first | exact ⟨rfl, by omega, Or.inl ⟨by omega, rfl, rfl⟩⟩ | exact ⟨rfl, by omega, Or.inr ⟨by omega, rfl, rfl⟩⟩)) hP dX3_lookOnce_75
  · --
    refine lv_aload_n hx hb dX3_lookOnce_53 rfl (lv_at hl 2 rfl) ?_
    refine va_get (D := D) (ci := 3) (v := .ref gi) (C := RX3) (T := TX3) (N := 8) hx hb hts hiX3 hown hK hP 0 rfl rfl 2 (by decide) (hts (.fieldLink RX3 23 "BackwardSearch$State" "found" "LBackwardSearch$Row;") (by decide +kernel)) (fun _ h9 => h9) rfl dX3_lookOnce_54 ?_
    refine lv_aload_n hx hb dX3_lookOnce_57 rfl (lv_at hl 2 rfl) ?_
    refine va_get (D := D) (ci := 3) (v := .int (iI pl)) (C := RX3) (T := TX3) (N := 8) hx hb hts hiX3 hown hK hP 0 rfl rfl 5 (by decide) (hts (.fieldLink RX3 37 "BackwardSearch$State" "place" "I") (by decide +kernel)) (fun _ h9 => h9) rfl dX3_lookOnce_58 ?_
    refine z_cVv (n := 1) (b := gi) (As := [.int (iI pl)]) (rest := []) ⟨hx, hb, hml, hown, hts⟩ (c_X2_add l D cy gi ei 60 nf Ff (iI pl) (by omega)) gX3_lookOnce_X2_add rfl (by decide +kernel) ⟨Nat.le_of_ble_eq_true rfl, Nat.le_of_ble_eq_true rfl⟩ hK hT hP hD hS hA [5, 6] rfl rfl 5 2 rfl rfl rfl (fun _ => rfl) rfl hl.1 rfl (Nat.le_of_ble_eq_true rfl) dX3_lookOnce_61 ⟨Nat.zero_le _, Nat.zero_le _⟩ (fun  u_6 H locs hw_6 hP hD hS => ?_)
    obtain ⟨n1_6, f1_6⟩ := u_6
    have hw_6 : (nf < 60 ∧ n1_6 = nf + 1 ∧ f1_6 = upd Ff nf.toNat (iI pl)) ∨ (¬ nf < 60 ∧ n1_6 = nf ∧ f1_6 = Ff) := hw_6
    have hP : va_P D vwCl [(si, .inr (3, [.ref li, .ref wi, .ref gi, .int (iI lr), .int (iI er), .int (iI pl), .int (iI (lk + 1)), .int (iI (cp + (nw - z_3)))])), (li, .inr (2, [.ref mi, .int (iI nl)])), (mi, .inl (cy 0, 60, .inl Fl)), (wi, .inr (2, [.ref vi, .int (iI nw)])), (vi, .inl (cy 0, 16, .inl Fw)), (gi, .inr (2, [.ref ei, .int (iI n1_6)])), (ei, .inl (cy 0, 60, .inl f1_6)), (n0, .inr (0, [.ref b0, .ref k0, .int (iI en)])), (b0, .inl (cy 0, 17, .inl (zI B))), (k0, .inl (cy 0, 17, .inl (zI Kf)))] H := hP
    have hD : va_D A [(si, .inr (3, [.ref li, .ref wi, .ref gi, .int (iI lr), .int (iI er), .int (iI pl), .int (iI (lk + 1)), .int (iI (cp + (nw - z_3)))])), (li, .inr (2, [.ref mi, .int (iI nl)])), (mi, .inl (cy 0, 60, .inl Fl)), (wi, .inr (2, [.ref vi, .int (iI nw)])), (vi, .inl (cy 0, 16, .inl Fw)), (gi, .inr (2, [.ref ei, .int (iI n1_6)])), (ei, .inl (cy 0, 60, .inl f1_6)), (n0, .inr (0, [.ref b0, .ref k0, .int (iI en)])), (b0, .inl (cy 0, 17, .inl (zI B))), (k0, .inl (cy 0, 17, .inl (zI Kf)))] := hD
    rcases hw_6 with ⟨h_6, rfl, rfl⟩ | ⟨h_6, rfl, rfl⟩
    · --
      refine lv_aload_n hx hb dX3_lookOnce_64 rfl (lv_at hl 2 rfl) ?_
      refine lv_dup hx hb dX3_lookOnce_65 rfl ?_
      refine va_get (D := D) (ci := 3) (v := .int (iI pl)) (C := RX3) (T := TX3) (N := 8) hx hb hts hiX3 hown hK hP 0 rfl rfl 5 (by decide) (hts (.fieldLink RX3 37 "BackwardSearch$State" "place" "I") (by decide +kernel)) (fun _ h9 => h9) rfl dX3_lookOnce_66 ?_
      refine lv_iload_n hx hb dX3_lookOnce_69 rfl (lv_at hl 0 rfl) ?_
      refine z_add hx hb dX3_lookOnce_70 ?_
      refine va_put (D := D) (ci := 3) (v := .int (iI (pl + (skX (B 0) Kf lr er nw.toNat Fw Fl pl (diffF nw.toNat Fw Fl pl))))) (ty := .int) (C := RX3) (T := TX3) (N := 8) hx hb hts hiX3 tyX3 tyX3_ok nmX3 hown hK hP hD hS 0 rfl rfl 5 (by decide) (hts (.fieldLink RX3 37 "BackwardSearch$State" "place" "I") (by decide +kernel)) (fun _ h9 => h9) rfl (by decide +kernel) rfl rfl (Nat.le_of_ble_eq_true rfl) dX3_lookOnce_71 (fun H locs hP hD hS => ?_)
      have hP : va_P D vwCl [(si, .inr (3, [.ref li, .ref wi, .ref gi, .int (iI lr), .int (iI er), .int (iI (pl + (skX (B 0) Kf lr er nw.toNat Fw Fl pl (diffF nw.toNat Fw Fl pl)))), .int (iI (lk + 1)), .int (iI (cp + (nw - z_3)))])), (li, .inr (2, [.ref mi, .int (iI nl)])), (mi, .inl (cy 0, 60, .inl Fl)), (wi, .inr (2, [.ref vi, .int (iI nw)])), (vi, .inl (cy 0, 16, .inl Fw)), (gi, .inr (2, [.ref ei, .int (iI (nf + 1))])), (ei, .inl (cy 0, 60, .inl (upd Ff nf.toNat (iI pl)))), (n0, .inr (0, [.ref b0, .ref k0, .int (iI en)])), (b0, .inl (cy 0, 17, .inl (zI B))), (k0, .inl (cy 0, 17, .inl (zI Kf)))] H := hP
      have hD : va_D A [(si, .inr (3, [.ref li, .ref wi, .ref gi, .int (iI lr), .int (iI er), .int (iI (pl + (skX (B 0) Kf lr er nw.toNat Fw Fl pl (diffF nw.toNat Fw Fl pl)))), .int (iI (lk + 1)), .int (iI (cp + (nw - z_3)))])), (li, .inr (2, [.ref mi, .int (iI nl)])), (mi, .inl (cy 0, 60, .inl Fl)), (wi, .inr (2, [.ref vi, .int (iI nw)])), (vi, .inl (cy 0, 16, .inl Fw)), (gi, .inr (2, [.ref ei, .int (iI (nf + 1))])), (ei, .inl (cy 0, 60, .inl (upd Ff nf.toNat (iI pl)))), (n0, .inr (0, [.ref b0, .ref k0, .int (iI en)])), (b0, .inl (cy 0, 17, .inl (zI B))), (k0, .inl (cy 0, 17, .inl (zI Kf)))] := hD
      refine lv_iload_n hx hb dX3_lookOnce_74 rfl (lv_at hl 0 rfl) ?_
      exact z_iret hx hb hr hlocks hS ((cp + (nw - z_3)), nf + 1, upd Ff nf.toNat (iI pl)) (show (iI (skX (B 0) Kf lr er nw.toNat Fw Fl pl (diffF nw.toNat Fw Fl pl))) = iI (skX (B 0) Kf lr er nw.toNat Fw Fl pl (diffF nw.toNat Fw Fl pl)) ∧ (cp + (nw - z_3)) = cp + (nw - max (diffF nw.toNat Fw Fl pl) 0) ∧ (((diffF nw.toNat Fw Fl pl) = -1 ∧ (nf + 1) = nf + 1 ∧ (upd Ff nf.toNat (iI pl)) = upd Ff nf.toNat (iI pl)) ∨ (¬ (diffF nw.toNat Fw Fl pl) = -1 ∧ (nf + 1) = nf ∧ (upd Ff nf.toNat (iI pl)) = Ff)) from (by first | exact ⟨rfl, by omega, Or.inl ⟨by omega, rfl, rfl⟩⟩ | exact ⟨rfl, by omega, Or.inr ⟨by omega, rfl, rfl⟩⟩)) hP dX3_lookOnce_75
    · --
      exfalso; omega

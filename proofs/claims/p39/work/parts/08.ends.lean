theorem dX3_lookToTheEnd_0 : decode cX3_lookToTheEnd 0 = .ok (.iconst 0, 1) := by decide +kernel
theorem dX3_lookToTheEnd_1 : decode cX3_lookToTheEnd 1 = .ok (.istore_n 2, 1) := by decide +kernel
theorem dX3_lookToTheEnd_2 : decode cX3_lookToTheEnd 2 = .ok (.iload_n 2, 1) := by decide +kernel
theorem dX3_lookToTheEnd_3 : decode cX3_lookToTheEnd 3 = .ok (.bipush 60, 2) := by decide +kernel
theorem dX3_lookToTheEnd_5 : decode cX3_lookToTheEnd 5 = .ok (.if_icmp .ge 22, 3) := by decide +kernel
theorem dX3_lookToTheEnd_8 : decode cX3_lookToTheEnd 8 = .ok (.aload_n 0, 1) := by decide +kernel
theorem dX3_lookToTheEnd_9 : decode cX3_lookToTheEnd 9 = .ok (.invokevirtual 67, 3) := by decide +kernel
theorem dX3_lookToTheEnd_12 : decode cX3_lookToTheEnd 12 = .ok (.ifCond .ne 15, 3) := by decide +kernel
theorem dX3_lookToTheEnd_15 : decode cX3_lookToTheEnd 15 = .ok (.aload_n 0, 1) := by decide +kernel
theorem dX3_lookToTheEnd_16 : decode cX3_lookToTheEnd 16 = .ok (.aload_n 1, 1) := by decide +kernel
theorem dX3_lookToTheEnd_17 : decode cX3_lookToTheEnd 17 = .ok (.invokevirtual 70, 3) := by decide +kernel
theorem dX3_lookToTheEnd_20 : decode cX3_lookToTheEnd 20 = .ok (.pop, 1) := by decide +kernel
theorem dX3_lookToTheEnd_21 : decode cX3_lookToTheEnd 21 = .ok (.iinc 2 1, 3) := by decide +kernel
theorem dX3_lookToTheEnd_24 : decode cX3_lookToTheEnd 24 = .ok (.goto (-22), 3) := by decide +kernel
theorem dX3_lookToTheEnd_27 : decode cX3_lookToTheEnd 27 = .ok (.iload_n 2, 1) := by decide +kernel
theorem dX3_lookToTheEnd_28 : decode cX3_lookToTheEnd 28 = .ok (.ireturn, 1) := by decide +kernel
set_option maxRecDepth 20000 in
theorem ggX3_lookToTheEnd_X3_hasEnded : GoodIn wsX3_lookToTheEnd wsX3_hasEnded := goodIn_r _ [5, 6, 7, 8, 9, 10, 11, 12, 13, 14, 15, 16, 4, 17, 18, 19, 20, 21, 22, 23, 24, 25, 26, 77, 78, 79, 80, 81, 82, 83, 84, 85, 86] (by decide +kernel) (by decide +kernel)
set_option maxRecDepth 20000 in
theorem gX3_lookToTheEnd_X3_hasEnded : GoodIn wsX3_lookToTheEnd (wsV RX3 67 RX3 yX3_hasEnded wsX3_hasEnded) := goodIn_app (goodIn_of _ (by decide +kernel)) ggX3_lookToTheEnd_X3_hasEnded
set_option maxRecDepth 20000 in
theorem ggX3_lookToTheEnd_X3_lookOnce : GoodIn wsX3_lookToTheEnd wsX3_lookOnce := goodIn_r _ [30, 7, 31, 32, 6, 19, 20, 21, 22, 33, 34, 35, 36, 4, 37, 18, 23, 24, 25, 11, 26, 13, 38, 39, 40, 41, 42, 43, 44, 45, 46, 47, 48, 49, 50, 51, 52, 53, 54, 55, 56, 57, 58, 59, 60, 61, 62, 63, 64, 65, 66, 67, 68, 69, 70, 71, 72, 73, 74, 75, 76, 77, 78, 79, 80, 81, 82, 83, 84, 85, 86, 87, 88, 89] (by decide +kernel) (by decide +kernel)
set_option maxRecDepth 20000 in
theorem gX3_lookToTheEnd_X3_lookOnce : GoodIn wsX3_lookToTheEnd (wsV RX3 70 RX3 yX3_lookOnce wsX3_lookOnce) := goodIn_app (goodIn_of _ (by decide +kernel)) ggX3_lookToTheEnd_X3_lookOnce
theorem dX0_borderThatGrows_0 : decode cX0_borderThatGrows 0 = .ok (.iload_n 3, 1) := by decide +kernel
theorem dX0_borderThatGrows_1 : decode cX0_borderThatGrows 1 = .ok (.istore 4, 2) := by decide +kernel
theorem dX0_borderThatGrows_3 : decode cX0_borderThatGrows 3 = .ok (.iconst 0, 1) := by decide +kernel
theorem dX0_borderThatGrows_4 : decode cX0_borderThatGrows 4 = .ok (.istore 5, 2) := by decide +kernel
theorem dX0_borderThatGrows_6 : decode cX0_borderThatGrows 6 = .ok (.iload 5, 2) := by decide +kernel
theorem dX0_borderThatGrows_8 : decode cX0_borderThatGrows 8 = .ok (.aload_n 0, 1) := by decide +kernel
theorem dX0_borderThatGrows_9 : decode cX0_borderThatGrows 9 = .ok (.getfield 30, 3) := by decide +kernel
theorem dX0_borderThatGrows_12 : decode cX0_borderThatGrows 12 = .ok (.if_icmp .gt 74, 3) := by decide +kernel
theorem dX0_borderThatGrows_15 : decode cX0_borderThatGrows 15 = .ok (.iload 4, 2) := by decide +kernel
theorem dX0_borderThatGrows_17 : decode cX0_borderThatGrows 17 = .ok (.ifCond .le 30, 3) := by decide +kernel
theorem dX0_borderThatGrows_20 : decode cX0_borderThatGrows 20 = .ok (.iload 4, 2) := by decide +kernel
theorem dX0_borderThatGrows_22 : decode cX0_borderThatGrows 22 = .ok (.aload_n 0, 1) := by decide +kernel
theorem dX0_borderThatGrows_23 : decode cX0_borderThatGrows 23 = .ok (.getfield 30, 3) := by decide +kernel
theorem dX0_borderThatGrows_26 : decode cX0_borderThatGrows 26 = .ok (.if_icmp .gt 21, 3) := by decide +kernel
theorem dX0_borderThatGrows_29 : decode cX0_borderThatGrows 29 = .ok (.aload_n 1, 1) := by decide +kernel
theorem dX0_borderThatGrows_30 : decode cX0_borderThatGrows 30 = .ok (.iload_n 2, 1) := by decide +kernel
theorem dX0_borderThatGrows_31 : decode cX0_borderThatGrows 31 = .ok (.iconst 1, 1) := by decide +kernel
theorem dX0_borderThatGrows_32 : decode cX0_borderThatGrows 32 = .ok (.isub, 1) := by decide +kernel
theorem dX0_borderThatGrows_33 : decode cX0_borderThatGrows 33 = .ok (.invokevirtual 45, 3) := by decide +kernel
theorem dX0_borderThatGrows_36 : decode cX0_borderThatGrows 36 = .ok (.aload_n 1, 1) := by decide +kernel
theorem dX0_borderThatGrows_37 : decode cX0_borderThatGrows 37 = .ok (.iload 4, 2) := by decide +kernel
theorem dX0_borderThatGrows_39 : decode cX0_borderThatGrows 39 = .ok (.iconst 1, 1) := by decide +kernel
theorem dX0_borderThatGrows_40 : decode cX0_borderThatGrows 40 = .ok (.isub, 1) := by decide +kernel
theorem dX0_borderThatGrows_41 : decode cX0_borderThatGrows 41 = .ok (.invokevirtual 45, 3) := by decide +kernel
theorem dX0_borderThatGrows_44 : decode cX0_borderThatGrows 44 = .ok (.if_icmp .ne 6, 3) := by decide +kernel
theorem dX0_borderThatGrows_47 : decode cX0_borderThatGrows 47 = .ok (.iload 4, 2) := by decide +kernel
theorem dX0_borderThatGrows_49 : decode cX0_borderThatGrows 49 = .ok (.ireturn, 1) := by decide +kernel
theorem dX0_borderThatGrows_50 : decode cX0_borderThatGrows 50 = .ok (.aload_n 0, 1) := by decide +kernel
theorem dX0_borderThatGrows_51 : decode cX0_borderThatGrows 51 = .ok (.getfield 15, 3) := by decide +kernel
theorem dX0_borderThatGrows_54 : decode cX0_borderThatGrows 54 = .ok (.iload 4, 2) := by decide +kernel
theorem dX0_borderThatGrows_56 : decode cX0_borderThatGrows 56 = .ok (.iaload, 1) := by decide +kernel
theorem dX0_borderThatGrows_57 : decode cX0_borderThatGrows 57 = .ok (.ifCond .ne 14, 3) := by decide +kernel
theorem dX0_borderThatGrows_60 : decode cX0_borderThatGrows 60 = .ok (.aload_n 0, 1) := by decide +kernel
theorem dX0_borderThatGrows_61 : decode cX0_borderThatGrows 61 = .ok (.getfield 15, 3) := by decide +kernel
theorem dX0_borderThatGrows_64 : decode cX0_borderThatGrows 64 = .ok (.iload 4, 2) := by decide +kernel
theorem dX0_borderThatGrows_66 : decode cX0_borderThatGrows 66 = .ok (.iload 4, 2) := by decide +kernel
theorem dX0_borderThatGrows_68 : decode cX0_borderThatGrows 68 = .ok (.iload_n 2, 1) := by decide +kernel
theorem dX0_borderThatGrows_69 : decode cX0_borderThatGrows 69 = .ok (.isub, 1) := by decide +kernel
theorem dX0_borderThatGrows_70 : decode cX0_borderThatGrows 70 = .ok (.iastore, 1) := by decide +kernel
theorem dX0_borderThatGrows_71 : decode cX0_borderThatGrows 71 = .ok (.aload_n 0, 1) := by decide +kernel
theorem dX0_borderThatGrows_72 : decode cX0_borderThatGrows 72 = .ok (.getfield 9, 3) := by decide +kernel
theorem dX0_borderThatGrows_75 : decode cX0_borderThatGrows 75 = .ok (.iload 4, 2) := by decide +kernel
theorem dX0_borderThatGrows_77 : decode cX0_borderThatGrows 77 = .ok (.iaload, 1) := by decide +kernel
theorem dX0_borderThatGrows_78 : decode cX0_borderThatGrows 78 = .ok (.istore 4, 2) := by decide +kernel
theorem dX0_borderThatGrows_80 : decode cX0_borderThatGrows 80 = .ok (.iinc 5 1, 3) := by decide +kernel
theorem dX0_borderThatGrows_83 : decode cX0_borderThatGrows 83 = .ok (.goto (-77), 3) := by decide +kernel
theorem dX0_borderThatGrows_86 : decode cX0_borderThatGrows 86 = .ok (.iload 4, 2) := by decide +kernel
theorem dX0_borderThatGrows_88 : decode cX0_borderThatGrows 88 = .ok (.ireturn, 1) := by decide +kernel
set_option maxRecDepth 20000 in
theorem ggX0_borderThatGrows_X2_at : GoodIn wsX0_borderThatGrows wsX2_at := goodIn_r _ [8, 9, 10, 11, 12, 7, 13, 14, 18, 19] (by decide +kernel) (by decide +kernel)
set_option maxRecDepth 20000 in
theorem gX0_borderThatGrows_X2_at : GoodIn wsX0_borderThatGrows (wsV RX0 45 RX2 yX2_at wsX2_at) := goodIn_app (goodIn_of _ (by decide +kernel)) ggX0_borderThatGrows_X2_at
theorem dX0_findBorders_0 : decode cX0_findBorders 0 = .ok (.aload_n 0, 1) := by decide +kernel
theorem dX0_findBorders_1 : decode cX0_findBorders 1 = .ok (.getfield 30, 3) := by decide +kernel
theorem dX0_findBorders_4 : decode cX0_findBorders 4 = .ok (.iconst 1, 1) := by decide +kernel
theorem dX0_findBorders_5 : decode cX0_findBorders 5 = .ok (.iadd, 1) := by decide +kernel
theorem dX0_findBorders_6 : decode cX0_findBorders 6 = .ok (.istore_n 2, 1) := by decide +kernel
theorem dX0_findBorders_7 : decode cX0_findBorders 7 = .ok (.aload_n 0, 1) := by decide +kernel
theorem dX0_findBorders_8 : decode cX0_findBorders 8 = .ok (.getfield 9, 3) := by decide +kernel
theorem dX0_findBorders_11 : decode cX0_findBorders 11 = .ok (.aload_n 0, 1) := by decide +kernel
theorem dX0_findBorders_12 : decode cX0_findBorders 12 = .ok (.getfield 30, 3) := by decide +kernel
theorem dX0_findBorders_15 : decode cX0_findBorders 15 = .ok (.iload_n 2, 1) := by decide +kernel
theorem dX0_findBorders_16 : decode cX0_findBorders 16 = .ok (.iastore, 1) := by decide +kernel
theorem dX0_findBorders_17 : decode cX0_findBorders 17 = .ok (.aload_n 0, 1) := by decide +kernel
theorem dX0_findBorders_18 : decode cX0_findBorders 18 = .ok (.getfield 30, 3) := by decide +kernel
theorem dX0_findBorders_21 : decode cX0_findBorders 21 = .ok (.istore_n 3, 1) := by decide +kernel
theorem dX0_findBorders_22 : decode cX0_findBorders 22 = .ok (.iload_n 3, 1) := by decide +kernel
theorem dX0_findBorders_23 : decode cX0_findBorders 23 = .ok (.ifCond .le 28, 3) := by decide +kernel
theorem dX0_findBorders_26 : decode cX0_findBorders 26 = .ok (.aload_n 0, 1) := by decide +kernel
theorem dX0_findBorders_27 : decode cX0_findBorders 27 = .ok (.aload_n 1, 1) := by decide +kernel
theorem dX0_findBorders_28 : decode cX0_findBorders 28 = .ok (.iload_n 3, 1) := by decide +kernel
theorem dX0_findBorders_29 : decode cX0_findBorders 29 = .ok (.iload_n 2, 1) := by decide +kernel
theorem dX0_findBorders_30 : decode cX0_findBorders 30 = .ok (.invokevirtual 41, 3) := by decide +kernel
theorem dX0_findBorders_33 : decode cX0_findBorders 33 = .ok (.iconst 1, 1) := by decide +kernel
theorem dX0_findBorders_34 : decode cX0_findBorders 34 = .ok (.isub, 1) := by decide +kernel
theorem dX0_findBorders_35 : decode cX0_findBorders 35 = .ok (.istore_n 2, 1) := by decide +kernel
theorem dX0_findBorders_36 : decode cX0_findBorders 36 = .ok (.aload_n 0, 1) := by decide +kernel
theorem dX0_findBorders_37 : decode cX0_findBorders 37 = .ok (.getfield 9, 3) := by decide +kernel
theorem dX0_findBorders_40 : decode cX0_findBorders 40 = .ok (.iload_n 3, 1) := by decide +kernel
theorem dX0_findBorders_41 : decode cX0_findBorders 41 = .ok (.iconst 1, 1) := by decide +kernel
theorem dX0_findBorders_42 : decode cX0_findBorders 42 = .ok (.isub, 1) := by decide +kernel
theorem dX0_findBorders_43 : decode cX0_findBorders 43 = .ok (.iload_n 2, 1) := by decide +kernel
theorem dX0_findBorders_44 : decode cX0_findBorders 44 = .ok (.iastore, 1) := by decide +kernel
theorem dX0_findBorders_45 : decode cX0_findBorders 45 = .ok (.iinc 3 (-1), 3) := by decide +kernel
theorem dX0_findBorders_48 : decode cX0_findBorders 48 = .ok (.goto (-26), 3) := by decide +kernel
theorem dX0_findBorders_51 : decode cX0_findBorders 51 = .ok (.return_, 1) := by decide +kernel
set_option maxRecDepth 20000 in
theorem ggX0_findBorders_X0_borderThatGrows : GoodIn wsX0_findBorders wsX0_borderThatGrows := goodIn_r _ [7, 1, 8, 2, 9, 10, 11, 12, 13, 14, 15, 16, 17, 18, 19, 20, 21, 22, 23, 24] (by decide +kernel) (by decide +kernel)
set_option maxRecDepth 20000 in
theorem gX0_findBorders_X0_borderThatGrows : GoodIn wsX0_findBorders (wsV RX0 41 RX0 yX0_borderThatGrows wsX0_borderThatGrows) := goodIn_app (goodIn_of _ (by decide +kernel)) ggX0_findBorders_X0_borderThatGrows
theorem dX0_skipToBordersOfTheWord_0 : decode cX0_skipToBordersOfTheWord 0 = .ok (.aload_n 0, 1) := by decide +kernel
theorem dX0_skipToBordersOfTheWord_1 : decode cX0_skipToBordersOfTheWord 1 = .ok (.getfield 9, 3) := by decide +kernel
theorem dX0_skipToBordersOfTheWord_4 : decode cX0_skipToBordersOfTheWord 4 = .ok (.iconst 0, 1) := by decide +kernel
theorem dX0_skipToBordersOfTheWord_5 : decode cX0_skipToBordersOfTheWord 5 = .ok (.iaload, 1) := by decide +kernel
theorem dX0_skipToBordersOfTheWord_6 : decode cX0_skipToBordersOfTheWord 6 = .ok (.istore_n 1, 1) := by decide +kernel
theorem dX0_skipToBordersOfTheWord_7 : decode cX0_skipToBordersOfTheWord 7 = .ok (.iconst 0, 1) := by decide +kernel
theorem dX0_skipToBordersOfTheWord_8 : decode cX0_skipToBordersOfTheWord 8 = .ok (.istore_n 2, 1) := by decide +kernel
theorem dX0_skipToBordersOfTheWord_9 : decode cX0_skipToBordersOfTheWord 9 = .ok (.iload_n 2, 1) := by decide +kernel
theorem dX0_skipToBordersOfTheWord_10 : decode cX0_skipToBordersOfTheWord 10 = .ok (.aload_n 0, 1) := by decide +kernel
theorem dX0_skipToBordersOfTheWord_11 : decode cX0_skipToBordersOfTheWord 11 = .ok (.getfield 30, 3) := by decide +kernel
theorem dX0_skipToBordersOfTheWord_14 : decode cX0_skipToBordersOfTheWord 14 = .ok (.if_icmp .gt 37, 3) := by decide +kernel
theorem dX0_skipToBordersOfTheWord_17 : decode cX0_skipToBordersOfTheWord 17 = .ok (.aload_n 0, 1) := by decide +kernel
theorem dX0_skipToBordersOfTheWord_18 : decode cX0_skipToBordersOfTheWord 18 = .ok (.getfield 15, 3) := by decide +kernel
theorem dX0_skipToBordersOfTheWord_21 : decode cX0_skipToBordersOfTheWord 21 = .ok (.iload_n 2, 1) := by decide +kernel
theorem dX0_skipToBordersOfTheWord_22 : decode cX0_skipToBordersOfTheWord 22 = .ok (.iaload, 1) := by decide +kernel
theorem dX0_skipToBordersOfTheWord_23 : decode cX0_skipToBordersOfTheWord 23 = .ok (.ifCond .ne 10, 3) := by decide +kernel
theorem dX0_skipToBordersOfTheWord_26 : decode cX0_skipToBordersOfTheWord 26 = .ok (.aload_n 0, 1) := by decide +kernel
theorem dX0_skipToBordersOfTheWord_27 : decode cX0_skipToBordersOfTheWord 27 = .ok (.getfield 15, 3) := by decide +kernel
theorem dX0_skipToBordersOfTheWord_30 : decode cX0_skipToBordersOfTheWord 30 = .ok (.iload_n 2, 1) := by decide +kernel
theorem dX0_skipToBordersOfTheWord_31 : decode cX0_skipToBordersOfTheWord 31 = .ok (.iload_n 1, 1) := by decide +kernel
theorem dX0_skipToBordersOfTheWord_32 : decode cX0_skipToBordersOfTheWord 32 = .ok (.iastore, 1) := by decide +kernel
theorem dX0_skipToBordersOfTheWord_33 : decode cX0_skipToBordersOfTheWord 33 = .ok (.iload_n 2, 1) := by decide +kernel
theorem dX0_skipToBordersOfTheWord_34 : decode cX0_skipToBordersOfTheWord 34 = .ok (.iload_n 1, 1) := by decide +kernel
theorem dX0_skipToBordersOfTheWord_35 : decode cX0_skipToBordersOfTheWord 35 = .ok (.if_icmp .ne 10, 3) := by decide +kernel
theorem dX0_skipToBordersOfTheWord_38 : decode cX0_skipToBordersOfTheWord 38 = .ok (.aload_n 0, 1) := by decide +kernel
theorem dX0_skipToBordersOfTheWord_39 : decode cX0_skipToBordersOfTheWord 39 = .ok (.getfield 9, 3) := by decide +kernel
theorem dX0_skipToBordersOfTheWord_42 : decode cX0_skipToBordersOfTheWord 42 = .ok (.iload_n 2, 1) := by decide +kernel
theorem dX0_skipToBordersOfTheWord_43 : decode cX0_skipToBordersOfTheWord 43 = .ok (.iaload, 1) := by decide +kernel
theorem dX0_skipToBordersOfTheWord_44 : decode cX0_skipToBordersOfTheWord 44 = .ok (.istore_n 1, 1) := by decide +kernel
theorem dX0_skipToBordersOfTheWord_45 : decode cX0_skipToBordersOfTheWord 45 = .ok (.iinc 2 1, 3) := by decide +kernel
theorem dX0_skipToBordersOfTheWord_48 : decode cX0_skipToBordersOfTheWord 48 = .ok (.goto (-39), 3) := by decide +kernel
theorem dX0_skipToBordersOfTheWord_51 : decode cX0_skipToBordersOfTheWord 51 = .ok (.return_, 1) := by decide +kernel
theorem dX0_study_0 : decode cX0_study 0 = .ok (.aload_n 0, 1) := by decide +kernel
theorem dX0_study_1 : decode cX0_study 1 = .ok (.aload_n 1, 1) := by decide +kernel
theorem dX0_study_2 : decode cX0_study 2 = .ok (.invokevirtual 18, 3) := by decide +kernel
theorem dX0_study_5 : decode cX0_study 5 = .ok (.bipush 16, 2) := by decide +kernel
theorem dX0_study_7 : decode cX0_study 7 = .ok (.invokestatic 24, 3) := by decide +kernel
theorem dX0_study_10 : decode cX0_study 10 = .ok (.putfield 30, 3) := by decide +kernel
theorem dX0_study_13 : decode cX0_study 13 = .ok (.iconst 0, 1) := by decide +kernel
theorem dX0_study_14 : decode cX0_study 14 = .ok (.istore_n 2, 1) := by decide +kernel
theorem dX0_study_15 : decode cX0_study 15 = .ok (.iload_n 2, 1) := by decide +kernel
theorem dX0_study_16 : decode cX0_study 16 = .ok (.aload_n 0, 1) := by decide +kernel
theorem dX0_study_17 : decode cX0_study 17 = .ok (.getfield 30, 3) := by decide +kernel
theorem dX0_study_20 : decode cX0_study 20 = .ok (.if_icmp .gt 16, 3) := by decide +kernel
theorem dX0_study_23 : decode cX0_study 23 = .ok (.aload_n 0, 1) := by decide +kernel
theorem dX0_study_24 : decode cX0_study 24 = .ok (.getfield 15, 3) := by decide +kernel
theorem dX0_study_27 : decode cX0_study 27 = .ok (.iload_n 2, 1) := by decide +kernel
theorem dX0_study_28 : decode cX0_study 28 = .ok (.iconst 0, 1) := by decide +kernel
theorem dX0_study_29 : decode cX0_study 29 = .ok (.iastore, 1) := by decide +kernel
theorem dX0_study_30 : decode cX0_study 30 = .ok (.iinc 2 1, 3) := by decide +kernel
theorem dX0_study_33 : decode cX0_study 33 = .ok (.goto (-18), 3) := by decide +kernel
theorem dX0_study_36 : decode cX0_study 36 = .ok (.aload_n 0, 1) := by decide +kernel
theorem dX0_study_37 : decode cX0_study 37 = .ok (.aload_n 1, 1) := by decide +kernel
theorem dX0_study_38 : decode cX0_study 38 = .ok (.invokevirtual 34, 3) := by decide +kernel
theorem dX0_study_41 : decode cX0_study 41 = .ok (.aload_n 0, 1) := by decide +kernel
theorem dX0_study_42 : decode cX0_study 42 = .ok (.invokevirtual 38, 3) := by decide +kernel
theorem dX0_study_45 : decode cX0_study 45 = .ok (.return_, 1) := by decide +kernel
set_option maxRecDepth 20000 in
theorem ggX0_study_X2_size : GoodIn wsX0_study wsX2_size := goodIn_r _ [11, 12, 39, 40] (by decide +kernel) (by decide +kernel)
set_option maxRecDepth 20000 in
theorem gX0_study_X2_size : GoodIn wsX0_study (wsV RX0 18 RX2 yX2_size wsX2_size) := goodIn_app (goodIn_of _ (by decide +kernel)) ggX0_study_X2_size
set_option maxRecDepth 20000 in
theorem ggX0_study_X0_findBorders : GoodIn wsX0_study wsX0_findBorders := goodIn_r _ [17, 5, 18, 19, 20, 21, 16, 22, 6, 23, 24, 25, 10, 26, 27, 28, 29, 30, 31, 12, 36, 37, 38, 39, 40] (by decide +kernel) (by decide +kernel)
set_option maxRecDepth 20000 in
theorem gX0_study_X0_findBorders : GoodIn wsX0_study (wsV RX0 34 RX0 yX0_findBorders wsX0_findBorders) := goodIn_app (goodIn_of _ (by decide +kernel)) ggX0_study_X0_findBorders
set_option maxRecDepth 20000 in
theorem ggX0_study_X0_skipToBordersOfTheWord : GoodIn wsX0_study wsX0_skipToBordersOfTheWord := goodIn_r _ [35, 18, 5, 6, 36, 37, 38] (by decide +kernel) (by decide +kernel)
set_option maxRecDepth 20000 in
theorem gX0_study_X0_skipToBordersOfTheWord : GoodIn wsX0_study (wsV RX0 38 RX0 yX0_skipToBordersOfTheWord wsX0_skipToBordersOfTheWord) := goodIn_app (goodIn_of _ (by decide +kernel)) ggX0_study_X0_skipToBordersOfTheWord
theorem study_eq {nw : Int} {W : Nat → Int32} {B K : Nat → Int} (h : 0 ≤ nw) : (findF nw.toNat W nw.toNat (nw + 1) (updZ B nw.toNat (nw + 1)) (zF (nw + 1) K)).1 = studyB nw.toNat W B K ∧ tailF (findF nw.toNat W nw.toNat (nw + 1) (updZ B nw.toNat (nw + 1)) (zF (nw + 1) K)).1 (nw + 1).toNat 0 ((findF nw.toNat W nw.toNat (nw + 1) (updZ B nw.toNat (nw + 1)) (zF (nw + 1) K)).1 0) (findF nw.toNat W nw.toNat (nw + 1) (updZ B nw.toNat (nw + 1)) (zF (nw + 1) K)).2 = studyK nw.toNat W B K := by
  have h1 : ((nw.toNat : Nat) : Int) = nw := by omega
  have h2 : (nw + 1).toNat = nw.toNat + 1 := by omega
  unfold studyK studyB
  rw [h1, h2]
  exact ⟨rfl, rfl⟩
theorem grow_step {en e b t : Int} {W : Nat → Int32} {B K K3 : Nat → Int} {G : Int × (Nat → Int)} (ht : t ≤ en) (h0 : 0 < b) (h1 : b ≤ en) (h2 : ¬ W (e - 1).toNat = W (b - 1).toNat) (hg : growF en W B e (en + 1 - t).toNat b K = G) (h3 : (if K b.toNat = 0 then updZ K b.toNat (b - e) else K) = K3) : growF en W B e (en + 1 - (t + 1)).toNat (B b.toNat) K3 = G := by
  have h4 : ¬ (b ≤ 0 ∨ en < b ∨ W (e - 1).toNat = W (b - 1).toNat) := by
    rintro (h | h | h)
    · omega
    · omega
    · exact h2 h
  have h5 : (en + 1 - t).toNat = (en + 1 - (t + 1)).toNat + 1 := by omega
  rw [← hg, h5, growF_go h4, h3]

set_option maxHeartbeats 4000000 in
set_option maxRecDepth 100000 in
theorem c_X3_lookToTheEnd (l : Launch) (D : va_G) (cy : Nat → ClassId) (si : Nat) (li : Nat) (mi : Nat) (wi : Nat) (vi : Nat) (gi : Nat) (ei : Nat) (nl : Int) (Fl : Nat → Int32) (nw : Int) (Fw : Nat → Int32) (nf : Int) (Ff : Nat → Int32) (lr : Int) (er : Int) (pl : Int) (lk : Int) (cp : Int) (n0 : Nat) (b0 : Nat) (k0 : Nat) (en : Int) (B : Nat → Int) (Kf : Nat → Int) (fo : List Int32) (hb : 0 ≤ nl ∧ nl ≤ 60 ∧ 0 ≤ nw ∧ nw ≤ 16 ∧ 0 ≤ nf ∧ nf ≤ pl ∧ pl ≤ 100 ∧ nf ≤ 60 ∧ 0 ≤ lk ∧ lk ≤ pl ∧ 0 ≤ cp ∧ cp ≤ 16 * lk ∧ 0 ≤ lr ∧ lr ≤ 1 ∧ 0 ≤ er ∧ er ≤ 1) (he : en = nw) (hk : ∀ j : Nat, 0 ≤ Kf j ∧ Kf j ≤ 17) (hB : 0 ≤ B 0 ∧ B 0 ≤ 17 ∧ (0 < nw → 1 ≤ B 0)) (hrep : Rep nf Ff fo) : Ci l D cy yX3_lookToTheEnd wsX3_lookToTheEnd 4 90 [.ref si, .ref n0] [(si, .inr (3, [.ref li, .ref wi, .ref gi, .int (iI lr), .int (iI er), .int (iI pl), .int (iI lk), .int (iI cp)])), (li, .inr (2, [.ref mi, .int (iI nl)])), (mi, .inl (cy 0, 60, .inl Fl)), (wi, .inr (2, [.ref vi, .int (iI nw)])), (vi, .inl (cy 0, 16, .inl Fw)), (gi, .inr (2, [.ref ei, .int (iI nf)])), (ei, .inl (cy 0, 60, .inl Ff)), (n0, .inr (0, [.ref b0, .ref k0, .int (iI en)])), (b0, .inl (cy 0, 17, .inl (zI B))), (k0, .inl (cy 0, 17, .inl (zI Kf)))] (fun (r : Int32) (u : Int × Int × Int × Int × (Nat → Int32)) => r = iI (runS nl.toNat nw.toNat Fw Fl (skX (B 0) Kf lr er nw.toNat Fw Fl) 60 (pl, lk, cp, fo)).2 ∧ u.1 = (runS nl.toNat nw.toNat Fw Fl (skX (B 0) Kf lr er nw.toNat Fw Fl) 60 (pl, lk, cp, fo)).1.1 ∧ u.2.1 = (runS nl.toNat nw.toNat Fw Fl (skX (B 0) Kf lr er nw.toNat Fw Fl) 60 (pl, lk, cp, fo)).1.2.1 ∧ u.2.2.1 = (runS nl.toNat nw.toNat Fw Fl (skX (B 0) Kf lr er nw.toNat Fw Fl) 60 (pl, lk, cp, fo)).1.2.2.1 ∧ Rep u.2.2.2.1 u.2.2.2.2 (runS nl.toNat nw.toNat Fw Fl (skX (B 0) Kf lr er nw.toNat Fw Fl) 60 (pl, lk, cp, fo)).1.2.2.2 ∧ (0 ≤ nl ∧ nl ≤ 60 ∧ 0 ≤ nw ∧ nw ≤ 16 ∧ 0 ≤ u.2.2.2.1 ∧ u.2.2.2.1 ≤ u.1 ∧ u.1 ≤ 100 ∧ u.2.2.2.1 ≤ 60 ∧ 0 ≤ u.2.1 ∧ u.2.1 ≤ u.1 ∧ 0 ≤ u.2.2.1 ∧ u.2.2.1 ≤ 16 * u.2.1 ∧ 0 ≤ lr ∧ lr ≤ 1 ∧ 0 ≤ er ∧ er ≤ 1)) (fun u : Int × Int × Int × Int × (Nat → Int32) => [(si, .inr (3, [.ref li, .ref wi, .ref gi, .int (iI lr), .int (iI er), .int (iI u.1), .int (iI u.2.1), .int (iI u.2.2.1)])), (li, .inr (2, [.ref mi, .int (iI nl)])), (mi, .inl (cy 0, 60, .inl Fl)), (wi, .inr (2, [.ref vi, .int (iI nw)])), (vi, .inl (cy 0, 16, .inl Fw)), (gi, .inr (2, [.ref ei, .int (iI u.2.2.2.1)])), (ei, .inl (cy 0, 60, .inl u.2.2.2.2)), (n0, .inr (0, [.ref b0, .ref k0, .int (iI en)])), (b0, .inl (cy 0, 17, .inl (zI B))), (k0, .inl (cy 0, 17, .inl (zI Kf)))]) := by
  refine Ci_of (cc := cX3_lookToTheEnd) (maxL := 3) (ret := (some .int)) (by decide) rfl rfl ?_
  intro p e s m args below meth c A hx hb hr hts hown hlocks hml hP hK hD hT hA ls hl
  have hS : va_S A s.heap s.heap [] := va_S.rf
  have hl : lv_has ls 3 [(0, .ref si), (1, .ref n0)] := hl
  refine lv_iconst (v := iI 0) hx hb dX3_lookToTheEnd_0 rfl ?_
  refine lv_istore_n (lv' := [(2, .int (iI 0)), (0, .ref si), (1, .ref n0)]) hx hb dX3_lookToTheEnd_1 rfl hl (by decide) rfl (fun ls hl => ?_)
  have hloop1 : ∀ (n1 : Nat) (i : Int) (pl2 : Int) (lk2 : Int) (cp2 : Int) (nf2 : Int) (Ff2 : Nat → Int32) (fo2 : List Int32) (hi : 0 ≤ i ∧ i ≤ 60) (hb2 : 0 ≤ nl ∧ nl ≤ 60 ∧ 0 ≤ nw ∧ nw ≤ 16 ∧ 0 ≤ nf2 ∧ nf2 ≤ pl2 ∧ pl2 ≤ 100 ∧ nf2 ≤ 60 ∧ 0 ≤ lk2 ∧ lk2 ≤ pl2 ∧ 0 ≤ cp2 ∧ cp2 ≤ 16 * lk2 ∧ 0 ≤ lr ∧ lr ≤ 1 ∧ 0 ≤ er ∧ er ≤ 1) (hrep2 : Rep nf2 Ff2 fo2) (hrun : (runS nl.toNat nw.toNat Fw Fl (skX (B 0) Kf lr er nw.toNat Fw Fl) (60 - i).toNat (pl2, lk2, cp2, fo2)).1 = (runS nl.toNat nw.toNat Fw Fl (skX (B 0) Kf lr er nw.toNat Fw Fl) 60 (pl, lk, cp, fo)).1 ∧ i + (runS nl.toNat nw.toNat Fw Fl (skX (B 0) Kf lr er nw.toNat Fw Fl) (60 - i).toNat (pl2, lk2, cp2, fo2)).2 = (runS nl.toNat nw.toNat Fw Fl (skX (B 0) Kf lr er nw.toNat Fw Fl) 60 (pl, lk, cp, fo)).2) (hm : 60 - i < (n1 : Int)) (H : Heap) (locs : List Loc) (ls : Array Slot) (hP : va_P D vwCl [(si, .inr (3, [.ref li, .ref wi, .ref gi, .int (iI lr), .int (iI er), .int (iI pl2), .int (iI lk2), .int (iI cp2)])), (li, .inr (2, [.ref mi, .int (iI nl)])), (mi, .inl (cy 0, 60, .inl Fl)), (wi, .inr (2, [.ref vi, .int (iI nw)])), (vi, .inl (cy 0, 16, .inl Fw)), (gi, .inr (2, [.ref ei, .int (iI nf2)])), (ei, .inl (cy 0, 60, .inl Ff2)), (n0, .inr (0, [.ref b0, .ref k0, .int (iI en)])), (b0, .inl (cy 0, 17, .inl (zI B))), (k0, .inl (cy 0, 17, .inl (zI Kf)))] H) (hD : va_D A [(si, .inr (3, [.ref li, .ref wi, .ref gi, .int (iI lr), .int (iI er), .int (iI pl2), .int (iI lk2), .int (iI cp2)])), (li, .inr (2, [.ref mi, .int (iI nl)])), (mi, .inl (cy 0, 60, .inl Fl)), (wi, .inr (2, [.ref vi, .int (iI nw)])), (vi, .inl (cy 0, 16, .inl Fw)), (gi, .inr (2, [.ref ei, .int (iI nf2)])), (ei, .inl (cy 0, 60, .inl Ff2)), (n0, .inr (0, [.ref b0, .ref k0, .int (iI en)])), (b0, .inl (cy 0, 17, .inl (zI B))), (k0, .inl (cy 0, 17, .inl (zI Kf)))]) (hS : va_S A s.heap H locs) (hl : lv_has ls 3 [(2, .int (iI i)), (0, .ref si), (1, .ref n0)]), W p l e ({ frames := 4, cells := 0, slots := 0, locals := 90 } : Room) s m args below meth c H locs 0 0 (MQ below (va_Qi (fun (r : Int32) (u : Int × Int × Int × Int × (Nat → Int32)) => r = iI (runS nl.toNat nw.toNat Fw Fl (skX (B 0) Kf lr er nw.toNat Fw Fl) 60 (pl, lk, cp, fo)).2 ∧ u.1 = (runS nl.toNat nw.toNat Fw Fl (skX (B 0) Kf lr er nw.toNat Fw Fl) 60 (pl, lk, cp, fo)).1.1 ∧ u.2.1 = (runS nl.toNat nw.toNat Fw Fl (skX (B 0) Kf lr er nw.toNat Fw Fl) 60 (pl, lk, cp, fo)).1.2.1 ∧ u.2.2.1 = (runS nl.toNat nw.toNat Fw Fl (skX (B 0) Kf lr er nw.toNat Fw Fl) 60 (pl, lk, cp, fo)).1.2.2.1 ∧ Rep u.2.2.2.1 u.2.2.2.2 (runS nl.toNat nw.toNat Fw Fl (skX (B 0) Kf lr er nw.toNat Fw Fl) 60 (pl, lk, cp, fo)).1.2.2.2 ∧ (0 ≤ nl ∧ nl ≤ 60 ∧ 0 ≤ nw ∧ nw ≤ 16 ∧ 0 ≤ u.2.2.2.1 ∧ u.2.2.2.1 ≤ u.1 ∧ u.1 ≤ 100 ∧ u.2.2.2.1 ≤ 60 ∧ 0 ≤ u.2.1 ∧ u.2.1 ≤ u.1 ∧ 0 ≤ u.2.2.1 ∧ u.2.2.1 ≤ 16 * u.2.1 ∧ 0 ≤ lr ∧ lr ≤ 1 ∧ 0 ≤ er ∧ er ≤ 1)) (fun u t => va_P D vwCl ((fun u : Int × Int × Int × Int × (Nat → Int32) => [(si, .inr (3, [.ref li, .ref wi, .ref gi, .int (iI lr), .int (iI er), .int (iI u.1), .int (iI u.2.1), .int (iI u.2.2.1)])), (li, .inr (2, [.ref mi, .int (iI nl)])), (mi, .inl (cy 0, 60, .inl Fl)), (wi, .inr (2, [.ref vi, .int (iI nw)])), (vi, .inl (cy 0, 16, .inl Fw)), (gi, .inr (2, [.ref ei, .int (iI u.2.2.2.1)])), (ei, .inl (cy 0, 60, .inl u.2.2.2.2)), (n0, .inr (0, [.ref b0, .ref k0, .int (iI en)])), (b0, .inl (cy 0, 17, .inl (zI B))), (k0, .inl (cy 0, 17, .inl (zI Kf)))]) u) t.heap) A) args s 0 0 A) (F0 m 2 ls []) := by
    intro n1
    induction n1 with
    | zero =>
      intro i pl2 lk2 cp2 nf2 Ff2 fo2 hi hb2 hrep2 hrun hm; exact absurd hm (by omega)
    | succ n1 ih1 =>
      intro i pl2 lk2 cp2 nf2 Ff2 fo2 hi hb2 hrep2 hrun hm H locs ls hP hD hS hl
      refine lv_iload_n hx hb dX3_lookToTheEnd_2 rfl (lv_at hl 0 rfl) ?_
      refine lv_bipush (v := iI 60) hx hb dX3_lookToTheEnd_3 (by decide +kernel) ?_
      refine z_icmp_ge (tgt := 27) hx hb (iI_t (by omega) (by omega)) (iI_t (by omega) (by omega)) dX3_lookToTheEnd_5 (by decide) (fun c2 => ?_) (fun c2 => ?_)
      · --
        refine lv_iload_n hx hb dX3_lookToTheEnd_27 rfl (lv_at hl 0 rfl) ?_
        exact z_iret hx hb hr hlocks hS (pl2, lk2, cp2, nf2, Ff2) (show (iI i) = iI (runS nl.toNat nw.toNat Fw Fl (skX (B 0) Kf lr er nw.toNat Fw Fl) 60 (pl, lk, cp, fo)).2 ∧ pl2 = (runS nl.toNat nw.toNat Fw Fl (skX (B 0) Kf lr er nw.toNat Fw Fl) 60 (pl, lk, cp, fo)).1.1 ∧ lk2 = (runS nl.toNat nw.toNat Fw Fl (skX (B 0) Kf lr er nw.toNat Fw Fl) 60 (pl, lk, cp, fo)).1.2.1 ∧ cp2 = (runS nl.toNat nw.toNat Fw Fl (skX (B 0) Kf lr er nw.toNat Fw Fl) 60 (pl, lk, cp, fo)).1.2.2.1 ∧ Rep nf2 Ff2 (runS nl.toNat nw.toNat Fw Fl (skX (B 0) Kf lr er nw.toNat Fw Fl) 60 (pl, lk, cp, fo)).1.2.2.2 ∧ (0 ≤ nl ∧ nl ≤ 60 ∧ 0 ≤ nw ∧ nw ≤ 16 ∧ 0 ≤ nf2 ∧ nf2 ≤ pl2 ∧ pl2 ≤ 100 ∧ nf2 ≤ 60 ∧ 0 ≤ lk2 ∧ lk2 ≤ pl2 ∧ 0 ≤ cp2 ∧ cp2 ≤ 16 * lk2 ∧ 0 ≤ lr ∧ lr ≤ 1 ∧ 0 ≤ er ∧ er ≤ 1) from (by
              have hz : (runS nl.toNat nw.toNat Fw Fl (skX (B 0) Kf lr er nw.toNat Fw Fl) (60 - i).toNat (pl2, lk2, cp2, fo2)) = ((pl2, lk2, cp2, fo2), 0) := (by rw [show (60 - i).toNat = 0 by omega]; rfl)
              rw [hz] at hrun
              obtain ⟨h1, h2⟩ := hrun
              rw [← h1, ← h2]
              exact ⟨congrArg iI (by omega), rfl, rfl, rfl, hrep2, by omega⟩)) hP dX3_lookToTheEnd_28
      · --
        refine lv_aload_n hx hb dX3_lookToTheEnd_8 rfl (lv_at hl 1 rfl) ?_
        refine z_cVi (n := 0) (b := si) (As := []) (rest := []) ⟨hx, hb, hml, hown, hts⟩ (c_X3_hasEnded l D cy si li mi wi vi gi nl nw lr er pl2 lk2 cp2 (by omega)) gX3_lookToTheEnd_X3_hasEnded rfl (by decide +kernel) ⟨Nat.le_of_ble_eq_true rfl, Nat.le_of_ble_eq_true rfl⟩ hK hT hP hD hS hA [0, 1, 3] rfl rfl 0 3 rfl rfl rfl (fun _ => rfl) rfl hl.1 rfl (Nat.le_of_ble_eq_true rfl) dX3_lookToTheEnd_9 ⟨Nat.zero_le _, Nat.zero_le _⟩ (fun r_3 u_3 H locs hw_3 hP hD hS => ?_)
        have hw_3 : ((nw = 0 ∨ nl - nw + 1 ≤ pl2) ∧ r_3 = iI 1) ∨ (¬ (nw = 0 ∨ nl - nw + 1 ≤ pl2) ∧ r_3 = iI 0) := hw_3
        have hP : va_P D vwCl [(si, .inr (3, [.ref li, .ref wi, .ref gi, .int (iI lr), .int (iI er), .int (iI pl2), .int (iI lk2), .int (iI cp2)])), (li, .inr (2, [.ref mi, .int (iI nl)])), (mi, .inl (cy 0, 60, .inl Fl)), (wi, .inr (2, [.ref vi, .int (iI nw)])), (vi, .inl (cy 0, 16, .inl Fw)), (gi, .inr (2, [.ref ei, .int (iI nf2)])), (ei, .inl (cy 0, 60, .inl Ff2)), (n0, .inr (0, [.ref b0, .ref k0, .int (iI en)])), (b0, .inl (cy 0, 17, .inl (zI B))), (k0, .inl (cy 0, 17, .inl (zI Kf)))] H := hP
        have hD : va_D A [(si, .inr (3, [.ref li, .ref wi, .ref gi, .int (iI lr), .int (iI er), .int (iI pl2), .int (iI lk2), .int (iI cp2)])), (li, .inr (2, [.ref mi, .int (iI nl)])), (mi, .inl (cy 0, 60, .inl Fl)), (wi, .inr (2, [.ref vi, .int (iI nw)])), (vi, .inl (cy 0, 16, .inl Fw)), (gi, .inr (2, [.ref ei, .int (iI nf2)])), (ei, .inl (cy 0, 60, .inl Ff2)), (n0, .inr (0, [.ref b0, .ref k0, .int (iI en)])), (b0, .inl (cy 0, 17, .inl (zI B))), (k0, .inl (cy 0, 17, .inl (zI Kf)))] := hD
        rcases hw_3 with ⟨h_3, rfl⟩ | ⟨h_3, rfl⟩
        · --
          refine z_if_ne (tgt := 27) hx hb (iI_t (by omega) (by omega)) dX3_lookToTheEnd_12 (by decide) (fun _ => ?_) (fun c4 => absurd c4 (by omega))
          refine lv_iload_n hx hb dX3_lookToTheEnd_27 rfl (lv_at hl 0 rfl) ?_
          exact z_iret hx hb hr hlocks hS (pl2, lk2, cp2, nf2, Ff2) (show (iI i) = iI (runS nl.toNat nw.toNat Fw Fl (skX (B 0) Kf lr er nw.toNat Fw Fl) 60 (pl, lk, cp, fo)).2 ∧ pl2 = (runS nl.toNat nw.toNat Fw Fl (skX (B 0) Kf lr er nw.toNat Fw Fl) 60 (pl, lk, cp, fo)).1.1 ∧ lk2 = (runS nl.toNat nw.toNat Fw Fl (skX (B 0) Kf lr er nw.toNat Fw Fl) 60 (pl, lk, cp, fo)).1.2.1 ∧ cp2 = (runS nl.toNat nw.toNat Fw Fl (skX (B 0) Kf lr er nw.toNat Fw Fl) 60 (pl, lk, cp, fo)).1.2.2.1 ∧ Rep nf2 Ff2 (runS nl.toNat nw.toNat Fw Fl (skX (B 0) Kf lr er nw.toNat Fw Fl) 60 (pl, lk, cp, fo)).1.2.2.2 ∧ (0 ≤ nl ∧ nl ≤ 60 ∧ 0 ≤ nw ∧ nw ≤ 16 ∧ 0 ≤ nf2 ∧ nf2 ≤ pl2 ∧ pl2 ≤ 100 ∧ nf2 ≤ 60 ∧ 0 ≤ lk2 ∧ lk2 ≤ pl2 ∧ 0 ≤ cp2 ∧ cp2 ≤ 16 * lk2 ∧ 0 ≤ lr ∧ lr ≤ 1 ∧ 0 ≤ er ∧ er ≤ 1) from (by
                have hz : (runS nl.toNat nw.toNat Fw Fl (skX (B 0) Kf lr er nw.toNat Fw Fl) (60 - i).toNat (pl2, lk2, cp2, fo2)) = ((pl2, lk2, cp2, fo2), 0) := runS_over (by omega) _
                rw [hz] at hrun
                obtain ⟨h1, h2⟩ := hrun
                rw [← h1, ← h2]
                exact ⟨congrArg iI (by omega), rfl, rfl, rfl, hrep2, by omega⟩)) hP dX3_lookToTheEnd_28
        · --
          refine z_if_ne (tgt := 27) hx hb (iI_t (by omega) (by omega)) dX3_lookToTheEnd_12 (by decide) (fun c5 => absurd c5 (by omega)) (fun _ => ?_)
          refine lv_aload_n hx hb dX3_lookToTheEnd_15 rfl (lv_at hl 1 rfl) ?_
          refine lv_aload_n hx hb dX3_lookToTheEnd_16 rfl (lv_at hl 2 rfl) ?_
          refine z_cVi (n := 1) (b := si) (As := [.ref n0]) (rest := []) ⟨hx, hb, hml, hown, hts⟩ (c_X3_lookOnce l D cy si li mi wi vi gi ei nl Fl nw Fw nf2 Ff2 lr er pl2 lk2 cp2 n0 b0 k0 en B Kf (by omega) (by omega) (hk) (by omega)) gX3_lookToTheEnd_X3_lookOnce rfl (by decide +kernel) ⟨Nat.le_of_ble_eq_true rfl, Nat.le_of_ble_eq_true rfl⟩ hK hT hP hD hS hA [0, 1, 2, 3, 4, 5, 6, 7, 8, 9] rfl rfl 0 3 rfl rfl rfl (fun _ => rfl) rfl hl.1 rfl (Nat.le_of_ble_eq_true rfl) dX3_lookToTheEnd_17 ⟨Nat.zero_le _, Nat.zero_le _⟩ (fun r_6 u_6 H locs hw_6 hP hD hS => ?_)
          obtain ⟨cp1_6, nf1_6, Ff1_6⟩ := u_6
          have hw_6 : r_6 = iI (skX (B 0) Kf lr er nw.toNat Fw Fl pl2 (diffF nw.toNat Fw Fl pl2)) ∧ cp1_6 = cp2 + (nw - max (diffF nw.toNat Fw Fl pl2) 0) ∧ (((diffF nw.toNat Fw Fl pl2) = -1 ∧ nf1_6 = nf2 + 1 ∧ Ff1_6 = upd Ff2 nf2.toNat (iI pl2)) ∨ (¬ (diffF nw.toNat Fw Fl pl2) = -1 ∧ nf1_6 = nf2 ∧ Ff1_6 = Ff2)) := hw_6
          have hP : va_P D vwCl [(si, .inr (3, [.ref li, .ref wi, .ref gi, .int (iI lr), .int (iI er), .int (iI (pl2 + (skX (B 0) Kf lr er nw.toNat Fw Fl pl2 (diffF nw.toNat Fw Fl pl2)))), .int (iI (lk2 + 1)), .int (iI cp1_6)])), (li, .inr (2, [.ref mi, .int (iI nl)])), (mi, .inl (cy 0, 60, .inl Fl)), (wi, .inr (2, [.ref vi, .int (iI nw)])), (vi, .inl (cy 0, 16, .inl Fw)), (gi, .inr (2, [.ref ei, .int (iI nf1_6)])), (ei, .inl (cy 0, 60, .inl Ff1_6)), (n0, .inr (0, [.ref b0, .ref k0, .int (iI en)])), (b0, .inl (cy 0, 17, .inl (zI B))), (k0, .inl (cy 0, 17, .inl (zI Kf)))] H := hP
          have hD : va_D A [(si, .inr (3, [.ref li, .ref wi, .ref gi, .int (iI lr), .int (iI er), .int (iI (pl2 + (skX (B 0) Kf lr er nw.toNat Fw Fl pl2 (diffF nw.toNat Fw Fl pl2)))), .int (iI (lk2 + 1)), .int (iI cp1_6)])), (li, .inr (2, [.ref mi, .int (iI nl)])), (mi, .inl (cy 0, 60, .inl Fl)), (wi, .inr (2, [.ref vi, .int (iI nw)])), (vi, .inl (cy 0, 16, .inl Fw)), (gi, .inr (2, [.ref ei, .int (iI nf1_6)])), (ei, .inl (cy 0, 60, .inl Ff1_6)), (n0, .inr (0, [.ref b0, .ref k0, .int (iI en)])), (b0, .inl (cy 0, 17, .inl (zI B))), (k0, .inl (cy 0, 17, .inl (zI Kf)))] := hD
          obtain ⟨rfl, rfl, h_6⟩ := hw_6
          refine lv_pop hx hb dX3_lookToTheEnd_20 rfl ?_
          refine z_iinc (lv' := [(2, .int (iI (i + 1))), (0, .ref si), (1, .ref n0)]) hx hb dX3_lookToTheEnd_21 hl (k := 0) rfl (by decide) rfl (fun ls hl => ?_)
          refine lv_goto (tgt := 2) hx hb dX3_lookToTheEnd_24 (by decide) ?_
          have hdr := diffF_rng nw.toNat Fw Fl pl2
          have hsr := skX_rng (lr := lr) (er := er) (m := nw.toNat) (W := Fw) (L := Fl) (pl := pl2) (d := diffF nw.toNat Fw Fl pl2) (B0 := B 0) (Kf := Kf) (by omega) hk (by omega) (by omega) (by omega)
          have hsp := skX_pos (Kf := Kf) (lr := lr) (er := er) (m := nw.toNat) (W := Fw) (L := Fl) (pl := pl2) (d := diffF nw.toNat Fw Fl pl2) (B0 := B 0) (by omega) (by omega)
          exact ih1 (i + 1) (pl2 + (skX (B 0) Kf lr er nw.toNat Fw Fl pl2 (diffF nw.toNat Fw Fl pl2))) (lk2 + 1) (cp2 + (nw - max (diffF nw.toNat Fw Fl pl2) 0)) nf1_6 Ff1_6 (if (diffF nw.toNat Fw Fl pl2) = -1 then fo2 ++ [iI pl2] else fo2) (by omega) (by omega) (look_rep hrep2 (by assumption)) (run_step (by omega) (by omega) (by omega) (by omega) hrun) (by omega) _ _ _ hP hD hS (lv_sub hl [0, 1, 2] rfl)
  exact hloop1 (Int.toNat (60 - 0) + 1) 0 pl lk cp nf Ff fo (by omega) (by omega) (hrep) (⟨rfl, by rw [Int.zero_add]; rfl⟩) (by omega) _ _ _ hP hD hS (lv_sub hl [0, 1, 2] rfl)
set_option maxHeartbeats 4000000 in
set_option maxRecDepth 100000 in
theorem c_X0_borderThatGrows (l : Launch) (D : va_G) (cy : Nat → ClassId) (n0 : Nat) (b0 : Nat) (k0 : Nat) (en : Int) (B : Nat → Int) (Kf : Nat → Int) (wi : Nat) (vi : Nat) (nw : Int) (Fw : Nat → Int32) (en2 : Int) (x : Int) (hb : 0 ≤ nw ∧ nw ≤ 16 ∧ en = nw ∧ 0 < en2 ∧ en2 ≤ en ∧ en2 + 1 ≤ x ∧ x ≤ en + 1) (hB : ∀ j : Nat, en2 ≤ j → (j : Int) ≤ en → (j : Int) + 1 ≤ B j ∧ B j ≤ en + 1) (hk : ∀ j : Nat, 0 ≤ Kf j ∧ Kf j ≤ 17) : Ci l D cy yX0_borderThatGrows wsX0_borderThatGrows 2 42 [.ref n0, .ref wi, .int (iI en2), .int (iI x)] [(n0, .inr (0, [.ref b0, .ref k0, .int (iI en)])), (b0, .inl (cy 0, 17, .inl (zI B))), (k0, .inl (cy 0, 17, .inl (zI Kf))), (wi, .inr (2, [.ref vi, .int (iI nw)])), (vi, .inl (cy 0, 16, .inl Fw))] (fun (r : Int32) (u : (Nat → Int)) => r = iI (growF en Fw B en2 (en + 1).toNat x Kf).1 ∧ u = (growF en Fw B en2 (en + 1).toNat x Kf).2) (fun u : (Nat → Int) => [(n0, .inr (0, [.ref b0, .ref k0, .int (iI en)])), (b0, .inl (cy 0, 17, .inl (zI B))), (k0, .inl (cy 0, 17, .inl (zI u))), (wi, .inr (2, [.ref vi, .int (iI nw)])), (vi, .inl (cy 0, 16, .inl Fw))]) := by
  refine Ci_of (cc := cX0_borderThatGrows) (maxL := 6) (ret := (some .int)) (by decide) rfl rfl ?_
  intro p e s m args below meth c A hx hb hr hts hown hlocks hml hP hK hD hT hA ls hl
  have hS : va_S A s.heap s.heap [] := va_S.rf
  have hl : lv_has ls 6 [(0, .ref n0), (1, .ref wi), (2, .int (iI en2)), (3, .int (iI x))] := hl
  have hiX0 : ∀ w ∈ wsX00, w ∈ wsX0_borderThatGrows := by decide +kernel
  refine lv_iload_n hx hb dX0_borderThatGrows_0 rfl (lv_at hl 3 rfl) ?_
  refine lv_istore (lv' := [(4, .int (iI x)), (0, .ref n0), (1, .ref wi), (2, .int (iI en2)), (3, .int (iI x))]) hx hb dX0_borderThatGrows_1 hl (by decide) rfl (fun ls hl => ?_)
  refine lv_iconst (v := iI 0) hx hb dX0_borderThatGrows_3 rfl ?_
  refine lv_istore (lv' := [(5, .int (iI 0)), (4, .int (iI x)), (0, .ref n0), (1, .ref wi), (2, .int (iI en2)), (3, .int (iI x))]) hx hb dX0_borderThatGrows_4 hl (by decide) rfl (fun ls hl => ?_)
  have hloop1 : ∀ (n1 : Nat) (t : Int) (b : Int) (K2 : Nat → Int) (ht : 0 ≤ t ∧ t ≤ en + 1) (hbb : en2 + 1 ≤ b ∧ b ≤ en + 1) (hk2 : ∀ j : Nat, 0 ≤ K2 j ∧ K2 j ≤ 17) (hg : (growF en Fw B en2 (en + 1 - t).toNat b K2) = (growF en Fw B en2 (en + 1).toNat x Kf)) (hm : en + 1 - t < (n1 : Int)) (H : Heap) (locs : List Loc) (ls : Array Slot) (hP : va_P D vwCl [(n0, .inr (0, [.ref b0, .ref k0, .int (iI en)])), (b0, .inl (cy 0, 17, .inl (zI B))), (k0, .inl (cy 0, 17, .inl (zI K2))), (wi, .inr (2, [.ref vi, .int (iI nw)])), (vi, .inl (cy 0, 16, .inl Fw))] H) (hD : va_D A [(n0, .inr (0, [.ref b0, .ref k0, .int (iI en)])), (b0, .inl (cy 0, 17, .inl (zI B))), (k0, .inl (cy 0, 17, .inl (zI K2))), (wi, .inr (2, [.ref vi, .int (iI nw)])), (vi, .inl (cy 0, 16, .inl Fw))]) (hS : va_S A s.heap H locs) (hl : lv_has ls 6 [(5, .int (iI t)), (4, .int (iI b)), (0, .ref n0), (1, .ref wi), (2, .int (iI en2)), (3, .int (iI x))]), W p l e ({ frames := 2, cells := 0, slots := 0, locals := 42 } : Room) s m args below meth c H locs 0 0 (MQ below (va_Qi (fun (r : Int32) (u : (Nat → Int)) => r = iI (growF en Fw B en2 (en + 1).toNat x Kf).1 ∧ u = (growF en Fw B en2 (en + 1).toNat x Kf).2) (fun u t => va_P D vwCl ((fun u : (Nat → Int) => [(n0, .inr (0, [.ref b0, .ref k0, .int (iI en)])), (b0, .inl (cy 0, 17, .inl (zI B))), (k0, .inl (cy 0, 17, .inl (zI u))), (wi, .inr (2, [.ref vi, .int (iI nw)])), (vi, .inl (cy 0, 16, .inl Fw))]) u) t.heap) A) args s 0 0 A) (F0 m 6 ls []) := by
    intro n1
    induction n1 with
    | zero =>
      intro t b K2 ht hbb hk2 hg hm; exact absurd hm (by omega)
    | succ n1 ih1 =>
      intro t b K2 ht hbb hk2 hg hm H locs ls hP hD hS hl
      have hkb := hk2 b.toNat
      refine lv_iload hx hb dX0_borderThatGrows_6 (lv_at hl 0 rfl) ?_
      refine lv_aload_n hx hb dX0_borderThatGrows_8 rfl (lv_at hl 2 rfl) ?_
      refine va_get (D := D) (ci := 0) (v := .int (iI en)) (C := RX0) (T := TX0) (N := 3) hx hb hts hiX0 hown hK hP 0 rfl rfl 2 (by decide) (hts (.fieldLink RX0 30 "BackwardSearch$Ends" "length" "I") (by decide +kernel)) (fun _ h9 => h9) rfl dX0_borderThatGrows_9 ?_
      refine z_icmp_gt (tgt := 86) hx hb (iI_t (by omega) (by omega)) (iI_t (by omega) (by omega)) dX0_borderThatGrows_12 (by decide) (fun c2 => ?_) (fun c2 => ?_)
      · --
        refine lv_iload hx hb dX0_borderThatGrows_86 (lv_at hl 1 rfl) ?_
        exact z_iret hx hb hr hlocks hS (K2) (show (iI b) = iI (growF en Fw B en2 (en + 1).toNat x Kf).1 ∧ K2 = (growF en Fw B en2 (en + 1).toNat x Kf).2 from (by
              have hz : (growF en Fw B en2 (en + 1 - t).toNat b K2) = (b, K2) := (by rw [show (en + 1 - t).toNat = 0 by omega]; rfl)
              rw [hz] at hg
              rw [← hg]
              exact ⟨rfl, rfl⟩)) hP dX0_borderThatGrows_88
      · --
        refine lv_iload hx hb dX0_borderThatGrows_15 (lv_at hl 1 rfl) ?_
        refine z_if_le (tgt := 47) hx hb (iI_t (by omega) (by omega)) dX0_borderThatGrows_17 (by decide) (fun c3 => ?_) (fun c3 => ?_)
        · --
          refine lv_iload hx hb dX0_borderThatGrows_47 (lv_at hl 1 rfl) ?_
          exact z_iret hx hb hr hlocks hS (K2) (show (iI b) = iI (growF en Fw B en2 (en + 1).toNat x Kf).1 ∧ K2 = (growF en Fw B en2 (en + 1).toNat x Kf).2 from (by
                have hz : (growF en Fw B en2 (en + 1 - t).toNat b K2) = (b, K2) := growF_stop (by first | exact Or.inl (by omega) | exact Or.inr (Or.inl (by omega)) | exact Or.inr (Or.inr (by assumption))) _
                rw [hz] at hg
                rw [← hg]
                exact ⟨rfl, rfl⟩)) hP dX0_borderThatGrows_49
        · --
          refine lv_iload hx hb dX0_borderThatGrows_20 (lv_at hl 1 rfl) ?_
          refine lv_aload_n hx hb dX0_borderThatGrows_22 rfl (lv_at hl 2 rfl) ?_
          refine va_get (D := D) (ci := 0) (v := .int (iI en)) (C := RX0) (T := TX0) (N := 3) hx hb hts hiX0 hown hK hP 0 rfl rfl 2 (by decide) (hts (.fieldLink RX0 30 "BackwardSearch$Ends" "length" "I") (by decide +kernel)) (fun _ h9 => h9) rfl dX0_borderThatGrows_23 ?_
          refine z_icmp_gt (tgt := 47) hx hb (iI_t (by omega) (by omega)) (iI_t (by omega) (by omega)) dX0_borderThatGrows_26 (by decide) (fun c4 => ?_) (fun c4 => ?_)
          · --
            refine lv_iload hx hb dX0_borderThatGrows_47 (lv_at hl 1 rfl) ?_
            exact z_iret hx hb hr hlocks hS (K2) (show (iI b) = iI (growF en Fw B en2 (en + 1).toNat x Kf).1 ∧ K2 = (growF en Fw B en2 (en + 1).toNat x Kf).2 from (by
                  have hz : (growF en Fw B en2 (en + 1 - t).toNat b K2) = (b, K2) := growF_stop (by first | exact Or.inl (by omega) | exact Or.inr (Or.inl (by omega)) | exact Or.inr (Or.inr (by assumption))) _
                  rw [hz] at hg
                  rw [← hg]
                  exact ⟨rfl, rfl⟩)) hP dX0_borderThatGrows_49
          · --
            refine lv_aload_n hx hb dX0_borderThatGrows_29 rfl (lv_at hl 3 rfl) ?_
            refine lv_iload_n hx hb dX0_borderThatGrows_30 rfl (lv_at hl 4 rfl) ?_
            refine lv_iconst (v := iI 1) hx hb dX0_borderThatGrows_31 rfl ?_
            refine z_sub hx hb dX0_borderThatGrows_32 ?_
            refine z_cVi (n := 1) (b := wi) (As := [.int (iI (en2 - 1))]) (rest := []) ⟨hx, hb, hml, hown, hts⟩ (c_X2_at l D cy wi vi 16 nw Fw (en2 - 1) (by omega) (by omega)) gX0_borderThatGrows_X2_at rfl (by decide +kernel) ⟨Nat.le_of_ble_eq_true rfl, Nat.le_of_ble_eq_true rfl⟩ hK hT hP hD hS hA [3, 4] rfl rfl 3 2 rfl rfl rfl (fun _ => rfl) rfl hl.1 rfl (Nat.le_of_ble_eq_true rfl) dX0_borderThatGrows_33 ⟨Nat.zero_le _, Nat.zero_le _⟩ (fun r_5 u_5 H locs hw_5 hP hD hS => ?_)
            have hw_5 : (0 ≤ (en2 - 1) ∧ (en2 - 1) < nw ∧ r_5 = Fw (en2 - 1).toNat) ∨ (¬ (0 ≤ (en2 - 1) ∧ (en2 - 1) < nw) ∧ r_5 = iI (-1)) := hw_5
            have hP : va_P D vwCl [(n0, .inr (0, [.ref b0, .ref k0, .int (iI en)])), (b0, .inl (cy 0, 17, .inl (zI B))), (k0, .inl (cy 0, 17, .inl (zI K2))), (wi, .inr (2, [.ref vi, .int (iI nw)])), (vi, .inl (cy 0, 16, .inl Fw))] H := hP
            have hD : va_D A [(n0, .inr (0, [.ref b0, .ref k0, .int (iI en)])), (b0, .inl (cy 0, 17, .inl (zI B))), (k0, .inl (cy 0, 17, .inl (zI K2))), (wi, .inr (2, [.ref vi, .int (iI nw)])), (vi, .inl (cy 0, 16, .inl Fw))] := hD
            rcases hw_5 with ⟨h_5, g_5, rfl⟩ | ⟨h_5, rfl⟩
            · --
              refine lv_aload_n hx hb dX0_borderThatGrows_36 rfl (lv_at hl 3 rfl) ?_
              refine lv_iload hx hb dX0_borderThatGrows_37 (lv_at hl 1 rfl) ?_
              refine lv_iconst (v := iI 1) hx hb dX0_borderThatGrows_39 rfl ?_
              refine z_sub hx hb dX0_borderThatGrows_40 ?_
              refine z_cVi (n := 1) (b := wi) (As := [.int (iI (b - 1))]) (rest := [.int (Fw (en2 - 1).toNat)]) ⟨hx, hb, hml, hown, hts⟩ (c_X2_at l D cy wi vi 16 nw Fw (b - 1) (by omega) (by omega)) gX0_borderThatGrows_X2_at rfl (by decide +kernel) ⟨Nat.le_of_ble_eq_true rfl, Nat.le_of_ble_eq_true rfl⟩ hK hT hP hD hS hA [3, 4] rfl rfl 3 2 rfl rfl rfl (fun _ => rfl) rfl hl.1 rfl (Nat.le_of_ble_eq_true rfl) dX0_borderThatGrows_41 ⟨Nat.zero_le _, Nat.zero_le _⟩ (fun r_6 u_6 H locs hw_6 hP hD hS => ?_)
              have hw_6 : (0 ≤ (b - 1) ∧ (b - 1) < nw ∧ r_6 = Fw (b - 1).toNat) ∨ (¬ (0 ≤ (b - 1) ∧ (b - 1) < nw) ∧ r_6 = iI (-1)) := hw_6
              have hP : va_P D vwCl [(n0, .inr (0, [.ref b0, .ref k0, .int (iI en)])), (b0, .inl (cy 0, 17, .inl (zI B))), (k0, .inl (cy 0, 17, .inl (zI K2))), (wi, .inr (2, [.ref vi, .int (iI nw)])), (vi, .inl (cy 0, 16, .inl Fw))] H := hP
              have hD : va_D A [(n0, .inr (0, [.ref b0, .ref k0, .int (iI en)])), (b0, .inl (cy 0, 17, .inl (zI B))), (k0, .inl (cy 0, 17, .inl (zI K2))), (wi, .inr (2, [.ref vi, .int (iI nw)])), (vi, .inl (cy 0, 16, .inl Fw))] := hD
              rcases hw_6 with ⟨h_6, g_6, rfl⟩ | ⟨h_6, rfl⟩
              · --
                refine lv_icmp_ne (tgt := 50) hx hb dX0_borderThatGrows_44 (by decide) (fun c7 => ?_) (fun c7 => ?_)
                · --
                  refine lv_aload_n hx hb dX0_borderThatGrows_50 rfl (lv_at hl 2 rfl) ?_
                  refine va_get (D := D) (ci := 0) (v := .ref k0) (C := RX0) (T := TX0) (N := 3) hx hb hts hiX0 hown hK hP 0 rfl rfl 1 (by decide) (hts (.fieldLink RX0 15 "BackwardSearch$Ends" "skipOf" "[I") (by decide +kernel)) (fun _ h9 => h9) rfl dX0_borderThatGrows_51 ?_
                  refine lv_iload hx hb dX0_borderThatGrows_54 (lv_at hl 1 rfl) ?_
                  refine z_iald hx hb hK hP 2 rfl (by omega) (by omega) (by omega) dX0_borderThatGrows_56 ?_
                  refine z_if_ne (tgt := 71) hx hb (iI_t (by omega) (by omega)) dX0_borderThatGrows_57 (by decide) (fun c8 => ?_) (fun c8 => ?_)
                  · --
                    refine lv_aload_n hx hb dX0_borderThatGrows_71 rfl (lv_at hl 2 rfl) ?_
                    refine va_get (D := D) (ci := 0) (v := .ref b0) (C := RX0) (T := TX0) (N := 3) hx hb hts hiX0 hown hK hP 0 rfl rfl 0 (by decide) (hts (.fieldLink RX0 9 "BackwardSearch$Ends" "borderOf" "[I") (by decide +kernel)) (fun _ h9 => h9) rfl dX0_borderThatGrows_72 ?_
                    refine lv_iload hx hb dX0_borderThatGrows_75 (lv_at hl 1 rfl) ?_
                    refine z_iald hx hb hK hP 1 rfl (by omega) (by omega) (by omega) dX0_borderThatGrows_77 ?_
                    refine lv_istore (lv' := [(4, .int (iI (B b.toNat))), (5, .int (iI t)), (0, .ref n0), (1, .ref wi), (2, .int (iI en2)), (3, .int (iI x))]) hx hb dX0_borderThatGrows_78 hl (by decide) rfl (fun ls hl => ?_)
                    refine z_iinc (lv' := [(5, .int (iI (t + 1))), (4, .int (iI (B b.toNat))), (0, .ref n0), (1, .ref wi), (2, .int (iI en2)), (3, .int (iI x))]) hx hb dX0_borderThatGrows_80 hl (k := 1) rfl (by decide) rfl (fun ls hl => ?_)
                    refine lv_goto (tgt := 6) hx hb dX0_borderThatGrows_83 (by decide) ?_
                    have hbx := hB b.toNat (by omega) (by omega)
                    exact ih1 (t + 1) (B b.toNat) K2 (by omega) (by omega) (by first | exact hk2 | exact updZ_rng hk2 (by omega)) (grow_step (by omega) (by omega) (by omega) (by assumption) hg (by first | rw [if_pos (by assumption)] | rw [if_neg (by assumption)])) (by omega) _ _ _ hP hD hS (lv_sub hl [0, 1, 2, 3, 4, 5] rfl)
                  · --
                    refine lv_aload_n hx hb dX0_borderThatGrows_60 rfl (lv_at hl 2 rfl) ?_
                    refine va_get (D := D) (ci := 0) (v := .ref k0) (C := RX0) (T := TX0) (N := 3) hx hb hts hiX0 hown hK hP 0 rfl rfl 1 (by decide) (hts (.fieldLink RX0 15 "BackwardSearch$Ends" "skipOf" "[I") (by decide +kernel)) (fun _ h9 => h9) rfl dX0_borderThatGrows_61 ?_
                    refine lv_iload hx hb dX0_borderThatGrows_64 (lv_at hl 1 rfl) ?_
                    refine lv_iload hx hb dX0_borderThatGrows_66 (lv_at hl 1 rfl) ?_
                    refine lv_iload_n hx hb dX0_borderThatGrows_68 rfl (lv_at hl 4 rfl) ?_
                    refine z_sub hx hb dX0_borderThatGrows_69 ?_
                    refine z_iast hx hb hK hP hD hS 2 rfl (by omega) (by omega) (by omega) dX0_borderThatGrows_70 (fun H locs hP hD hS => ?_)
                    rw [zI_upd] at hP hD
                    have hP : va_P D vwCl [(n0, .inr (0, [.ref b0, .ref k0, .int (iI en)])), (b0, .inl (cy 0, 17, .inl (zI B))), (k0, .inl (cy 0, 17, .inl (zI (updZ K2 b.toNat (b - en2))))), (wi, .inr (2, [.ref vi, .int (iI nw)])), (vi, .inl (cy 0, 16, .inl Fw))] H := hP
                    have hD : va_D A [(n0, .inr (0, [.ref b0, .ref k0, .int (iI en)])), (b0, .inl (cy 0, 17, .inl (zI B))), (k0, .inl (cy 0, 17, .inl (zI (updZ K2 b.toNat (b - en2))))), (wi, .inr (2, [.ref vi, .int (iI nw)])), (vi, .inl (cy 0, 16, .inl Fw))] := hD
                    refine lv_aload_n hx hb dX0_borderThatGrows_71 rfl (lv_at hl 2 rfl) ?_
                    refine va_get (D := D) (ci := 0) (v := .ref b0) (C := RX0) (T := TX0) (N := 3) hx hb hts hiX0 hown hK hP 0 rfl rfl 0 (by decide) (hts (.fieldLink RX0 9 "BackwardSearch$Ends" "borderOf" "[I") (by decide +kernel)) (fun _ h9 => h9) rfl dX0_borderThatGrows_72 ?_
                    refine lv_iload hx hb dX0_borderThatGrows_75 (lv_at hl 1 rfl) ?_
                    refine z_iald hx hb hK hP 1 rfl (by omega) (by omega) (by omega) dX0_borderThatGrows_77 ?_
                    refine lv_istore (lv' := [(4, .int (iI (B b.toNat))), (5, .int (iI t)), (0, .ref n0), (1, .ref wi), (2, .int (iI en2)), (3, .int (iI x))]) hx hb dX0_borderThatGrows_78 hl (by decide) rfl (fun ls hl => ?_)
                    refine z_iinc (lv' := [(5, .int (iI (t + 1))), (4, .int (iI (B b.toNat))), (0, .ref n0), (1, .ref wi), (2, .int (iI en2)), (3, .int (iI x))]) hx hb dX0_borderThatGrows_80 hl (k := 1) rfl (by decide) rfl (fun ls hl => ?_)
                    refine lv_goto (tgt := 6) hx hb dX0_borderThatGrows_83 (by decide) ?_
                    have hbx := hB b.toNat (by omega) (by omega)
                    exact ih1 (t + 1) (B b.toNat) (updZ K2 b.toNat (b - en2)) (by omega) (by omega) (by first | exact hk2 | exact updZ_rng hk2 (by omega)) (grow_step (by omega) (by omega) (by omega) (by assumption) hg (by first | rw [if_pos (by assumption)] | rw [if_neg (by assumption)])) (by omega) _ _ _ hP hD hS (lv_sub hl [0, 1, 2, 3, 4, 5] rfl)
                · --
                  refine lv_iload hx hb dX0_borderThatGrows_47 (lv_at hl 1 rfl) ?_
                  exact z_iret hx hb hr hlocks hS (K2) (show (iI b) = iI (growF en Fw B en2 (en + 1).toNat x Kf).1 ∧ K2 = (growF en Fw B en2 (en + 1).toNat x Kf).2 from (by
                        have hz : (growF en Fw B en2 (en + 1 - t).toNat b K2) = (b, K2) := growF_stop (by first | exact Or.inl (by omega) | exact Or.inr (Or.inl (by omega)) | exact Or.inr (Or.inr (by assumption))) _
                        rw [hz] at hg
                        rw [← hg]
                        exact ⟨rfl, rfl⟩)) hP dX0_borderThatGrows_49
              · --
                exfalso; omega
            · --
              exfalso; omega
  exact hloop1 (Int.toNat (en + 1 - 0) + 1) 0 x Kf (by omega) (by omega) (hk) (by rw [show en + 1 - 0 = en + 1 by omega]) (by omega) _ _ _ hP hD hS (lv_sub hl [0, 1, 2, 3, 4, 5] rfl)
set_option maxHeartbeats 4000000 in
set_option maxRecDepth 100000 in
theorem c_X0_findBorders (l : Launch) (D : va_G) (cy : Nat → ClassId) (n0 : Nat) (b0 : Nat) (k0 : Nat) (B : Nat → Int) (Kf : Nat → Int) (wi : Nat) (vi : Nat) (nw : Int) (Fw : Nat → Int32) (hb : 0 ≤ nw ∧ nw ≤ 16) (hk : ∀ j : Nat, 0 ≤ Kf j ∧ Kf j ≤ 17) : Cv l D cy yX0_findBorders wsX0_findBorders 3 67 [.ref n0, .ref wi] [(n0, .inr (0, [.ref b0, .ref k0, .int (iI nw)])), (b0, .inl (cy 0, 17, .inl (zI B))), (k0, .inl (cy 0, 17, .inl (zI Kf))), (wi, .inr (2, [.ref vi, .int (iI nw)])), (vi, .inl (cy 0, 16, .inl Fw))] (fun (u : (Nat → Int) × (Nat → Int)) => u.1 = (findF nw.toNat Fw nw.toNat (nw + 1) (updZ B nw.toNat (nw + 1)) Kf).1 ∧ u.2 = (findF nw.toNat Fw nw.toNat (nw + 1) (updZ B nw.toNat (nw + 1)) Kf).2) (fun u : (Nat → Int) × (Nat → Int) => [(n0, .inr (0, [.ref b0, .ref k0, .int (iI nw)])), (b0, .inl (cy 0, 17, .inl (zI u.1))), (k0, .inl (cy 0, 17, .inl (zI u.2))), (wi, .inr (2, [.ref vi, .int (iI nw)])), (vi, .inl (cy 0, 16, .inl Fw))]) := by
  refine Cv_of (cc := cX0_findBorders) (maxL := 4) (ret := none) (by decide) rfl rfl ?_
  intro p e s m args below meth c A hx hb hr hts hown hlocks hml hP hK hD hT hA ls hl
  have hS : va_S A s.heap s.heap [] := va_S.rf
  have hl : lv_has ls 4 [(0, .ref n0), (1, .ref wi)] := hl
  have hiX0 : ∀ w ∈ wsX00, w ∈ wsX0_findBorders := by decide +kernel
  refine lv_aload_n hx hb dX0_findBorders_0 rfl (lv_at hl 0 rfl) ?_
  refine va_get (D := D) (ci := 0) (v := .int (iI nw)) (C := RX0) (T := TX0) (N := 3) hx hb hts hiX0 hown hK hP 0 rfl rfl 2 (by decide) (hts (.fieldLink RX0 30 "BackwardSearch$Ends" "length" "I") (by decide +kernel)) (fun _ h9 => h9) rfl dX0_findBorders_1 ?_
  refine lv_iconst (v := iI 1) hx hb dX0_findBorders_4 rfl ?_
  refine z_add hx hb dX0_findBorders_5 ?_
  refine lv_istore_n (lv' := [(2, .int (iI (nw + 1))), (0, .ref n0), (1, .ref wi)]) hx hb dX0_findBorders_6 rfl hl (by decide) rfl (fun ls hl => ?_)
  refine lv_aload_n hx hb dX0_findBorders_7 rfl (lv_at hl 1 rfl) ?_
  refine va_get (D := D) (ci := 0) (v := .ref b0) (C := RX0) (T := TX0) (N := 3) hx hb hts hiX0 hown hK hP 0 rfl rfl 0 (by decide) (hts (.fieldLink RX0 9 "BackwardSearch$Ends" "borderOf" "[I") (by decide +kernel)) (fun _ h9 => h9) rfl dX0_findBorders_8 ?_
  refine lv_aload_n hx hb dX0_findBorders_11 rfl (lv_at hl 1 rfl) ?_
  refine va_get (D := D) (ci := 0) (v := .int (iI nw)) (C := RX0) (T := TX0) (N := 3) hx hb hts hiX0 hown hK hP 0 rfl rfl 2 (by decide) (hts (.fieldLink RX0 30 "BackwardSearch$Ends" "length" "I") (by decide +kernel)) (fun _ h9 => h9) rfl dX0_findBorders_12 ?_
  refine lv_iload_n hx hb dX0_findBorders_15 rfl (lv_at hl 0 rfl) ?_
  refine z_iast hx hb hK hP hD hS 1 rfl (by omega) (by omega) (by omega) dX0_findBorders_16 (fun H locs hP hD hS => ?_)
  rw [zI_upd] at hP hD
  have hP : va_P D vwCl [(n0, .inr (0, [.ref b0, .ref k0, .int (iI nw)])), (b0, .inl (cy 0, 17, .inl (zI (updZ B nw.toNat (nw + 1))))), (k0, .inl (cy 0, 17, .inl (zI Kf))), (wi, .inr (2, [.ref vi, .int (iI nw)])), (vi, .inl (cy 0, 16, .inl Fw))] H := hP
  have hD : va_D A [(n0, .inr (0, [.ref b0, .ref k0, .int (iI nw)])), (b0, .inl (cy 0, 17, .inl (zI (updZ B nw.toNat (nw + 1))))), (k0, .inl (cy 0, 17, .inl (zI Kf))), (wi, .inr (2, [.ref vi, .int (iI nw)])), (vi, .inl (cy 0, 16, .inl Fw))] := hD
  refine lv_aload_n hx hb dX0_findBorders_17 rfl (lv_at hl 1 rfl) ?_
  refine va_get (D := D) (ci := 0) (v := .int (iI nw)) (C := RX0) (T := TX0) (N := 3) hx hb hts hiX0 hown hK hP 0 rfl rfl 2 (by decide) (hts (.fieldLink RX0 30 "BackwardSearch$Ends" "length" "I") (by decide +kernel)) (fun _ h9 => h9) rfl dX0_findBorders_18 ?_
  refine lv_istore_n (lv' := [(3, .int (iI nw)), (2, .int (iI (nw + 1))), (0, .ref n0), (1, .ref wi)]) hx hb dX0_findBorders_21 rfl hl (by decide) rfl (fun ls hl => ?_)
  have hloop1 : ∀ (n1 : Nat) (e2 : Int) (b : Int) (B2 : Nat → Int) (K2 : Nat → Int) (he : 0 ≤ e2 ∧ e2 ≤ nw) (hbb : e2 + 1 ≤ b ∧ b ≤ nw + 1) (hB2 : ∀ j : Nat, e2 ≤ j → (j : Int) ≤ nw → (j : Int) + 1 ≤ B2 j ∧ B2 j ≤ nw + 1) (hk2 : ∀ j : Nat, 0 ≤ K2 j ∧ K2 j ≤ 17) (hg : findF nw.toNat Fw e2.toNat b B2 K2 = (findF nw.toNat Fw nw.toNat (nw + 1) (updZ B nw.toNat (nw + 1)) Kf)) (hm : e2 < (n1 : Int)) (H : Heap) (locs : List Loc) (ls : Array Slot) (hP : va_P D vwCl [(n0, .inr (0, [.ref b0, .ref k0, .int (iI nw)])), (b0, .inl (cy 0, 17, .inl (zI B2))), (k0, .inl (cy 0, 17, .inl (zI K2))), (wi, .inr (2, [.ref vi, .int (iI nw)])), (vi, .inl (cy 0, 16, .inl Fw))] H) (hD : va_D A [(n0, .inr (0, [.ref b0, .ref k0, .int (iI nw)])), (b0, .inl (cy 0, 17, .inl (zI B2))), (k0, .inl (cy 0, 17, .inl (zI K2))), (wi, .inr (2, [.ref vi, .int (iI nw)])), (vi, .inl (cy 0, 16, .inl Fw))]) (hS : va_S A s.heap H locs) (hl : lv_has ls 4 [(3, .int (iI e2)), (2, .int (iI b)), (0, .ref n0), (1, .ref wi)]), W p l e ({ frames := 3, cells := 0, slots := 0, locals := 67 } : Room) s m args below meth c H locs 0 0 (MQ below (va_Qv (fun (u : (Nat → Int) × (Nat → Int)) => u.1 = (findF nw.toNat Fw nw.toNat (nw + 1) (updZ B nw.toNat (nw + 1)) Kf).1 ∧ u.2 = (findF nw.toNat Fw nw.toNat (nw + 1) (updZ B nw.toNat (nw + 1)) Kf).2) (fun u t => va_P D vwCl ((fun u : (Nat → Int) × (Nat → Int) => [(n0, .inr (0, [.ref b0, .ref k0, .int (iI nw)])), (b0, .inl (cy 0, 17, .inl (zI u.1))), (k0, .inl (cy 0, 17, .inl (zI u.2))), (wi, .inr (2, [.ref vi, .int (iI nw)])), (vi, .inl (cy 0, 16, .inl Fw))]) u) t.heap) A) args s 0 0 A) (F0 m 22 ls []) := by
    intro n1
    induction n1 with
    | zero =>
      intro e2 b B2 K2 he hbb hB2 hk2 hg hm; exact absurd hm (by omega)
    | succ n1 ih1 =>
      intro e2 b B2 K2 he hbb hB2 hk2 hg hm H locs ls hP hD hS hl
      refine lv_iload_n hx hb dX0_findBorders_22 rfl (lv_at hl 0 rfl) ?_
      refine z_if_le (tgt := 51) hx hb (iI_t (by omega) (by omega)) dX0_findBorders_23 (by decide) (fun c2 => ?_) (fun c2 => ?_)
      · --
        exact z_vret hx hb hr hlocks hS (B2, K2) (show B2 = (findF nw.toNat Fw nw.toNat (nw + 1) (updZ B nw.toNat (nw + 1)) Kf).1 ∧ K2 = (findF nw.toNat Fw nw.toNat (nw + 1) (updZ B nw.toNat (nw + 1)) Kf).2 from (by
              have hz : e2.toNat = 0 := by omega
              rw [hz] at hg
              rw [← hg]
              exact ⟨rfl, rfl⟩)) hP dX0_findBorders_51
      · --
        have hgr := growF_rng (m := nw) (W := Fw) (B := B2) (e := e2) hB2 (by omega) (nw + 1).toNat b K2 (by omega) (by omega) hk2
        refine lv_aload_n hx hb dX0_findBorders_26 rfl (lv_at hl 2 rfl) ?_
        refine lv_aload_n hx hb dX0_findBorders_27 rfl (lv_at hl 3 rfl) ?_
        refine lv_iload_n hx hb dX0_findBorders_28 rfl (lv_at hl 0 rfl) ?_
        refine lv_iload_n hx hb dX0_findBorders_29 rfl (lv_at hl 1 rfl) ?_
        refine z_cVi (n := 3) (b := n0) (As := [.ref wi, .int (iI e2), .int (iI b)]) (rest := []) ⟨hx, hb, hml, hown, hts⟩ (c_X0_borderThatGrows l D cy n0 b0 k0 nw B2 K2 wi vi nw Fw e2 b (by omega) (hB2) (hk2)) gX0_findBorders_X0_borderThatGrows rfl (by decide +kernel) ⟨Nat.le_of_ble_eq_true rfl, Nat.le_of_ble_eq_true rfl⟩ hK hT hP hD hS hA [0, 1, 2, 3, 4] rfl rfl 0 0 rfl rfl rfl (fun _ => rfl) rfl hl.1 rfl (Nat.le_of_ble_eq_true rfl) dX0_findBorders_30 ⟨Nat.zero_le _, Nat.zero_le _⟩ (fun r_3 u_3 H locs hw_3 hP hD hS => ?_)
        obtain ⟨K1_3, rfl⟩ : ∃ z, z = u_3 := ⟨_, rfl⟩
        have hw_3 : r_3 = iI (growF nw Fw B2 e2 (nw + 1).toNat b K2).1 ∧ K1_3 = (growF nw Fw B2 e2 (nw + 1).toNat b K2).2 := hw_3
        have hP : va_P D vwCl [(n0, .inr (0, [.ref b0, .ref k0, .int (iI nw)])), (b0, .inl (cy 0, 17, .inl (zI B2))), (k0, .inl (cy 0, 17, .inl (zI K1_3))), (wi, .inr (2, [.ref vi, .int (iI nw)])), (vi, .inl (cy 0, 16, .inl Fw))] H := hP
        have hD : va_D A [(n0, .inr (0, [.ref b0, .ref k0, .int (iI nw)])), (b0, .inl (cy 0, 17, .inl (zI B2))), (k0, .inl (cy 0, 17, .inl (zI K1_3))), (wi, .inr (2, [.ref vi, .int (iI nw)])), (vi, .inl (cy 0, 16, .inl Fw))] := hD
        obtain ⟨rfl, rfl⟩ := hw_3
        refine lv_iconst (v := iI 1) hx hb dX0_findBorders_33 rfl ?_
        refine z_sub hx hb dX0_findBorders_34 ?_
        refine lv_istore_n (lv' := [(2, .int (iI (((growF nw Fw B2 e2 (nw + 1).toNat b K2).1) - 1))), (3, .int (iI e2)), (0, .ref n0), (1, .ref wi)]) hx hb dX0_findBorders_35 rfl hl (by decide) rfl (fun ls hl => ?_)
        refine lv_aload_n hx hb dX0_findBorders_36 rfl (lv_at hl 2 rfl) ?_
        refine va_get (D := D) (ci := 0) (v := .ref b0) (C := RX0) (T := TX0) (N := 3) hx hb hts hiX0 hown hK hP 0 rfl rfl 0 (by decide) (hts (.fieldLink RX0 9 "BackwardSearch$Ends" "borderOf" "[I") (by decide +kernel)) (fun _ h9 => h9) rfl dX0_findBorders_37 ?_
        refine lv_iload_n hx hb dX0_findBorders_40 rfl (lv_at hl 1 rfl) ?_
        refine lv_iconst (v := iI 1) hx hb dX0_findBorders_41 rfl ?_
        refine z_sub hx hb dX0_findBorders_42 ?_
        refine lv_iload_n hx hb dX0_findBorders_43 rfl (lv_at hl 0 rfl) ?_
        refine z_iast hx hb hK hP hD hS 1 rfl (by omega) (by omega) (by omega) dX0_findBorders_44 (fun H locs hP hD hS => ?_)
        rw [zI_upd] at hP hD
        have hP : va_P D vwCl [(n0, .inr (0, [.ref b0, .ref k0, .int (iI nw)])), (b0, .inl (cy 0, 17, .inl (zI (updZ B2 ((e2 - 1).toNat) (((growF nw Fw B2 e2 (nw + 1).toNat b K2).1) - 1))))), (k0, .inl (cy 0, 17, .inl (zI (growF nw Fw B2 e2 (nw + 1).toNat b K2).2))), (wi, .inr (2, [.ref vi, .int (iI nw)])), (vi, .inl (cy 0, 16, .inl Fw))] H := hP
        have hD : va_D A [(n0, .inr (0, [.ref b0, .ref k0, .int (iI nw)])), (b0, .inl (cy 0, 17, .inl (zI (updZ B2 ((e2 - 1).toNat) (((growF nw Fw B2 e2 (nw + 1).toNat b K2).1) - 1))))), (k0, .inl (cy 0, 17, .inl (zI (growF nw Fw B2 e2 (nw + 1).toNat b K2).2))), (wi, .inr (2, [.ref vi, .int (iI nw)])), (vi, .inl (cy 0, 16, .inl Fw))] := hD
        refine z_iinc (lv' := [(3, .int (iI (e2 + (-1)))), (2, .int (iI (((growF nw Fw B2 e2 (nw + 1).toNat b K2).1) - 1))), (0, .ref n0), (1, .ref wi)]) hx hb dX0_findBorders_45 hl (k := 1) rfl (by decide) rfl (fun ls hl => ?_)
        refine lv_goto (tgt := 22) hx hb dX0_findBorders_48 (by decide) ?_
        exact ih1 (e2 + (-1)) (((growF nw Fw B2 e2 (nw + 1).toNat b K2).1) - 1) (updZ B2 ((e2 - 1).toNat) (((growF nw Fw B2 e2 (nw + 1).toNat b K2).1) - 1)) ((growF nw Fw B2 e2 (nw + 1).toNat b K2).2) (by omega) (by omega) (find_rngB (by omega) hB2 hgr.1) (hgr.2) (find_step (by omega) (by omega) hg) (by omega) _ _ _ hP hD hS (lv_sub hl [0, 1, 2, 3] rfl)
  exact hloop1 (Int.toNat (nw) + 1) nw (nw + 1) (updZ B nw.toNat (nw + 1)) Kf (by omega) (by omega) (fun j h1 h2 => by rw [show j = nw.toNat by omega, updZ_same]; omega) (hk) (rfl) (by omega) _ _ _ hP hD hS (lv_sub hl [0, 1, 2, 3] rfl)
set_option maxHeartbeats 4000000 in
set_option maxRecDepth 100000 in
theorem c_X0_skipToBordersOfTheWord (l : Launch) (D : va_G) (cy : Nat → ClassId) (n0 : Nat) (b0 : Nat) (k0 : Nat) (en : Int) (B : Nat → Int) (Kf : Nat → Int) (hb : 0 ≤ en ∧ en ≤ 16) (hB : ∀ j : Nat, (j : Int) ≤ en → 0 ≤ B j ∧ B j ≤ 17) (hk : ∀ j : Nat, 0 ≤ Kf j ∧ Kf j ≤ 17) : Cv l D cy yX0_skipToBordersOfTheWord wsX0_skipToBordersOfTheWord 0 0 [.ref n0] [(n0, .inr (0, [.ref b0, .ref k0, .int (iI en)])), (b0, .inl (cy 0, 17, .inl (zI B))), (k0, .inl (cy 0, 17, .inl (zI Kf)))] (fun (u : (Nat → Int)) => u = (tailF B (en + 1).toNat 0 (B 0) Kf)) (fun u : (Nat → Int) => [(n0, .inr (0, [.ref b0, .ref k0, .int (iI en)])), (b0, .inl (cy 0, 17, .inl (zI B))), (k0, .inl (cy 0, 17, .inl (zI u)))]) := by
  refine Cv_of (cc := cX0_skipToBordersOfTheWord) (maxL := 3) (ret := none) (by decide) rfl rfl ?_
  intro p e s m args below meth c A hx hb hr hts hown hlocks hml hP hK hD hT hA ls hl
  have hS : va_S A s.heap s.heap [] := va_S.rf
  have hl : lv_has ls 3 [(0, .ref n0)] := hl
  have hiX0 : ∀ w ∈ wsX00, w ∈ wsX0_skipToBordersOfTheWord := by decide +kernel
  refine lv_aload_n hx hb dX0_skipToBordersOfTheWord_0 rfl (lv_at hl 0 rfl) ?_
  refine va_get (D := D) (ci := 0) (v := .ref b0) (C := RX0) (T := TX0) (N := 3) hx hb hts hiX0 hown hK hP 0 rfl rfl 0 (by decide) (hts (.fieldLink RX0 9 "BackwardSearch$Ends" "borderOf" "[I") (by decide +kernel)) (fun _ h9 => h9) rfl dX0_skipToBordersOfTheWord_1 ?_
  refine lv_iconst (v := iI 0) hx hb dX0_skipToBordersOfTheWord_4 rfl ?_
  refine z_iald hx hb hK hP 1 rfl (by omega) (by omega) (by omega) dX0_skipToBordersOfTheWord_5 ?_
  refine lv_istore_n (lv' := [(1, .int (iI (B (0 : Int).toNat))), (0, .ref n0)]) hx hb dX0_skipToBordersOfTheWord_6 rfl hl (by decide) rfl (fun ls hl => ?_)
  refine lv_iconst (v := iI 0) hx hb dX0_skipToBordersOfTheWord_7 rfl ?_
  refine lv_istore_n (lv' := [(2, .int (iI 0)), (1, .int (iI (B (0 : Int).toNat))), (0, .ref n0)]) hx hb dX0_skipToBordersOfTheWord_8 rfl hl (by decide) rfl (fun ls hl => ?_)
  have hloop1 : ∀ (n1 : Nat) (e2 : Int) (b : Int) (K2 : Nat → Int) (he : 0 ≤ e2 ∧ e2 ≤ en + 1) (hbb : 0 ≤ b ∧ b ≤ 17) (hk2 : ∀ j : Nat, 0 ≤ K2 j ∧ K2 j ≤ 17) (hg : tailF B (en + 1 - e2).toNat e2.toNat b K2 = (tailF B (en + 1).toNat 0 (B 0) Kf)) (hm : en + 1 - e2 < (n1 : Int)) (H : Heap) (locs : List Loc) (ls : Array Slot) (hP : va_P D vwCl [(n0, .inr (0, [.ref b0, .ref k0, .int (iI en)])), (b0, .inl (cy 0, 17, .inl (zI B))), (k0, .inl (cy 0, 17, .inl (zI K2)))] H) (hD : va_D A [(n0, .inr (0, [.ref b0, .ref k0, .int (iI en)])), (b0, .inl (cy 0, 17, .inl (zI B))), (k0, .inl (cy 0, 17, .inl (zI K2)))]) (hS : va_S A s.heap H locs) (hl : lv_has ls 3 [(2, .int (iI e2)), (1, .int (iI b)), (0, .ref n0)]), W p l e ({ frames := 0, cells := 0, slots := 0, locals := 0 } : Room) s m args below meth c H locs 0 0 (MQ below (va_Qv (fun (u : (Nat → Int)) => u = (tailF B (en + 1).toNat 0 (B 0) Kf)) (fun u t => va_P D vwCl ((fun u : (Nat → Int) => [(n0, .inr (0, [.ref b0, .ref k0, .int (iI en)])), (b0, .inl (cy 0, 17, .inl (zI B))), (k0, .inl (cy 0, 17, .inl (zI u)))]) u) t.heap) A) args s 0 0 A) (F0 m 9 ls []) := by
    intro n1
    induction n1 with
    | zero =>
      intro e2 b K2 he hbb hk2 hg hm; exact absurd hm (by omega)
    | succ n1 ih1 =>
      intro e2 b K2 he hbb hk2 hg hm H locs ls hP hD hS hl
      have hke := hk2 e2.toNat
      refine lv_iload_n hx hb dX0_skipToBordersOfTheWord_9 rfl (lv_at hl 0 rfl) ?_
      refine lv_aload_n hx hb dX0_skipToBordersOfTheWord_10 rfl (lv_at hl 2 rfl) ?_
      refine va_get (D := D) (ci := 0) (v := .int (iI en)) (C := RX0) (T := TX0) (N := 3) hx hb hts hiX0 hown hK hP 0 rfl rfl 2 (by decide) (hts (.fieldLink RX0 30 "BackwardSearch$Ends" "length" "I") (by decide +kernel)) (fun _ h9 => h9) rfl dX0_skipToBordersOfTheWord_11 ?_
      refine z_icmp_gt (tgt := 51) hx hb (iI_t (by omega) (by omega)) (iI_t (by omega) (by omega)) dX0_skipToBordersOfTheWord_14 (by decide) (fun c2 => ?_) (fun c2 => ?_)
      · --
        exact z_vret hx hb hr hlocks hS (K2) (show K2 = (tailF B (en + 1).toNat 0 (B 0) Kf) from (by
              have hz : (en + 1 - e2).toNat = 0 := by omega
              rw [hz] at hg
              exact hg)) hP dX0_skipToBordersOfTheWord_51
      · --
        refine lv_aload_n hx hb dX0_skipToBordersOfTheWord_17 rfl (lv_at hl 2 rfl) ?_
        refine va_get (D := D) (ci := 0) (v := .ref k0) (C := RX0) (T := TX0) (N := 3) hx hb hts hiX0 hown hK hP 0 rfl rfl 1 (by decide) (hts (.fieldLink RX0 15 "BackwardSearch$Ends" "skipOf" "[I") (by decide +kernel)) (fun _ h9 => h9) rfl dX0_skipToBordersOfTheWord_18 ?_
        refine lv_iload_n hx hb dX0_skipToBordersOfTheWord_21 rfl (lv_at hl 0 rfl) ?_
        refine z_iald hx hb hK hP 2 rfl (by omega) (by omega) (by omega) dX0_skipToBordersOfTheWord_22 ?_
        refine z_if_ne (tgt := 33) hx hb (iI_t (by omega) (by omega)) dX0_skipToBordersOfTheWord_23 (by decide) (fun c3 => ?_) (fun c3 => ?_)
        · --
          refine lv_iload_n hx hb dX0_skipToBordersOfTheWord_33 rfl (lv_at hl 0 rfl) ?_
          refine lv_iload_n hx hb dX0_skipToBordersOfTheWord_34 rfl (lv_at hl 1 rfl) ?_
          refine z_icmp_ne (tgt := 45) hx hb (iI_t (by omega) (by omega)) (iI_t (by omega) (by omega)) dX0_skipToBordersOfTheWord_35 (by decide) (fun c4 => ?_) (fun c4 => ?_)
          · --
            refine z_iinc (lv' := [(2, .int (iI (e2 + 1))), (1, .int (iI b)), (0, .ref n0)]) hx hb dX0_skipToBordersOfTheWord_45 hl (k := 0) rfl (by decide) rfl (fun ls hl => ?_)
            refine lv_goto (tgt := 9) hx hb dX0_skipToBordersOfTheWord_48 (by decide) ?_
            have hBe := hB e2.toNat (by omega)
            exact ih1 (e2 + 1) b K2 (by omega) (by omega) (by first | exact hk2 | exact updZ_rng hk2 (by omega)) (tail_step (by omega) (by omega) hg (by first | exact if_pos (by assumption) | exact if_neg (by assumption)) (by first | exact if_pos (by assumption) | exact if_neg (by assumption))) (by omega) _ _ _ hP hD hS (lv_sub hl [0, 1, 2] rfl)
          · --
            refine lv_aload_n hx hb dX0_skipToBordersOfTheWord_38 rfl (lv_at hl 2 rfl) ?_
            refine va_get (D := D) (ci := 0) (v := .ref b0) (C := RX0) (T := TX0) (N := 3) hx hb hts hiX0 hown hK hP 0 rfl rfl 0 (by decide) (hts (.fieldLink RX0 9 "BackwardSearch$Ends" "borderOf" "[I") (by decide +kernel)) (fun _ h9 => h9) rfl dX0_skipToBordersOfTheWord_39 ?_
            refine lv_iload_n hx hb dX0_skipToBordersOfTheWord_42 rfl (lv_at hl 0 rfl) ?_
            refine z_iald hx hb hK hP 1 rfl (by omega) (by omega) (by omega) dX0_skipToBordersOfTheWord_43 ?_
            refine lv_istore_n (lv' := [(1, .int (iI (B e2.toNat))), (2, .int (iI e2)), (0, .ref n0)]) hx hb dX0_skipToBordersOfTheWord_44 rfl hl (by decide) rfl (fun ls hl => ?_)
            refine z_iinc (lv' := [(2, .int (iI (e2 + 1))), (1, .int (iI (B e2.toNat))), (0, .ref n0)]) hx hb dX0_skipToBordersOfTheWord_45 hl (k := 1) rfl (by decide) rfl (fun ls hl => ?_)
            refine lv_goto (tgt := 9) hx hb dX0_skipToBordersOfTheWord_48 (by decide) ?_
            have hBe := hB e2.toNat (by omega)
            exact ih1 (e2 + 1) (B e2.toNat) K2 (by omega) (by omega) (by first | exact hk2 | exact updZ_rng hk2 (by omega)) (tail_step (by omega) (by omega) hg (by first | exact if_pos (by assumption) | exact if_neg (by assumption)) (by first | exact if_pos (by assumption) | exact if_neg (by assumption))) (by omega) _ _ _ hP hD hS (lv_sub hl [0, 1, 2] rfl)
        · --
          refine lv_aload_n hx hb dX0_skipToBordersOfTheWord_26 rfl (lv_at hl 2 rfl) ?_
          refine va_get (D := D) (ci := 0) (v := .ref k0) (C := RX0) (T := TX0) (N := 3) hx hb hts hiX0 hown hK hP 0 rfl rfl 1 (by decide) (hts (.fieldLink RX0 15 "BackwardSearch$Ends" "skipOf" "[I") (by decide +kernel)) (fun _ h9 => h9) rfl dX0_skipToBordersOfTheWord_27 ?_
          refine lv_iload_n hx hb dX0_skipToBordersOfTheWord_30 rfl (lv_at hl 0 rfl) ?_
          refine lv_iload_n hx hb dX0_skipToBordersOfTheWord_31 rfl (lv_at hl 1 rfl) ?_
          refine z_iast hx hb hK hP hD hS 2 rfl (by omega) (by omega) (by omega) dX0_skipToBordersOfTheWord_32 (fun H locs hP hD hS => ?_)
          rw [zI_upd] at hP hD
          have hP : va_P D vwCl [(n0, .inr (0, [.ref b0, .ref k0, .int (iI en)])), (b0, .inl (cy 0, 17, .inl (zI B))), (k0, .inl (cy 0, 17, .inl (zI (updZ K2 e2.toNat b))))] H := hP
          have hD : va_D A [(n0, .inr (0, [.ref b0, .ref k0, .int (iI en)])), (b0, .inl (cy 0, 17, .inl (zI B))), (k0, .inl (cy 0, 17, .inl (zI (updZ K2 e2.toNat b))))] := hD
          refine lv_iload_n hx hb dX0_skipToBordersOfTheWord_33 rfl (lv_at hl 0 rfl) ?_
          refine lv_iload_n hx hb dX0_skipToBordersOfTheWord_34 rfl (lv_at hl 1 rfl) ?_
          refine z_icmp_ne (tgt := 45) hx hb (iI_t (by omega) (by omega)) (iI_t (by omega) (by omega)) dX0_skipToBordersOfTheWord_35 (by decide) (fun c5 => ?_) (fun c5 => ?_)
          · --
            refine z_iinc (lv' := [(2, .int (iI (e2 + 1))), (1, .int (iI b)), (0, .ref n0)]) hx hb dX0_skipToBordersOfTheWord_45 hl (k := 0) rfl (by decide) rfl (fun ls hl => ?_)
            refine lv_goto (tgt := 9) hx hb dX0_skipToBordersOfTheWord_48 (by decide) ?_
            have hBe := hB e2.toNat (by omega)
            exact ih1 (e2 + 1) b (updZ K2 e2.toNat b) (by omega) (by omega) (by first | exact hk2 | exact updZ_rng hk2 (by omega)) (tail_step (by omega) (by omega) hg (by first | exact if_pos (by assumption) | exact if_neg (by assumption)) (by first | exact if_pos (by assumption) | exact if_neg (by assumption))) (by omega) _ _ _ hP hD hS (lv_sub hl [0, 1, 2] rfl)
          · --
            refine lv_aload_n hx hb dX0_skipToBordersOfTheWord_38 rfl (lv_at hl 2 rfl) ?_
            refine va_get (D := D) (ci := 0) (v := .ref b0) (C := RX0) (T := TX0) (N := 3) hx hb hts hiX0 hown hK hP 0 rfl rfl 0 (by decide) (hts (.fieldLink RX0 9 "BackwardSearch$Ends" "borderOf" "[I") (by decide +kernel)) (fun _ h9 => h9) rfl dX0_skipToBordersOfTheWord_39 ?_
            refine lv_iload_n hx hb dX0_skipToBordersOfTheWord_42 rfl (lv_at hl 0 rfl) ?_
            refine z_iald hx hb hK hP 1 rfl (by omega) (by omega) (by omega) dX0_skipToBordersOfTheWord_43 ?_
            refine lv_istore_n (lv' := [(1, .int (iI (B e2.toNat))), (2, .int (iI e2)), (0, .ref n0)]) hx hb dX0_skipToBordersOfTheWord_44 rfl hl (by decide) rfl (fun ls hl => ?_)
            refine z_iinc (lv' := [(2, .int (iI (e2 + 1))), (1, .int (iI (B e2.toNat))), (0, .ref n0)]) hx hb dX0_skipToBordersOfTheWord_45 hl (k := 1) rfl (by decide) rfl (fun ls hl => ?_)
            refine lv_goto (tgt := 9) hx hb dX0_skipToBordersOfTheWord_48 (by decide) ?_
            have hBe := hB e2.toNat (by omega)
            exact ih1 (e2 + 1) (B e2.toNat) (updZ K2 e2.toNat b) (by omega) (by omega) (by first | exact hk2 | exact updZ_rng hk2 (by omega)) (tail_step (by omega) (by omega) hg (by first | exact if_pos (by assumption) | exact if_neg (by assumption)) (by first | exact if_pos (by assumption) | exact if_neg (by assumption))) (by omega) _ _ _ hP hD hS (lv_sub hl [0, 1, 2] rfl)
  exact hloop1 (Int.toNat (en + 1 - 0) + 1) 0 (B 0) Kf (by omega) (by have := hB 0 (by omega); omega) (hk) (by rw [show en + 1 - 0 = en + 1 by omega]; rfl) (by omega) _ _ _ hP hD hS (lv_sub hl [0, 1, 2] rfl)
set_option maxHeartbeats 4000000 in
set_option maxRecDepth 100000 in
theorem c_X0_study (l : Launch) (D : va_G) (cy : Nat → ClassId) (n0 : Nat) (b0 : Nat) (k0 : Nat) (en : Int) (B : Nat → Int) (Kf : Nat → Int) (wi : Nat) (vi : Nat) (nw : Int) (Fw : Nat → Int32) (hb : 0 ≤ nw ∧ nw ≤ 16) (hk : ∀ j : Nat, 0 ≤ Kf j ∧ Kf j ≤ 17) : Cv l D cy yX0_study wsX0_study 4 90 [.ref n0, .ref wi] [(n0, .inr (0, [.ref b0, .ref k0, .int (iI en)])), (b0, .inl (cy 0, 17, .inl (zI B))), (k0, .inl (cy 0, 17, .inl (zI Kf))), (wi, .inr (2, [.ref vi, .int (iI nw)])), (vi, .inl (cy 0, 16, .inl Fw))] (fun (u : (Nat → Int) × (Nat → Int)) => u.1 = studyB nw.toNat Fw B Kf ∧ u.2 = studyK nw.toNat Fw B Kf) (fun u : (Nat → Int) × (Nat → Int) => [(n0, .inr (0, [.ref b0, .ref k0, .int (iI nw)])), (b0, .inl (cy 0, 17, .inl (zI u.1))), (k0, .inl (cy 0, 17, .inl (zI u.2))), (wi, .inr (2, [.ref vi, .int (iI nw)])), (vi, .inl (cy 0, 16, .inl Fw))]) := by
  refine Cv_of (cc := cX0_study) (maxL := 3) (ret := none) (by decide) rfl rfl ?_
  intro p e s m args below meth c A hx hb hr hts hown hlocks hml hP hK hD hT hA ls hl
  have hS : va_S A s.heap s.heap [] := va_S.rf
  have hl : lv_has ls 3 [(0, .ref n0), (1, .ref wi)] := hl
  have hiX0 : ∀ w ∈ wsX00, w ∈ wsX0_study := by decide +kernel
  refine lv_aload_n hx hb dX0_study_0 rfl (lv_at hl 0 rfl) ?_
  refine lv_aload_n hx hb dX0_study_1 rfl (lv_at hl 1 rfl) ?_
  refine z_cVi (n := 0) (b := wi) (As := []) (rest := [.ref n0]) ⟨hx, hb, hml, hown, hts⟩ (c_X2_size l D cy wi vi nw ) gX0_study_X2_size rfl (by decide +kernel) ⟨Nat.le_of_ble_eq_true rfl, Nat.le_of_ble_eq_true rfl⟩ hK hT hP hD hS hA [3] rfl rfl 3 2 rfl rfl rfl (fun _ => rfl) rfl hl.1 rfl (Nat.le_of_ble_eq_true rfl) dX0_study_2 ⟨Nat.zero_le _, Nat.zero_le _⟩ (fun r_1 u_1 H locs hw_1 hP hD hS => ?_)
  have hw_1 : r_1 = iI nw := hw_1
  have hP : va_P D vwCl [(n0, .inr (0, [.ref b0, .ref k0, .int (iI en)])), (b0, .inl (cy 0, 17, .inl (zI B))), (k0, .inl (cy 0, 17, .inl (zI Kf))), (wi, .inr (2, [.ref vi, .int (iI nw)])), (vi, .inl (cy 0, 16, .inl Fw))] H := hP
  have hD : va_D A [(n0, .inr (0, [.ref b0, .ref k0, .int (iI en)])), (b0, .inl (cy 0, 17, .inl (zI B))), (k0, .inl (cy 0, 17, .inl (zI Kf))), (wi, .inr (2, [.ref vi, .int (iI nw)])), (vi, .inl (cy 0, 16, .inl Fw))] := hD
  obtain rfl := hw_1
  refine lv_bipush (v := iI 16) hx hb dX0_study_5 (by decide +kernel) ?_
  refine z_mmin (hml := hml.trans hl.1.symm) hx hb hown (hts (.methodLink RX0 24 Lib.Math.min.name) (by decide +kernel)) (hts (.static Lib.Math.min.name) (by decide +kernel)) (hts (.initialized "java/lang/Math") (by decide +kernel)) (hts (.code Lib.Math.min.name Lib.Math.min.code 2 (some .int)) (by decide +kernel)) (Nat.le_of_ble_eq_true rfl) (Nat.le_of_ble_eq_true rfl) (Nat.zero_le _) (Nat.zero_le _) (by omega) (by omega) (by omega) (by omega) dX0_study_7 (fun z_2 e_2 => ?_)
  refine va_put (D := D) (ci := 0) (v := .int (iI z_2)) (ty := .int) (C := RX0) (T := TX0) (N := 3) hx hb hts hiX0 tyX0 tyX0_ok nmX0 hown hK hP hD hS 0 rfl rfl 2 (by decide) (hts (.fieldLink RX0 30 "BackwardSearch$Ends" "length" "I") (by decide +kernel)) (fun _ h9 => h9) rfl (by decide +kernel) rfl rfl (Nat.le_of_ble_eq_true rfl) dX0_study_10 (fun H locs hP hD hS => ?_)
  have hP : va_P D vwCl [(n0, .inr (0, [.ref b0, .ref k0, .int (iI z_2)])), (b0, .inl (cy 0, 17, .inl (zI B))), (k0, .inl (cy 0, 17, .inl (zI Kf))), (wi, .inr (2, [.ref vi, .int (iI nw)])), (vi, .inl (cy 0, 16, .inl Fw))] H := hP
  have hD : va_D A [(n0, .inr (0, [.ref b0, .ref k0, .int (iI z_2)])), (b0, .inl (cy 0, 17, .inl (zI B))), (k0, .inl (cy 0, 17, .inl (zI Kf))), (wi, .inr (2, [.ref vi, .int (iI nw)])), (vi, .inl (cy 0, 16, .inl Fw))] := hD
  obtain rfl : nw = z_2 := by omega
  refine lv_iconst (v := iI 0) hx hb dX0_study_13 rfl ?_
  refine lv_istore_n (lv' := [(2, .int (iI 0)), (0, .ref n0), (1, .ref wi)]) hx hb dX0_study_14 rfl hl (by decide) rfl (fun ls hl => ?_)
  have hloop3 : ∀ (n3 : Nat) (i : Int) (K2 : Nat → Int) (hi : 0 ≤ i ∧ i ≤ nw + 1) (hz : K2 = zF i Kf) (hm : nw + 1 - i < (n3 : Int)) (H : Heap) (locs : List Loc) (ls : Array Slot) (hP : va_P D vwCl [(n0, .inr (0, [.ref b0, .ref k0, .int (iI nw)])), (b0, .inl (cy 0, 17, .inl (zI B))), (k0, .inl (cy 0, 17, .inl (zI K2))), (wi, .inr (2, [.ref vi, .int (iI nw)])), (vi, .inl (cy 0, 16, .inl Fw))] H) (hD : va_D A [(n0, .inr (0, [.ref b0, .ref k0, .int (iI nw)])), (b0, .inl (cy 0, 17, .inl (zI B))), (k0, .inl (cy 0, 17, .inl (zI K2))), (wi, .inr (2, [.ref vi, .int (iI nw)])), (vi, .inl (cy 0, 16, .inl Fw))]) (hS : va_S A s.heap H locs) (hl : lv_has ls 3 [(2, .int (iI i)), (0, .ref n0), (1, .ref wi)]), W p l e ({ frames := 4, cells := 0, slots := 0, locals := 90 } : Room) s m args below meth c H locs 0 0 (MQ below (va_Qv (fun (u : (Nat → Int) × (Nat → Int)) => u.1 = studyB nw.toNat Fw B Kf ∧ u.2 = studyK nw.toNat Fw B Kf) (fun u t => va_P D vwCl ((fun u : (Nat → Int) × (Nat → Int) => [(n0, .inr (0, [.ref b0, .ref k0, .int (iI nw)])), (b0, .inl (cy 0, 17, .inl (zI u.1))), (k0, .inl (cy 0, 17, .inl (zI u.2))), (wi, .inr (2, [.ref vi, .int (iI nw)])), (vi, .inl (cy 0, 16, .inl Fw))]) u) t.heap) A) args s 0 0 A) (F0 m 15 ls []) := by
    intro n3
    induction n3 with
    | zero =>
      intro i K2 hi hz hm; exact absurd hm (by omega)
    | succ n3 ih3 =>
      intro i K2 hi hz hm H locs ls hP hD hS hl
      refine lv_iload_n hx hb dX0_study_15 rfl (lv_at hl 0 rfl) ?_
      refine lv_aload_n hx hb dX0_study_16 rfl (lv_at hl 1 rfl) ?_
      refine va_get (D := D) (ci := 0) (v := .int (iI nw)) (C := RX0) (T := TX0) (N := 3) hx hb hts hiX0 hown hK hP 0 rfl rfl 2 (by decide) (hts (.fieldLink RX0 30 "BackwardSearch$Ends" "length" "I") (by decide +kernel)) (fun _ h9 => h9) rfl dX0_study_17 ?_
      refine z_icmp_gt (tgt := 36) hx hb (iI_t (by omega) (by omega)) (iI_t (by omega) (by omega)) dX0_study_20 (by decide) (fun c4 => ?_) (fun c4 => ?_)
      · --
        obtain rfl : i = nw + 1 := by omega
        subst hz
        have hzr := zF_rng hk (nw + 1)
        have hfr := findF_rng (m := nw.toNat) (by omega) (W := Fw) nw.toNat (nw + 1) (updZ B nw.toNat (nw + 1)) (zF (nw + 1) Kf) (by omega) (by omega) (by omega) (fun j h1 h2 => by rw [show j = nw.toNat by omega, updZ_same]; omega) hzr
        refine lv_aload_n hx hb dX0_study_36 rfl (lv_at hl 1 rfl) ?_
        refine lv_aload_n hx hb dX0_study_37 rfl (lv_at hl 2 rfl) ?_
        refine z_cVv (n := 1) (b := n0) (As := [.ref wi]) (rest := []) ⟨hx, hb, hml, hown, hts⟩ (c_X0_findBorders l D cy n0 b0 k0 B (zF (nw + 1) Kf) wi vi nw Fw (by omega) (hzr)) gX0_study_X0_findBorders rfl (by decide +kernel) ⟨Nat.le_of_ble_eq_true rfl, Nat.le_of_ble_eq_true rfl⟩ hK hT hP hD hS hA [0, 1, 2, 3, 4] rfl rfl 0 0 rfl rfl rfl (fun _ => rfl) rfl hl.1 rfl (Nat.le_of_ble_eq_true rfl) dX0_study_38 ⟨Nat.zero_le _, Nat.zero_le _⟩ (fun  u_5 H locs hw_5 hP hD hS => ?_)
        obtain ⟨B1_5, K1_5⟩ := u_5
        have hw_5 : B1_5 = (findF nw.toNat Fw nw.toNat (nw + 1) (updZ B nw.toNat (nw + 1)) (zF (nw + 1) Kf)).1 ∧ K1_5 = (findF nw.toNat Fw nw.toNat (nw + 1) (updZ B nw.toNat (nw + 1)) (zF (nw + 1) Kf)).2 := hw_5
        have hP : va_P D vwCl [(n0, .inr (0, [.ref b0, .ref k0, .int (iI nw)])), (b0, .inl (cy 0, 17, .inl (zI B1_5))), (k0, .inl (cy 0, 17, .inl (zI K1_5))), (wi, .inr (2, [.ref vi, .int (iI nw)])), (vi, .inl (cy 0, 16, .inl Fw))] H := hP
        have hD : va_D A [(n0, .inr (0, [.ref b0, .ref k0, .int (iI nw)])), (b0, .inl (cy 0, 17, .inl (zI B1_5))), (k0, .inl (cy 0, 17, .inl (zI K1_5))), (wi, .inr (2, [.ref vi, .int (iI nw)])), (vi, .inl (cy 0, 16, .inl Fw))] := hD
        obtain ⟨rfl, rfl⟩ := hw_5
        refine lv_aload_n hx hb dX0_study_41 rfl (lv_at hl 1 rfl) ?_
        refine z_cVv (n := 0) (b := n0) (As := []) (rest := []) ⟨hx, hb, hml, hown, hts⟩ (c_X0_skipToBordersOfTheWord l D cy n0 b0 k0 nw ((findF nw.toNat Fw nw.toNat (nw + 1) (updZ B nw.toNat (nw + 1)) (zF (nw + 1) Kf)).1) ((findF nw.toNat Fw nw.toNat (nw + 1) (updZ B nw.toNat (nw + 1)) (zF (nw + 1) Kf)).2) (by omega) (fun j hj => by have := hfr.1 j (by omega); omega) (hfr.2)) gX0_study_X0_skipToBordersOfTheWord rfl (by decide +kernel) ⟨Nat.le_of_ble_eq_true rfl, Nat.le_of_ble_eq_true rfl⟩ hK hT hP hD hS hA [0, 1, 2] rfl rfl 0 0 rfl rfl rfl (fun _ => rfl) rfl hl.1 rfl (Nat.le_of_ble_eq_true rfl) dX0_study_42 ⟨Nat.zero_le _, Nat.zero_le _⟩ (fun  u_6 H locs hw_6 hP hD hS => ?_)
        obtain ⟨K1_6, rfl⟩ : ∃ z, z = u_6 := ⟨_, rfl⟩
        have hw_6 : K1_6 = (tailF ((findF nw.toNat Fw nw.toNat (nw + 1) (updZ B nw.toNat (nw + 1)) (zF (nw + 1) Kf)).1) (nw + 1).toNat 0 (((findF nw.toNat Fw nw.toNat (nw + 1) (updZ B nw.toNat (nw + 1)) (zF (nw + 1) Kf)).1) 0) ((findF nw.toNat Fw nw.toNat (nw + 1) (updZ B nw.toNat (nw + 1)) (zF (nw + 1) Kf)).2)) := hw_6
        have hP : va_P D vwCl [(n0, .inr (0, [.ref b0, .ref k0, .int (iI nw)])), (b0, .inl (cy 0, 17, .inl (zI ((findF nw.toNat Fw nw.toNat (nw + 1) (updZ B nw.toNat (nw + 1)) (zF (nw + 1) Kf)).1)))), (k0, .inl (cy 0, 17, .inl (zI K1_6))), (wi, .inr (2, [.ref vi, .int (iI nw)])), (vi, .inl (cy 0, 16, .inl Fw))] H := hP
        have hD : va_D A [(n0, .inr (0, [.ref b0, .ref k0, .int (iI nw)])), (b0, .inl (cy 0, 17, .inl (zI ((findF nw.toNat Fw nw.toNat (nw + 1) (updZ B nw.toNat (nw + 1)) (zF (nw + 1) Kf)).1)))), (k0, .inl (cy 0, 17, .inl (zI K1_6))), (wi, .inr (2, [.ref vi, .int (iI nw)])), (vi, .inl (cy 0, 16, .inl Fw))] := hD
        obtain rfl := hw_6
        exact z_vret hx hb hr hlocks hS (((findF nw.toNat Fw nw.toNat (nw + 1) (updZ B nw.toNat (nw + 1)) (zF (nw + 1) Kf)).1), (tailF ((findF nw.toNat Fw nw.toNat (nw + 1) (updZ B nw.toNat (nw + 1)) (zF (nw + 1) Kf)).1) (nw + 1).toNat 0 (((findF nw.toNat Fw nw.toNat (nw + 1) (updZ B nw.toNat (nw + 1)) (zF (nw + 1) Kf)).1) 0) ((findF nw.toNat Fw nw.toNat (nw + 1) (updZ B nw.toNat (nw + 1)) (zF (nw + 1) Kf)).2))) (show ((findF nw.toNat Fw nw.toNat (nw + 1) (updZ B nw.toNat (nw + 1)) (zF (nw + 1) Kf)).1) = studyB nw.toNat Fw B Kf ∧ (tailF ((findF nw.toNat Fw nw.toNat (nw + 1) (updZ B nw.toNat (nw + 1)) (zF (nw + 1) Kf)).1) (nw + 1).toNat 0 (((findF nw.toNat Fw nw.toNat (nw + 1) (updZ B nw.toNat (nw + 1)) (zF (nw + 1) Kf)).1) 0) ((findF nw.toNat Fw nw.toNat (nw + 1) (updZ B nw.toNat (nw + 1)) (zF (nw + 1) Kf)).2)) = studyK nw.toNat Fw B Kf from (study_eq (by omega))) hP dX0_study_45
      · --
        refine lv_aload_n hx hb dX0_study_23 rfl (lv_at hl 1 rfl) ?_
        refine va_get (D := D) (ci := 0) (v := .ref k0) (C := RX0) (T := TX0) (N := 3) hx hb hts hiX0 hown hK hP 0 rfl rfl 1 (by decide) (hts (.fieldLink RX0 15 "BackwardSearch$Ends" "skipOf" "[I") (by decide +kernel)) (fun _ h9 => h9) rfl dX0_study_24 ?_
        refine lv_iload_n hx hb dX0_study_27 rfl (lv_at hl 0 rfl) ?_
        refine lv_iconst (v := iI 0) hx hb dX0_study_28 rfl ?_
        refine z_iast hx hb hK hP hD hS 2 rfl (by omega) (by omega) (by omega) dX0_study_29 (fun H locs hP hD hS => ?_)
        rw [zI_upd] at hP hD
        have hP : va_P D vwCl [(n0, .inr (0, [.ref b0, .ref k0, .int (iI nw)])), (b0, .inl (cy 0, 17, .inl (zI B))), (k0, .inl (cy 0, 17, .inl (zI (updZ K2 i.toNat 0)))), (wi, .inr (2, [.ref vi, .int (iI nw)])), (vi, .inl (cy 0, 16, .inl Fw))] H := hP
        have hD : va_D A [(n0, .inr (0, [.ref b0, .ref k0, .int (iI nw)])), (b0, .inl (cy 0, 17, .inl (zI B))), (k0, .inl (cy 0, 17, .inl (zI (updZ K2 i.toNat 0)))), (wi, .inr (2, [.ref vi, .int (iI nw)])), (vi, .inl (cy 0, 16, .inl Fw))] := hD
        refine z_iinc (lv' := [(2, .int (iI (i + 1))), (0, .ref n0), (1, .ref wi)]) hx hb dX0_study_30 hl (k := 0) rfl (by decide) rfl (fun ls hl => ?_)
        refine lv_goto (tgt := 15) hx hb dX0_study_33 (by decide) ?_
        exact ih3 (i + 1) (updZ K2 i.toNat 0) (by omega) (by rw [hz]; exact zF_step i hi.1 Kf) (by omega) _ _ _ hP hD hS (lv_sub hl [0, 1, 2] rfl)
  exact hloop3 (Int.toNat (nw + 1 - 0) + 1) 0 Kf (by omega) ((zF_0 Kf).symm) (by omega) _ _ _ hP hD hS (lv_sub hl [0, 1, 2] rfl)

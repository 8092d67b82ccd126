theorem dX5_takeLine_0 : decode cX5_takeLine 0 = .ok (.aload_n 0, 1) := by decide +kernel
theorem dX5_takeLine_1 : decode cX5_takeLine 1 = .ok (.bipush 60, 2) := by decide +kernel
theorem dX5_takeLine_3 : decode cX5_takeLine 3 = .ok (.invokevirtual 62, 3) := by decide +kernel
theorem dX5_takeLine_6 : decode cX5_takeLine 6 = .ok (.ifCond .ne 9, 3) := by decide +kernel
theorem dX5_takeLine_9 : decode cX5_takeLine 9 = .ok (.aload_n 0, 1) := by decide +kernel
theorem dX5_takeLine_10 : decode cX5_takeLine 10 = .ok (.iconst 1, 1) := by decide +kernel
theorem dX5_takeLine_11 : decode cX5_takeLine 11 = .ok (.invokevirtual 66, 3) := by decide +kernel
theorem dX5_takeLine_14 : decode cX5_takeLine 14 = .ok (.ireturn, 1) := by decide +kernel
theorem dX5_takeLine_15 : decode cX5_takeLine 15 = .ok (.aload_n 0, 1) := by decide +kernel
theorem dX5_takeLine_16 : decode cX5_takeLine 16 = .ok (.invokevirtual 69, 3) := by decide +kernel
theorem dX5_takeLine_19 : decode cX5_takeLine 19 = .ok (.aload_n 0, 1) := by decide +kernel
theorem dX5_takeLine_20 : decode cX5_takeLine 20 = .ok (.iconst 0, 1) := by decide +kernel
theorem dX5_takeLine_21 : decode cX5_takeLine 21 = .ok (.bipush 60, 2) := by decide +kernel
theorem dX5_takeLine_23 : decode cX5_takeLine 23 = .ok (.invokevirtual 72, 3) := by decide +kernel
theorem dX5_takeLine_26 : decode cX5_takeLine 26 = .ok (.ireturn, 1) := by decide +kernel
set_option maxRecDepth 20000 in
theorem ggX5_takeLine_X5_canTake : GoodIn wsX5_takeLine wsX5_canTake := goodIn_r _ [5, 6, 7, 8, 9, 4, 10, 11, 12, 13, 14, 15, 16, 37, 38, 39, 40, 41, 42, 43, 44] (by decide +kernel) (by decide +kernel)
set_option maxRecDepth 20000 in
theorem gX5_takeLine_X5_canTake : GoodIn wsX5_takeLine (wsV RX5 62 RX5 yX5_canTake wsX5_canTake) := goodIn_app (goodIn_of _ (by decide +kernel)) ggX5_takeLine_X5_canTake
set_option maxRecDepth 20000 in
theorem ggX5_takeLine_X5_fails : GoodIn wsX5_takeLine wsX5_fails := goodIn_r _ [20, 21, 37, 38, 39, 40, 41, 42, 43, 44] (by decide +kernel) (by decide +kernel)
set_option maxRecDepth 20000 in
theorem gX5_takeLine_X5_fails : GoodIn wsX5_takeLine (wsV RX5 66 RX5 yX5_fails wsX5_fails) := goodIn_app (goodIn_of _ (by decide +kernel)) ggX5_takeLine_X5_fails
set_option maxRecDepth 20000 in
theorem ggX5_takeLine_X5_changes : GoodIn wsX5_takeLine wsX5_changes := goodIn_r _ [25, 21, 26, 27, 28, 37, 38, 39, 40, 41, 42, 43, 44] (by decide +kernel) (by decide +kernel)
set_option maxRecDepth 20000 in
theorem gX5_takeLine_X5_changes : GoodIn wsX5_takeLine (wsV RX5 69 RX5 yX5_changes wsX5_changes) := goodIn_app (goodIn_of _ (by decide +kernel)) ggX5_takeLine_X5_changes
set_option maxRecDepth 20000 in
theorem ggX5_takeLine_X5_takes : GoodIn wsX5_takeLine wsX5_takes := goodIn_r _ [32, 28, 6, 11, 33, 34, 35, 4, 36, 37, 38, 39, 40, 41, 42, 43, 44] (by decide +kernel) (by decide +kernel)
set_option maxRecDepth 20000 in
theorem gX5_takeLine_X5_takes : GoodIn wsX5_takeLine (wsV RX5 72 RX5 yX5_takes wsX5_takes) := goodIn_app (goodIn_of _ (by decide +kernel)) ggX5_takeLine_X5_takes
theorem dX5_takeWord_0 : decode cX5_takeWord 0 = .ok (.aload_n 0, 1) := by decide +kernel
theorem dX5_takeWord_1 : decode cX5_takeWord 1 = .ok (.bipush 16, 2) := by decide +kernel
theorem dX5_takeWord_3 : decode cX5_takeWord 3 = .ok (.invokevirtual 62, 3) := by decide +kernel
theorem dX5_takeWord_6 : decode cX5_takeWord 6 = .ok (.ifCond .ne 9, 3) := by decide +kernel
theorem dX5_takeWord_9 : decode cX5_takeWord 9 = .ok (.aload_n 0, 1) := by decide +kernel
theorem dX5_takeWord_10 : decode cX5_takeWord 10 = .ok (.iconst 1, 1) := by decide +kernel
theorem dX5_takeWord_11 : decode cX5_takeWord 11 = .ok (.invokevirtual 66, 3) := by decide +kernel
theorem dX5_takeWord_14 : decode cX5_takeWord 14 = .ok (.ireturn, 1) := by decide +kernel
theorem dX5_takeWord_15 : decode cX5_takeWord 15 = .ok (.aload_n 0, 1) := by decide +kernel
theorem dX5_takeWord_16 : decode cX5_takeWord 16 = .ok (.invokevirtual 69, 3) := by decide +kernel
theorem dX5_takeWord_19 : decode cX5_takeWord 19 = .ok (.aload_n 0, 1) := by decide +kernel
theorem dX5_takeWord_20 : decode cX5_takeWord 20 = .ok (.bipush 61, 2) := by decide +kernel
theorem dX5_takeWord_22 : decode cX5_takeWord 22 = .ok (.bipush 16, 2) := by decide +kernel
theorem dX5_takeWord_24 : decode cX5_takeWord 24 = .ok (.invokevirtual 72, 3) := by decide +kernel
theorem dX5_takeWord_27 : decode cX5_takeWord 27 = .ok (.ireturn, 1) := by decide +kernel
set_option maxRecDepth 20000 in
theorem ggX5_takeWord_X5_canTake : GoodIn wsX5_takeWord wsX5_canTake := goodIn_r _ [5, 6, 7, 8, 9, 4, 10, 11, 12, 13, 14, 15, 16, 37, 38, 39, 40, 41, 42, 43, 44] (by decide +kernel) (by decide +kernel)
set_option maxRecDepth 20000 in
theorem gX5_takeWord_X5_canTake : GoodIn wsX5_takeWord (wsV RX5 62 RX5 yX5_canTake wsX5_canTake) := goodIn_app (goodIn_of _ (by decide +kernel)) ggX5_takeWord_X5_canTake
set_option maxRecDepth 20000 in
theorem ggX5_takeWord_X5_fails : GoodIn wsX5_takeWord wsX5_fails := goodIn_r _ [20, 21, 37, 38, 39, 40, 41, 42, 43, 44] (by decide +kernel) (by decide +kernel)
set_option maxRecDepth 20000 in
theorem gX5_takeWord_X5_fails : GoodIn wsX5_takeWord (wsV RX5 66 RX5 yX5_fails wsX5_fails) := goodIn_app (goodIn_of _ (by decide +kernel)) ggX5_takeWord_X5_fails
set_option maxRecDepth 20000 in
theorem ggX5_takeWord_X5_changes : GoodIn wsX5_takeWord wsX5_changes := goodIn_r _ [25, 21, 26, 27, 28, 37, 38, 39, 40, 41, 42, 43, 44] (by decide +kernel) (by decide +kernel)
set_option maxRecDepth 20000 in
theorem gX5_takeWord_X5_changes : GoodIn wsX5_takeWord (wsV RX5 69 RX5 yX5_changes wsX5_changes) := goodIn_app (goodIn_of _ (by decide +kernel)) ggX5_takeWord_X5_changes
set_option maxRecDepth 20000 in
theorem ggX5_takeWord_X5_takes : GoodIn wsX5_takeWord wsX5_takes := goodIn_r _ [32, 28, 6, 11, 33, 34, 35, 4, 36, 37, 38, 39, 40, 41, 42, 43, 44] (by decide +kernel) (by decide +kernel)
set_option maxRecDepth 20000 in
theorem gX5_takeWord_X5_takes : GoodIn wsX5_takeWord (wsV RX5 72 RX5 yX5_takes wsX5_takes) := goodIn_app (goodIn_of _ (by decide +kernel)) ggX5_takeWord_X5_takes
theorem dX5_setRules_0 : decode cX5_setRules 0 = .ok (.aload_n 0, 1) := by decide +kernel
theorem dX5_setRules_1 : decode cX5_setRules 1 = .ok (.invokevirtual 69, 3) := by decide +kernel
theorem dX5_setRules_4 : decode cX5_setRules 4 = .ok (.aload_n 0, 1) := by decide +kernel
theorem dX5_setRules_5 : decode cX5_setRules 5 = .ok (.getfield 7, 3) := by decide +kernel
theorem dX5_setRules_8 : decode cX5_setRules 8 = .ok (.bipush 78, 2) := by decide +kernel
theorem dX5_setRules_10 : decode cX5_setRules 10 = .ok (.iaload, 1) := by decide +kernel
theorem dX5_setRules_11 : decode cX5_setRules 11 = .ok (.aload_n 0, 1) := by decide +kernel
theorem dX5_setRules_12 : decode cX5_setRules 12 = .ok (.getfield 7, 3) := by decide +kernel
theorem dX5_setRules_15 : decode cX5_setRules 15 = .ok (.bipush 79, 2) := by decide +kernel
theorem dX5_setRules_17 : decode cX5_setRules 17 = .ok (.iaload, 1) := by decide +kernel
theorem dX5_setRules_18 : decode cX5_setRules 18 = .ok (.iadd, 1) := by decide +kernel
theorem dX5_setRules_19 : decode cX5_setRules 19 = .ok (.istore_n 3, 1) := by decide +kernel
theorem dX5_setRules_20 : decode cX5_setRules 20 = .ok (.aload_n 0, 1) := by decide +kernel
theorem dX5_setRules_21 : decode cX5_setRules 21 = .ok (.getfield 7, 3) := by decide +kernel
theorem dX5_setRules_24 : decode cX5_setRules 24 = .ok (.bipush 78, 2) := by decide +kernel
theorem dX5_setRules_26 : decode cX5_setRules 26 = .ok (.iload_n 1, 1) := by decide +kernel
theorem dX5_setRules_27 : decode cX5_setRules 27 = .ok (.ifCond .eq 7, 3) := by decide +kernel
theorem dX5_setRules_30 : decode cX5_setRules 30 = .ok (.iconst 1, 1) := by decide +kernel
theorem dX5_setRules_31 : decode cX5_setRules 31 = .ok (.goto 4, 3) := by decide +kernel
theorem dX5_setRules_34 : decode cX5_setRules 34 = .ok (.iconst 0, 1) := by decide +kernel
theorem dX5_setRules_35 : decode cX5_setRules 35 = .ok (.iastore, 1) := by decide +kernel
theorem dX5_setRules_36 : decode cX5_setRules 36 = .ok (.aload_n 0, 1) := by decide +kernel
theorem dX5_setRules_37 : decode cX5_setRules 37 = .ok (.getfield 7, 3) := by decide +kernel
theorem dX5_setRules_40 : decode cX5_setRules 40 = .ok (.bipush 79, 2) := by decide +kernel
theorem dX5_setRules_42 : decode cX5_setRules 42 = .ok (.iload_n 2, 1) := by decide +kernel
theorem dX5_setRules_43 : decode cX5_setRules 43 = .ok (.ifCond .eq 7, 3) := by decide +kernel
theorem dX5_setRules_46 : decode cX5_setRules 46 = .ok (.iconst 1, 1) := by decide +kernel
theorem dX5_setRules_47 : decode cX5_setRules 47 = .ok (.goto 4, 3) := by decide +kernel
theorem dX5_setRules_50 : decode cX5_setRules 50 = .ok (.iconst 0, 1) := by decide +kernel
theorem dX5_setRules_51 : decode cX5_setRules 51 = .ok (.iastore, 1) := by decide +kernel
theorem dX5_setRules_52 : decode cX5_setRules 52 = .ok (.aload_n 0, 1) := by decide +kernel
theorem dX5_setRules_53 : decode cX5_setRules 53 = .ok (.invokevirtual 59, 3) := by decide +kernel
theorem dX5_setRules_56 : decode cX5_setRules 56 = .ok (.iload_n 3, 1) := by decide +kernel
theorem dX5_setRules_57 : decode cX5_setRules 57 = .ok (.ireturn, 1) := by decide +kernel
set_option maxRecDepth 20000 in
theorem ggX5_setRules_X5_changes : GoodIn wsX5_setRules wsX5_changes := goodIn_r _ [6, 7, 8, 9, 1, 14, 15, 16, 17, 18, 19, 20, 21] (by decide +kernel) (by decide +kernel)
set_option maxRecDepth 20000 in
theorem gX5_setRules_X5_changes : GoodIn wsX5_setRules (wsV RX5 69 RX5 yX5_changes wsX5_changes) := goodIn_app (goodIn_of _ (by decide +kernel)) ggX5_setRules_X5_changes
set_option maxRecDepth 20000 in
theorem ggX5_setRules_X5_begins : GoodIn wsX5_setRules wsX5_begins := goodIn_r _ [13, 1, 14, 15, 16, 17, 18, 19, 20, 21] (by decide +kernel) (by decide +kernel)
set_option maxRecDepth 20000 in
theorem gX5_setRules_X5_begins : GoodIn wsX5_setRules (wsV RX5 59 RX5 yX5_begins wsX5_begins) := goodIn_app (goodIn_of _ (by decide +kernel)) ggX5_setRules_X5_begins
theorem dX5_rewind_0 : decode cX5_rewind 0 = .ok (.aload_n 0, 1) := by decide +kernel
theorem dX5_rewind_1 : decode cX5_rewind 1 = .ok (.invokevirtual 69, 3) := by decide +kernel
theorem dX5_rewind_4 : decode cX5_rewind 4 = .ok (.aload_n 0, 1) := by decide +kernel
theorem dX5_rewind_5 : decode cX5_rewind 5 = .ok (.getfield 7, 3) := by decide +kernel
theorem dX5_rewind_8 : decode cX5_rewind 8 = .ok (.bipush 81, 2) := by decide +kernel
theorem dX5_rewind_10 : decode cX5_rewind 10 = .ok (.iaload, 1) := by decide +kernel
theorem dX5_rewind_11 : decode cX5_rewind 11 = .ok (.istore_n 1, 1) := by decide +kernel
theorem dX5_rewind_12 : decode cX5_rewind 12 = .ok (.aload_n 0, 1) := by decide +kernel
theorem dX5_rewind_13 : decode cX5_rewind 13 = .ok (.invokevirtual 59, 3) := by decide +kernel
theorem dX5_rewind_16 : decode cX5_rewind 16 = .ok (.iload_n 1, 1) := by decide +kernel
theorem dX5_rewind_17 : decode cX5_rewind 17 = .ok (.ireturn, 1) := by decide +kernel
set_option maxRecDepth 20000 in
theorem ggX5_rewind_X5_changes : GoodIn wsX5_rewind wsX5_changes := goodIn_r _ [6, 7, 8, 9, 1, 14, 15, 16, 17, 18, 19, 20, 21] (by decide +kernel) (by decide +kernel)
set_option maxRecDepth 20000 in
theorem gX5_rewind_X5_changes : GoodIn wsX5_rewind (wsV RX5 69 RX5 yX5_changes wsX5_changes) := goodIn_app (goodIn_of _ (by decide +kernel)) ggX5_rewind_X5_changes
set_option maxRecDepth 20000 in
theorem ggX5_rewind_X5_begins : GoodIn wsX5_rewind wsX5_begins := goodIn_r _ [13, 1, 14, 15, 16, 17, 18, 19, 20, 21] (by decide +kernel) (by decide +kernel)
set_option maxRecDepth 20000 in
theorem gX5_rewind_X5_begins : GoodIn wsX5_rewind (wsV RX5 59 RX5 yX5_begins wsX5_begins) := goodIn_app (goodIn_of _ (by decide +kernel)) ggX5_rewind_X5_begins
theorem dX5_look_0 : decode cX5_look 0 = .ok (.aload_n 0, 1) := by decide +kernel
theorem dX5_look_1 : decode cX5_look 1 = .ok (.aload_n 0, 1) := by decide +kernel
theorem dX5_look_2 : decode cX5_look 2 = .ok (.getfield 7, 3) := by decide +kernel
theorem dX5_look_5 : decode cX5_look 5 = .ok (.bipush 80, 2) := by decide +kernel
theorem dX5_look_7 : decode cX5_look 7 = .ok (.iaload, 1) := by decide +kernel
theorem dX5_look_8 : decode cX5_look 8 = .ok (.invokevirtual 83, 3) := by decide +kernel
theorem dX5_look_11 : decode cX5_look 11 = .ok (.ifCond .eq 9, 3) := by decide +kernel
theorem dX5_look_14 : decode cX5_look 14 = .ok (.aload_n 0, 1) := by decide +kernel
theorem dX5_look_15 : decode cX5_look 15 = .ok (.iconst 1, 1) := by decide +kernel
theorem dX5_look_16 : decode cX5_look 16 = .ok (.invokevirtual 66, 3) := by decide +kernel
theorem dX5_look_19 : decode cX5_look 19 = .ok (.ireturn, 1) := by decide +kernel
theorem dX5_look_20 : decode cX5_look 20 = .ok (.aload_n 0, 1) := by decide +kernel
theorem dX5_look_21 : decode cX5_look 21 = .ok (.invokevirtual 69, 3) := by decide +kernel
theorem dX5_look_24 : decode cX5_look 24 = .ok (.aload_n 0, 1) := by decide +kernel
theorem dX5_look_25 : decode cX5_look 25 = .ok (.invokevirtual 86, 3) := by decide +kernel
theorem dX5_look_28 : decode cX5_look 28 = .ok (.ireturn, 1) := by decide +kernel
set_option maxRecDepth 20000 in
theorem ggX5_look_X5_isOverAt : GoodIn wsX5_look wsX5_isOverAt := goodIn_r _ [6, 1, 46, 47, 48, 49, 50, 51, 52, 53] (by decide +kernel) (by decide +kernel)
set_option maxRecDepth 20000 in
theorem gX5_look_X5_isOverAt : GoodIn wsX5_look (wsV RX5 83 RX5 yX5_isOverAt wsX5_isOverAt) := goodIn_app (goodIn_of _ (by decide +kernel)) ggX5_look_X5_isOverAt
set_option maxRecDepth 20000 in
theorem ggX5_look_X5_fails : GoodIn wsX5_look wsX5_fails := goodIn_r _ [10, 11, 46, 47, 48, 49, 50, 51, 52, 53] (by decide +kernel) (by decide +kernel)
set_option maxRecDepth 20000 in
theorem gX5_look_X5_fails : GoodIn wsX5_look (wsV RX5 66 RX5 yX5_fails wsX5_fails) := goodIn_app (goodIn_of _ (by decide +kernel)) ggX5_look_X5_fails
set_option maxRecDepth 20000 in
theorem ggX5_look_X5_changes : GoodIn wsX5_look wsX5_changes := goodIn_r _ [15, 11, 16, 17, 1, 46, 47, 48, 49, 50, 51, 52, 53] (by decide +kernel) (by decide +kernel)
set_option maxRecDepth 20000 in
theorem gX5_look_X5_changes : GoodIn wsX5_look (wsV RX5 69 RX5 yX5_changes wsX5_changes) := goodIn_app (goodIn_of _ (by decide +kernel)) ggX5_look_X5_changes
set_option maxRecDepth 20000 in
theorem ggX5_look_X5_looks : GoodIn wsX5_look wsX5_looks := goodIn_r _ [21, 1, 22, 23, 24, 5, 25, 26, 27, 28, 29, 30, 31, 32, 33, 34, 35, 36, 37, 38, 39, 40, 41, 42, 43, 44, 45, 46, 47, 48, 49, 50, 51, 52, 53] (by decide +kernel) (by decide +kernel)
set_option maxRecDepth 20000 in
theorem gX5_look_X5_looks : GoodIn wsX5_look (wsV RX5 86 RX5 yX5_looks wsX5_looks) := goodIn_app (goodIn_of _ (by decide +kernel)) ggX5_look_X5_looks
theorem dX5_finish_0 : decode cX5_finish 0 = .ok (.aload_n 0, 1) := by decide +kernel
theorem dX5_finish_1 : decode cX5_finish 1 = .ok (.invokevirtual 69, 3) := by decide +kernel
theorem dX5_finish_4 : decode cX5_finish 4 = .ok (.iconst 0, 1) := by decide +kernel
theorem dX5_finish_5 : decode cX5_finish 5 = .ok (.istore_n 1, 1) := by decide +kernel
theorem dX5_finish_6 : decode cX5_finish 6 = .ok (.aload_n 0, 1) := by decide +kernel
theorem dX5_finish_7 : decode cX5_finish 7 = .ok (.aload_n 0, 1) := by decide +kernel
theorem dX5_finish_8 : decode cX5_finish 8 = .ok (.getfield 7, 3) := by decide +kernel
theorem dX5_finish_11 : decode cX5_finish 11 = .ok (.bipush 80, 2) := by decide +kernel
theorem dX5_finish_13 : decode cX5_finish 13 = .ok (.iaload, 1) := by decide +kernel
theorem dX5_finish_14 : decode cX5_finish 14 = .ok (.invokevirtual 83, 3) := by decide +kernel
theorem dX5_finish_17 : decode cX5_finish 17 = .ok (.ifCond .ne 14, 3) := by decide +kernel
theorem dX5_finish_20 : decode cX5_finish 20 = .ok (.aload_n 0, 1) := by decide +kernel
theorem dX5_finish_21 : decode cX5_finish 21 = .ok (.invokevirtual 86, 3) := by decide +kernel
theorem dX5_finish_24 : decode cX5_finish 24 = .ok (.istore_n 2, 1) := by decide +kernel
theorem dX5_finish_25 : decode cX5_finish 25 = .ok (.iinc 1 1, 3) := by decide +kernel
theorem dX5_finish_28 : decode cX5_finish 28 = .ok (.goto (-22), 3) := by decide +kernel
theorem dX5_finish_31 : decode cX5_finish 31 = .ok (.iload_n 1, 1) := by decide +kernel
theorem dX5_finish_32 : decode cX5_finish 32 = .ok (.ireturn, 1) := by decide +kernel
set_option maxRecDepth 20000 in
theorem ggX5_finish_X5_changes : GoodIn wsX5_finish wsX5_changes := goodIn_r _ [6, 7, 8, 9, 1, 42, 43, 44, 45, 46, 47, 48, 49] (by decide +kernel) (by decide +kernel)
set_option maxRecDepth 20000 in
theorem gX5_finish_X5_changes : GoodIn wsX5_finish (wsV RX5 69 RX5 yX5_changes wsX5_changes) := goodIn_app (goodIn_of _ (by decide +kernel)) ggX5_finish_X5_changes
set_option maxRecDepth 20000 in
theorem ggX5_finish_X5_isOverAt : GoodIn wsX5_finish wsX5_isOverAt := goodIn_r _ [13, 1, 42, 43, 44, 45, 46, 47, 48, 49] (by decide +kernel) (by decide +kernel)
set_option maxRecDepth 20000 in
theorem gX5_finish_X5_isOverAt : GoodIn wsX5_finish (wsV RX5 83 RX5 yX5_isOverAt wsX5_isOverAt) := goodIn_app (goodIn_of _ (by decide +kernel)) ggX5_finish_X5_isOverAt
set_option maxRecDepth 20000 in
theorem ggX5_finish_X5_looks : GoodIn wsX5_finish wsX5_looks := goodIn_r _ [17, 1, 18, 19, 20, 5, 21, 22, 23, 24, 25, 26, 27, 28, 29, 30, 31, 32, 33, 34, 35, 36, 37, 38, 39, 40, 41, 42, 43, 44, 45, 46, 47, 48, 49] (by decide +kernel) (by decide +kernel)
set_option maxRecDepth 20000 in
theorem gX5_finish_X5_looks : GoodIn wsX5_finish (wsV RX5 86 RX5 yX5_looks wsX5_looks) := goodIn_app (goodIn_of _ (by decide +kernel)) ggX5_finish_X5_looks
theorem dX5_setLetter_0 : decode cX5_setLetter 0 = .ok (.aload_n 0, 1) := by decide +kernel
theorem dX5_setLetter_1 : decode cX5_setLetter 1 = .ok (.iload_n 1, 1) := by decide +kernel
theorem dX5_setLetter_2 : decode cX5_setLetter 2 = .ok (.invokevirtual 89, 3) := by decide +kernel
theorem dX5_setLetter_5 : decode cX5_setLetter 5 = .ok (.ifCond .ne 9, 3) := by decide +kernel
theorem dX5_setLetter_8 : decode cX5_setLetter 8 = .ok (.aload_n 0, 1) := by decide +kernel
theorem dX5_setLetter_9 : decode cX5_setLetter 9 = .ok (.iconst 1, 1) := by decide +kernel
theorem dX5_setLetter_10 : decode cX5_setLetter 10 = .ok (.invokevirtual 66, 3) := by decide +kernel
theorem dX5_setLetter_13 : decode cX5_setLetter 13 = .ok (.ireturn, 1) := by decide +kernel
theorem dX5_setLetter_14 : decode cX5_setLetter 14 = .ok (.iload_n 2, 1) := by decide +kernel
theorem dX5_setLetter_15 : decode cX5_setLetter 15 = .ok (.invokestatic 92, 3) := by decide +kernel
theorem dX5_setLetter_18 : decode cX5_setLetter 18 = .ok (.ifCond .ne 9, 3) := by decide +kernel
theorem dX5_setLetter_21 : decode cX5_setLetter 21 = .ok (.aload_n 0, 1) := by decide +kernel
theorem dX5_setLetter_22 : decode cX5_setLetter 22 = .ok (.iconst 2, 1) := by decide +kernel
theorem dX5_setLetter_23 : decode cX5_setLetter 23 = .ok (.invokevirtual 66, 3) := by decide +kernel
theorem dX5_setLetter_26 : decode cX5_setLetter 26 = .ok (.ireturn, 1) := by decide +kernel
theorem dX5_setLetter_27 : decode cX5_setLetter 27 = .ok (.aload_n 0, 1) := by decide +kernel
theorem dX5_setLetter_28 : decode cX5_setLetter 28 = .ok (.invokevirtual 69, 3) := by decide +kernel
theorem dX5_setLetter_31 : decode cX5_setLetter 31 = .ok (.aload_n 0, 1) := by decide +kernel
theorem dX5_setLetter_32 : decode cX5_setLetter 32 = .ok (.getfield 7, 3) := by decide +kernel
theorem dX5_setLetter_35 : decode cX5_setLetter 35 = .ok (.iconst 1, 1) := by decide +kernel
theorem dX5_setLetter_36 : decode cX5_setLetter 36 = .ok (.iload_n 1, 1) := by decide +kernel
theorem dX5_setLetter_37 : decode cX5_setLetter 37 = .ok (.iadd, 1) := by decide +kernel
theorem dX5_setLetter_38 : decode cX5_setLetter 38 = .ok (.iaload, 1) := by decide +kernel
theorem dX5_setLetter_39 : decode cX5_setLetter 39 = .ok (.istore_n 3, 1) := by decide +kernel
theorem dX5_setLetter_40 : decode cX5_setLetter 40 = .ok (.aload_n 0, 1) := by decide +kernel
theorem dX5_setLetter_41 : decode cX5_setLetter 41 = .ok (.getfield 7, 3) := by decide +kernel
theorem dX5_setLetter_44 : decode cX5_setLetter 44 = .ok (.iconst 1, 1) := by decide +kernel
theorem dX5_setLetter_45 : decode cX5_setLetter 45 = .ok (.iload_n 1, 1) := by decide +kernel
theorem dX5_setLetter_46 : decode cX5_setLetter 46 = .ok (.iadd, 1) := by decide +kernel
theorem dX5_setLetter_47 : decode cX5_setLetter 47 = .ok (.iload_n 2, 1) := by decide +kernel
theorem dX5_setLetter_48 : decode cX5_setLetter 48 = .ok (.iastore, 1) := by decide +kernel
theorem dX5_setLetter_49 : decode cX5_setLetter 49 = .ok (.aload_n 0, 1) := by decide +kernel
theorem dX5_setLetter_50 : decode cX5_setLetter 50 = .ok (.invokevirtual 59, 3) := by decide +kernel
theorem dX5_setLetter_53 : decode cX5_setLetter 53 = .ok (.iload_n 3, 1) := by decide +kernel
theorem dX5_setLetter_54 : decode cX5_setLetter 54 = .ok (.ireturn, 1) := by decide +kernel
set_option maxRecDepth 20000 in
theorem ggX5_setLetter_X5_isInLine : GoodIn wsX5_setLetter wsX5_isInLine := goodIn_r _ [6, 1, 7, 8, 5, 9, 29, 30, 31, 32, 33, 34, 35, 36] (by decide +kernel) (by decide +kernel)
set_option maxRecDepth 20000 in
theorem gX5_setLetter_X5_isInLine : GoodIn wsX5_setLetter (wsV RX5 89 RX5 yX5_isInLine wsX5_isInLine) := goodIn_app (goodIn_of _ (by decide +kernel)) ggX5_setLetter_X5_isInLine
set_option maxRecDepth 20000 in
theorem ggX5_setLetter_X5_fails : GoodIn wsX5_setLetter wsX5_fails := goodIn_r _ [13, 14, 29, 30, 31, 32, 33, 34, 35, 36] (by decide +kernel) (by decide +kernel)
set_option maxRecDepth 20000 in
theorem gX5_setLetter_X5_fails : GoodIn wsX5_setLetter (wsV RX5 66 RX5 yX5_fails wsX5_fails) := goodIn_app (goodIn_of _ (by decide +kernel)) ggX5_setLetter_X5_fails
set_option maxRecDepth 20000 in
theorem ggX5_setLetter_X5_isLetter : GoodIn wsX5_setLetter wsX5_isLetter := goodIn_r _ [17, 18, 7, 8, 5, 9] (by decide +kernel) (by decide +kernel)
set_option maxRecDepth 20000 in
theorem gX5_setLetter_X5_isLetter : GoodIn wsX5_setLetter (va_wsS RX5 92 yX5_isLetter wsX5_isLetter) := goodIn_app (goodIn_of _ (by decide +kernel)) ggX5_setLetter_X5_isLetter
set_option maxRecDepth 20000 in
theorem ggX5_setLetter_X5_changes : GoodIn wsX5_setLetter wsX5_changes := goodIn_r _ [22, 14, 23, 24, 1, 29, 30, 31, 32, 33, 34, 35, 36] (by decide +kernel) (by decide +kernel)
set_option maxRecDepth 20000 in
theorem gX5_setLetter_X5_changes : GoodIn wsX5_setLetter (wsV RX5 69 RX5 yX5_changes wsX5_changes) := goodIn_app (goodIn_of _ (by decide +kernel)) ggX5_setLetter_X5_changes
set_option maxRecDepth 20000 in
theorem ggX5_setLetter_X5_begins : GoodIn wsX5_setLetter wsX5_begins := goodIn_r _ [28, 1, 29, 30, 31, 32, 33, 34, 35, 36] (by decide +kernel) (by decide +kernel)
set_option maxRecDepth 20000 in
theorem gX5_setLetter_X5_begins : GoodIn wsX5_setLetter (wsV RX5 59 RX5 yX5_begins wsX5_begins) := goodIn_app (goodIn_of _ (by decide +kernel)) ggX5_setLetter_X5_begins
theorem dX5_undo_0 : decode cX5_undo 0 = .ok (.aload_n 0, 1) := by decide +kernel
theorem dX5_undo_1 : decode cX5_undo 1 = .ok (.getfield 29, 3) := by decide +kernel
theorem dX5_undo_4 : decode cX5_undo 4 = .ok (.ifCond .ne 9, 3) := by decide +kernel
theorem dX5_undo_7 : decode cX5_undo 7 = .ok (.aload_n 0, 1) := by decide +kernel
theorem dX5_undo_8 : decode cX5_undo 8 = .ok (.iconst 1, 1) := by decide +kernel
theorem dX5_undo_9 : decode cX5_undo 9 = .ok (.invokevirtual 66, 3) := by decide +kernel
theorem dX5_undo_12 : decode cX5_undo 12 = .ok (.ireturn, 1) := by decide +kernel
theorem dX5_undo_13 : decode cX5_undo 13 = .ok (.aload_n 0, 1) := by decide +kernel
theorem dX5_undo_14 : decode cX5_undo 14 = .ok (.iconst 0, 1) := by decide +kernel
theorem dX5_undo_15 : decode cX5_undo 15 = .ok (.putfield 25, 3) := by decide +kernel
theorem dX5_undo_18 : decode cX5_undo 18 = .ok (.aload_n 0, 1) := by decide +kernel
theorem dX5_undo_19 : decode cX5_undo 19 = .ok (.dup, 1) := by decide +kernel
theorem dX5_undo_20 : decode cX5_undo 20 = .ok (.getfield 29, 3) := by decide +kernel
theorem dX5_undo_23 : decode cX5_undo 23 = .ok (.iconst 1, 1) := by decide +kernel
theorem dX5_undo_24 : decode cX5_undo 24 = .ok (.isub, 1) := by decide +kernel
theorem dX5_undo_25 : decode cX5_undo 25 = .ok (.putfield 29, 3) := by decide +kernel
theorem dX5_undo_28 : decode cX5_undo 28 = .ok (.iconst 0, 1) := by decide +kernel
theorem dX5_undo_29 : decode cX5_undo 29 = .ok (.istore_n 1, 1) := by decide +kernel
theorem dX5_undo_30 : decode cX5_undo 30 = .ok (.iload_n 1, 1) := by decide +kernel
theorem dX5_undo_31 : decode cX5_undo 31 = .ok (.sipush 144, 3) := by decide +kernel
theorem dX5_undo_34 : decode cX5_undo 34 = .ok (.if_icmp .ge 30, 3) := by decide +kernel
theorem dX5_undo_37 : decode cX5_undo 37 = .ok (.aload_n 0, 1) := by decide +kernel
theorem dX5_undo_38 : decode cX5_undo 38 = .ok (.getfield 7, 3) := by decide +kernel
theorem dX5_undo_41 : decode cX5_undo 41 = .ok (.iload_n 1, 1) := by decide +kernel
theorem dX5_undo_42 : decode cX5_undo 42 = .ok (.aload_n 0, 1) := by decide +kernel
theorem dX5_undo_43 : decode cX5_undo 43 = .ok (.getfield 13, 3) := by decide +kernel
theorem dX5_undo_46 : decode cX5_undo 46 = .ok (.sipush 144, 3) := by decide +kernel
theorem dX5_undo_49 : decode cX5_undo 49 = .ok (.aload_n 0, 1) := by decide +kernel
theorem dX5_undo_50 : decode cX5_undo 50 = .ok (.getfield 29, 3) := by decide +kernel
theorem dX5_undo_53 : decode cX5_undo 53 = .ok (.imul, 1) := by decide +kernel
theorem dX5_undo_54 : decode cX5_undo 54 = .ok (.iload_n 1, 1) := by decide +kernel
theorem dX5_undo_55 : decode cX5_undo 55 = .ok (.iadd, 1) := by decide +kernel
theorem dX5_undo_56 : decode cX5_undo 56 = .ok (.iaload, 1) := by decide +kernel
theorem dX5_undo_57 : decode cX5_undo 57 = .ok (.iastore, 1) := by decide +kernel
theorem dX5_undo_58 : decode cX5_undo 58 = .ok (.iinc 1 1, 3) := by decide +kernel
theorem dX5_undo_61 : decode cX5_undo 61 = .ok (.goto (-31), 3) := by decide +kernel
theorem dX5_undo_64 : decode cX5_undo 64 = .ok (.aload_n 0, 1) := by decide +kernel
theorem dX5_undo_65 : decode cX5_undo 65 = .ok (.getfield 29, 3) := by decide +kernel
theorem dX5_undo_68 : decode cX5_undo 68 = .ok (.ireturn, 1) := by decide +kernel
set_option maxRecDepth 20000 in
theorem ggX5_undo_X5_fails : GoodIn wsX5_undo wsX5_fails := goodIn_r _ [9, 2, 10, 11, 12, 13, 14, 15, 16, 17] (by decide +kernel) (by decide +kernel)
set_option maxRecDepth 20000 in
theorem gX5_undo_X5_fails : GoodIn wsX5_undo (wsV RX5 66 RX5 yX5_fails wsX5_fails) := goodIn_app (goodIn_of _ (by decide +kernel)) ggX5_undo_X5_fails
theorem dX5_saveState_0 : decode cX5_saveState 0 = .ok (.iload_n 1, 1) := by decide +kernel
theorem dX5_saveState_1 : decode cX5_saveState 1 = .ok (.invokestatic 114, 3) := by decide +kernel
theorem dX5_saveState_4 : decode cX5_saveState 4 = .ok (.ifCond .ne 9, 3) := by decide +kernel
theorem dX5_saveState_7 : decode cX5_saveState 7 = .ok (.aload_n 0, 1) := by decide +kernel
theorem dX5_saveState_8 : decode cX5_saveState 8 = .ok (.iconst 1, 1) := by decide +kernel
theorem dX5_saveState_9 : decode cX5_saveState 9 = .ok (.invokevirtual 66, 3) := by decide +kernel
theorem dX5_saveState_12 : decode cX5_saveState 12 = .ok (.ireturn, 1) := by decide +kernel
theorem dX5_saveState_13 : decode cX5_saveState 13 = .ok (.iconst 0, 1) := by decide +kernel
theorem dX5_saveState_14 : decode cX5_saveState 14 = .ok (.istore_n 2, 1) := by decide +kernel
theorem dX5_saveState_15 : decode cX5_saveState 15 = .ok (.iload_n 2, 1) := by decide +kernel
theorem dX5_saveState_16 : decode cX5_saveState 16 = .ok (.sipush 144, 3) := by decide +kernel
theorem dX5_saveState_19 : decode cX5_saveState 19 = .ok (.if_icmp .ge 27, 3) := by decide +kernel
theorem dX5_saveState_22 : decode cX5_saveState 22 = .ok (.aload_n 0, 1) := by decide +kernel
theorem dX5_saveState_23 : decode cX5_saveState 23 = .ok (.getfield 16, 3) := by decide +kernel
theorem dX5_saveState_26 : decode cX5_saveState 26 = .ok (.sipush 144, 3) := by decide +kernel
theorem dX5_saveState_29 : decode cX5_saveState 29 = .ok (.iload_n 1, 1) := by decide +kernel
theorem dX5_saveState_30 : decode cX5_saveState 30 = .ok (.imul, 1) := by decide +kernel
theorem dX5_saveState_31 : decode cX5_saveState 31 = .ok (.iload_n 2, 1) := by decide +kernel
theorem dX5_saveState_32 : decode cX5_saveState 32 = .ok (.iadd, 1) := by decide +kernel
theorem dX5_saveState_33 : decode cX5_saveState 33 = .ok (.aload_n 0, 1) := by decide +kernel
theorem dX5_saveState_34 : decode cX5_saveState 34 = .ok (.getfield 7, 3) := by decide +kernel
theorem dX5_saveState_37 : decode cX5_saveState 37 = .ok (.iload_n 2, 1) := by decide +kernel
theorem dX5_saveState_38 : decode cX5_saveState 38 = .ok (.iaload, 1) := by decide +kernel
theorem dX5_saveState_39 : decode cX5_saveState 39 = .ok (.iastore, 1) := by decide +kernel
theorem dX5_saveState_40 : decode cX5_saveState 40 = .ok (.iinc 2 1, 3) := by decide +kernel
theorem dX5_saveState_43 : decode cX5_saveState 43 = .ok (.goto (-28), 3) := by decide +kernel
theorem dX5_saveState_46 : decode cX5_saveState 46 = .ok (.aload_n 0, 1) := by decide +kernel
theorem dX5_saveState_47 : decode cX5_saveState 47 = .ok (.getfield 19, 3) := by decide +kernel
theorem dX5_saveState_50 : decode cX5_saveState 50 = .ok (.iload_n 1, 1) := by decide +kernel
theorem dX5_saveState_51 : decode cX5_saveState 51 = .ok (.iconst 1, 1) := by decide +kernel
theorem dX5_saveState_52 : decode cX5_saveState 52 = .ok (.iastore, 1) := by decide +kernel
theorem dX5_saveState_53 : decode cX5_saveState 53 = .ok (.aload_n 0, 1) := by decide +kernel
theorem dX5_saveState_54 : decode cX5_saveState 54 = .ok (.aload_n 0, 1) := by decide +kernel
theorem dX5_saveState_55 : decode cX5_saveState 55 = .ok (.getfield 7, 3) := by decide +kernel
theorem dX5_saveState_58 : decode cX5_saveState 58 = .ok (.iconst 0, 1) := by decide +kernel
theorem dX5_saveState_59 : decode cX5_saveState 59 = .ok (.iaload, 1) := by decide +kernel
theorem dX5_saveState_60 : decode cX5_saveState 60 = .ok (.invokevirtual 95, 3) := by decide +kernel
theorem dX5_saveState_63 : decode cX5_saveState 63 = .ok (.ireturn, 1) := by decide +kernel
set_option maxRecDepth 20000 in
theorem ggX5_saveState_X5_isSlot : GoodIn wsX5_saveState wsX5_isSlot := goodIn_r _ [7] (by decide +kernel) (by decide +kernel)
set_option maxRecDepth 20000 in
theorem gX5_saveState_X5_isSlot : GoodIn wsX5_saveState (va_wsS RX5 114 yX5_isSlot wsX5_isSlot) := goodIn_app (goodIn_of _ (by decide +kernel)) ggX5_saveState_X5_isSlot
set_option maxRecDepth 20000 in
theorem ggX5_saveState_X5_fails : GoodIn wsX5_saveState wsX5_fails := goodIn_r _ [11, 12, 17, 18, 19, 20, 21, 22, 23, 24] (by decide +kernel) (by decide +kernel)
set_option maxRecDepth 20000 in
theorem gX5_saveState_X5_fails : GoodIn wsX5_saveState (wsV RX5 66 RX5 yX5_fails wsX5_fails) := goodIn_app (goodIn_of _ (by decide +kernel)) ggX5_saveState_X5_fails
set_option maxRecDepth 20000 in
theorem ggX5_saveState_X5_told : GoodIn wsX5_saveState wsX5_told := goodIn_r _ [16, 12, 17, 18, 19, 20, 21, 22, 23, 24] (by decide +kernel) (by decide +kernel)
set_option maxRecDepth 20000 in
theorem gX5_saveState_X5_told : GoodIn wsX5_saveState (wsV RX5 95 RX5 yX5_told wsX5_told) := goodIn_app (goodIn_of _ (by decide +kernel)) ggX5_saveState_X5_told
theorem dX5_loadState_0 : decode cX5_loadState 0 = .ok (.iload_n 1, 1) := by decide +kernel
theorem dX5_loadState_1 : decode cX5_loadState 1 = .ok (.invokestatic 114, 3) := by decide +kernel
theorem dX5_loadState_4 : decode cX5_loadState 4 = .ok (.ifCond .ne 9, 3) := by decide +kernel
theorem dX5_loadState_7 : decode cX5_loadState 7 = .ok (.aload_n 0, 1) := by decide +kernel
theorem dX5_loadState_8 : decode cX5_loadState 8 = .ok (.iconst 1, 1) := by decide +kernel
theorem dX5_loadState_9 : decode cX5_loadState 9 = .ok (.invokevirtual 66, 3) := by decide +kernel
theorem dX5_loadState_12 : decode cX5_loadState 12 = .ok (.ireturn, 1) := by decide +kernel
theorem dX5_loadState_13 : decode cX5_loadState 13 = .ok (.aload_n 0, 1) := by decide +kernel
theorem dX5_loadState_14 : decode cX5_loadState 14 = .ok (.getfield 19, 3) := by decide +kernel
theorem dX5_loadState_17 : decode cX5_loadState 17 = .ok (.iload_n 1, 1) := by decide +kernel
theorem dX5_loadState_18 : decode cX5_loadState 18 = .ok (.iaload, 1) := by decide +kernel
theorem dX5_loadState_19 : decode cX5_loadState 19 = .ok (.ifCond .ne 9, 3) := by decide +kernel
theorem dX5_loadState_22 : decode cX5_loadState 22 = .ok (.aload_n 0, 1) := by decide +kernel
theorem dX5_loadState_23 : decode cX5_loadState 23 = .ok (.iconst 2, 1) := by decide +kernel
theorem dX5_loadState_24 : decode cX5_loadState 24 = .ok (.invokevirtual 66, 3) := by decide +kernel
theorem dX5_loadState_27 : decode cX5_loadState 27 = .ok (.ireturn, 1) := by decide +kernel
theorem dX5_loadState_28 : decode cX5_loadState 28 = .ok (.aload_n 0, 1) := by decide +kernel
theorem dX5_loadState_29 : decode cX5_loadState 29 = .ok (.invokevirtual 69, 3) := by decide +kernel
theorem dX5_loadState_32 : decode cX5_loadState 32 = .ok (.iconst 0, 1) := by decide +kernel
theorem dX5_loadState_33 : decode cX5_loadState 33 = .ok (.istore_n 2, 1) := by decide +kernel
theorem dX5_loadState_34 : decode cX5_loadState 34 = .ok (.iload_n 2, 1) := by decide +kernel
theorem dX5_loadState_35 : decode cX5_loadState 35 = .ok (.sipush 144, 3) := by decide +kernel
theorem dX5_loadState_38 : decode cX5_loadState 38 = .ok (.if_icmp .ge 27, 3) := by decide +kernel
theorem dX5_loadState_41 : decode cX5_loadState 41 = .ok (.aload_n 0, 1) := by decide +kernel
theorem dX5_loadState_42 : decode cX5_loadState 42 = .ok (.getfield 7, 3) := by decide +kernel
theorem dX5_loadState_45 : decode cX5_loadState 45 = .ok (.iload_n 2, 1) := by decide +kernel
theorem dX5_loadState_46 : decode cX5_loadState 46 = .ok (.aload_n 0, 1) := by decide +kernel
theorem dX5_loadState_47 : decode cX5_loadState 47 = .ok (.getfield 16, 3) := by decide +kernel
theorem dX5_loadState_50 : decode cX5_loadState 50 = .ok (.sipush 144, 3) := by decide +kernel
theorem dX5_loadState_53 : decode cX5_loadState 53 = .ok (.iload_n 1, 1) := by decide +kernel
theorem dX5_loadState_54 : decode cX5_loadState 54 = .ok (.imul, 1) := by decide +kernel
theorem dX5_loadState_55 : decode cX5_loadState 55 = .ok (.iload_n 2, 1) := by decide +kernel
theorem dX5_loadState_56 : decode cX5_loadState 56 = .ok (.iadd, 1) := by decide +kernel
theorem dX5_loadState_57 : decode cX5_loadState 57 = .ok (.iaload, 1) := by decide +kernel
theorem dX5_loadState_58 : decode cX5_loadState 58 = .ok (.iastore, 1) := by decide +kernel
theorem dX5_loadState_59 : decode cX5_loadState 59 = .ok (.iinc 2 1, 3) := by decide +kernel
theorem dX5_loadState_62 : decode cX5_loadState 62 = .ok (.goto (-28), 3) := by decide +kernel
theorem dX5_loadState_65 : decode cX5_loadState 65 = .ok (.aload_n 0, 1) := by decide +kernel
theorem dX5_loadState_66 : decode cX5_loadState 66 = .ok (.getfield 7, 3) := by decide +kernel
theorem dX5_loadState_69 : decode cX5_loadState 69 = .ok (.iconst 0, 1) := by decide +kernel
theorem dX5_loadState_70 : decode cX5_loadState 70 = .ok (.iaload, 1) := by decide +kernel
theorem dX5_loadState_71 : decode cX5_loadState 71 = .ok (.ireturn, 1) := by decide +kernel
set_option maxRecDepth 20000 in
theorem ggX5_loadState_X5_isSlot : GoodIn wsX5_loadState wsX5_isSlot := goodIn_r _ [7] (by decide +kernel) (by decide +kernel)
set_option maxRecDepth 20000 in
theorem gX5_loadState_X5_isSlot : GoodIn wsX5_loadState (va_wsS RX5 114 yX5_isSlot wsX5_isSlot) := goodIn_app (goodIn_of _ (by decide +kernel)) ggX5_loadState_X5_isSlot
set_option maxRecDepth 20000 in
theorem ggX5_loadState_X5_fails : GoodIn wsX5_loadState wsX5_fails := goodIn_r _ [11, 12, 19, 20, 21, 22, 23, 24, 25, 26] (by decide +kernel) (by decide +kernel)
set_option maxRecDepth 20000 in
theorem gX5_loadState_X5_fails : GoodIn wsX5_loadState (wsV RX5 66 RX5 yX5_fails wsX5_fails) := goodIn_app (goodIn_of _ (by decide +kernel)) ggX5_loadState_X5_fails
set_option maxRecDepth 20000 in
theorem ggX5_loadState_X5_changes : GoodIn wsX5_loadState wsX5_changes := goodIn_r _ [16, 12, 17, 18, 2, 19, 20, 21, 22, 23, 24, 25, 26] (by decide +kernel) (by decide +kernel)
set_option maxRecDepth 20000 in
theorem gX5_loadState_X5_changes : GoodIn wsX5_loadState (wsV RX5 69 RX5 yX5_changes wsX5_changes) := goodIn_app (goodIn_of _ (by decide +kernel)) ggX5_loadState_X5_changes
def mTakeL (M : MS) (tx : List Int32) : MS := (tx.map (fun x => x - iI 97), M.2.1, [], M.2.2.2.1, M.2.2.2.2.1, 0, 0, 0)
def mTakeW (M : MS) (tx : List Int32) : MS := (M.1, tx.map (fun x => x - iI 97), [], M.2.2.2.1, M.2.2.2.2.1, 0, 0, 0)
def mRules (M : MS) (x y : Int) : MS := (M.1, M.2.1, [], x, y, 0, 0, 0)
def mSet (M : MS) (k : Nat) (x : Int32) : MS := (M.1.set k x, M.2.1, [], M.2.2.2.1, M.2.2.2.2.1, 0, 0, 0)
theorem gl_map {tl : Int} {Tx : Nat → Int32} {tx : List Int32} (hT : Rep tl Tx tx) {j : Nat} (hj : j < tx.length) : Tx j - iI 97 = gl (tx.map (fun x => x - iI 97)) j := by
  rw [hT.2 j hj]
  simp [gl, List.getD_eq_getElem?_getD, hj]
theorem RG_tail {G G1 : Nat → Int32} (hz : ∀ j : Nat, 80 ≤ j → j < 144 → G1 j = iI 0) : G1 80 = iI 0 ∧ G1 81 = iI 0 ∧ G1 82 = iI 0 ∧ G1 83 = iI (([] : List Int32).length : Int) := ⟨hz _ (by omega) (by omega), hz _ (by omega) (by omega), hz _ (by omega) (by omega), hz _ (by omega) (by omega)⟩
theorem RG_takeL {r : Int32} {G G1 Tx : Nat → Int32} {M : MS} {tx : List Int32} {tl : Int} (hG : RG G M) (hM : MOk M) (hT : Rep tl Tx tx) (hw : r = iI tl ∧ G1 (0 : Int).toNat = iI tl ∧ (∀ j : Nat, (j : Int) < tl → G1 ((0 : Int).toNat + 1 + j) = Tx j - iI 97) ∧ (∀ j : Nat, j < 80 → ((j : Int) < 0 ∨ (0 : Int) + 60 < j) → G1 j = G j) ∧ ∀ j : Nat, 80 ≤ j → j < 144 → G1 j = iI 0) : RG G1 (mTakeL M tx) := by
  obtain ⟨h0, h1L, h61, h62W, h78, h79, h80, h81, h82, h83, h84F⟩ := hG
  obtain ⟨o1, o2, o3, o4, _⟩ := hM
  obtain ⟨_, w0, w1, w2, w3⟩ := hw
  have htl := hT.1
  obtain ⟨z0, z1, z2, z3⟩ := RG_tail (G := G) w3
  refine ⟨w0.trans (congrArg iI (by rw [htl]; simp [mTakeL])), fun j hj => ?_, by rw [w2 61 (by omega) (by omega)]; exact h61, fun j hj => ?_, by rw [w2 78 (by omega) (by omega)]; exact h78, by rw [w2 79 (by omega) (by omega)]; exact h79, z0, z1, z2, z3, fun j hj => absurd hj (Nat.not_lt_zero _)⟩
  · have hj2 : j < tx.length := by simpa [mTakeL] using hj
    have := w1 j (by omega)
    rw [show (0 : Int).toNat + 1 + j = 1 + j from by simp] at this
    rw [this]; exact gl_map hT hj2
  · have hj2 : j < M.2.1.length := hj
    rw [w2 _ (by omega) (by omega)]; exact h62W j hj2
theorem RG_takeW {r : Int32} {G G1 Tx : Nat → Int32} {M : MS} {tx : List Int32} {tl : Int} (hG : RG G M) (hM : MOk M) (hT : Rep tl Tx tx) (hw : r = iI tl ∧ G1 (61 : Int).toNat = iI tl ∧ (∀ j : Nat, (j : Int) < tl → G1 ((61 : Int).toNat + 1 + j) = Tx j - iI 97) ∧ (∀ j : Nat, j < 80 → ((j : Int) < 61 ∨ (61 : Int) + 16 < j) → G1 j = G j) ∧ ∀ j : Nat, 80 ≤ j → j < 144 → G1 j = iI 0) : RG G1 (mTakeW M tx) := by
  obtain ⟨h0, h1L, h61, h62W, h78, h79, h80, h81, h82, h83, h84F⟩ := hG
  obtain ⟨o1, o2, o3, o4, _⟩ := hM
  obtain ⟨_, w0, w1, w2, w3⟩ := hw
  have htl := hT.1
  obtain ⟨z0, z1, z2, z3⟩ := RG_tail (G := G) w3
  refine ⟨by rw [w2 0 (by omega) (by omega)]; exact h0, fun j hj => ?_, w0.trans (congrArg iI (by rw [htl]; simp [mTakeW])), fun j hj => ?_, by rw [w2 78 (by omega) (by omega)]; exact h78, by rw [w2 79 (by omega) (by omega)]; exact h79, z0, z1, z2, z3, fun j hj => absurd hj (Nat.not_lt_zero _)⟩
  · have hj2 : j < M.1.length := hj
    rw [w2 _ (by omega) (by omega)]; exact h1L j hj2
  · have hj2 : j < tx.length := by simpa [mTakeW] using hj
    have := w1 j (by omega)
    rw [show (61 : Int).toNat + 1 + j = 62 + j from rfl] at this
    rw [this]; exact gl_map hT hj2
theorem RG_bgn {G G1 : Nat → Int32} {M : MS} (hG : RG G M) (hM : MOk M) (hw : (∀ j : Nat, j < 80 → G1 j = G j) ∧ ∀ j : Nat, 80 ≤ j → j < 144 → G1 j = iI 0) : RG G1 (bgn M) := by
  obtain ⟨h0, h1L, h61, h62W, h78, h79, h80, h81, h82, h83, h84F⟩ := hG
  obtain ⟨o1, o2, o3, o4, _⟩ := hM
  obtain ⟨w2, w3⟩ := hw
  obtain ⟨z0, z1, z2, z3⟩ := RG_tail (G := G) w3
  refine ⟨by rw [w2 0 (by omega)]; exact h0, fun j hj => ?_, by rw [w2 61 (by omega)]; exact h61, fun j hj => ?_, by rw [w2 78 (by omega)]; exact h78, by rw [w2 79 (by omega)]; exact h79, z0, z1, z2, z3, fun j hj => absurd hj (Nat.not_lt_zero _)⟩
  · have hj2 : j < M.1.length := hj
    rw [w2 _ (by omega)]; exact h1L j hj2
  · have hj2 : j < M.2.1.length := hj
    rw [w2 _ (by omega)]; exact h62W j hj2
theorem RG_rules {G G1 : Nat → Int32} {M : MS} {x y : Int} (hG : RG G M) (hM : MOk M) (hw : (∀ j : Nat, j < 80 → G1 j = upd (upd G (78 : Int).toNat (iI x)) (79 : Int).toNat (iI y) j) ∧ ∀ j : Nat, 80 ≤ j → j < 144 → G1 j = iI 0) : RG G1 (mRules M x y) := by
  obtain ⟨h0, h1L, h61, h62W, h78, h79, h80, h81, h82, h83, h84F⟩ := hG
  obtain ⟨o1, o2, o3, o4, _⟩ := hM
  obtain ⟨w2, w3⟩ := hw
  obtain ⟨z0, z1, z2, z3⟩ := RG_tail (G := G) w3
  have hu : ∀ j : Nat, j < 78 → G1 j = G j := fun j hj => by rw [w2 j (by omega), upd_ne _ _ (by omega), upd_ne _ _ (by omega)]
  refine ⟨by rw [hu 0 (by omega)]; exact h0, fun j hj => ?_, by rw [hu 61 (by omega)]; exact h61, fun j hj => ?_, by rw [w2 78 (by omega), upd_ne _ _ (by omega)]; exact upd_same _ _ _, by rw [w2 79 (by omega)]; exact upd_same _ _ _, z0, z1, z2, z3, fun j hj => absurd hj (Nat.not_lt_zero _)⟩
  · have hj2 : j < M.1.length := hj
    rw [hu _ (by omega)]; exact h1L j hj2
  · have hj2 : j < M.2.1.length := hj
    rw [hu _ (by omega)]; exact h62W j hj2
theorem RG_set {G G1 : Nat → Int32} {M : MS} {x : Int} {v : Int32} (hG : RG G M) (hM : MOk M) (hx : 0 ≤ x ∧ x < (M.1.length : Int)) (hw : (∀ j : Nat, j < 80 → G1 j = upd G (1 + x).toNat v j) ∧ ∀ j : Nat, 80 ≤ j → j < 144 → G1 j = iI 0) : RG G1 (mSet M x.toNat v) := by
  obtain ⟨h0, h1L, h61, h62W, h78, h79, h80, h81, h82, h83, h84F⟩ := hG
  obtain ⟨o1, o2, o3, o4, _⟩ := hM
  obtain ⟨w2, w3⟩ := hw
  obtain ⟨z0, z1, z2, z3⟩ := RG_tail (G := G) w3
  refine ⟨by rw [w2 0 (by omega), upd_ne _ _ (by omega), h0]; simp [mSet], fun j hj => ?_, by rw [w2 61 (by omega), upd_ne _ _ (by omega)]; exact h61, fun j hj => ?_, by rw [w2 78 (by omega), upd_ne _ _ (by omega)]; exact h78, by rw [w2 79 (by omega), upd_ne _ _ (by omega)]; exact h79, z0, z1, z2, z3, fun j hj => absurd hj (Nat.not_lt_zero _)⟩
  · have hj2 : j < M.1.length := by simpa [mSet] using hj
    rw [w2 _ (by omega)]
    by_cases e : j = x.toNat
    · rw [show 1 + j = (1 + x).toNat by omega, upd_same, e]
      have : x.toNat < M.1.length := by omega
      simp [mSet, gl, List.getD_eq_getElem?_getD, this]
    · rw [upd_ne _ _ (by omega), h1L j hj2]
      have e2 : ¬ x.toNat = j := fun q => e q.symm
      simp [mSet, gl, List.getD_eq_getElem?_getD, List.getElem?_set, e2]
  · have hj2 : j < M.2.1.length := hj
    rw [w2 _ (by omega), upd_ne _ _ (by omega)]; exact h62W j hj2
def RSl (Sl Sv : Nat → Int32) (sl : Nat → Option MS) : Prop := ∀ i : Nat, i < 2 → (Sv i = iI 0 ∧ sl i = none) ∨ (Sv i = iI 1 ∧ ∃ M : MS, sl i = some M ∧ RG (fun k => Sl (144 * i + k)) M ∧ MOk M)
theorem RSl_save {G Sl S2 Sv : Nat → Int32} {M : MS} {sl : Nat → Option MS} {x : Int} (hG : RG G M) (hM : MOk M) (h : RSl Sl Sv sl) (hx : 0 ≤ x ∧ x ≤ 1) (ha : ∀ j : Nat, j < 144 → S2 (144 * x.toNat + j) = G j) (hz : ∀ j : Nat, ((j : Int) < 144 * x ∨ 144 * x + 144 ≤ j) → S2 j = Sl j) : RSl S2 (upd Sv x.toNat (iI 1)) (fun j => if j = x.toNat then some M else sl j) := by
  intro i hi
  by_cases e : i = x.toNat
  · refine Or.inr ⟨by rw [e]; exact upd_same _ _ _, M, if_pos e, ?_, hM⟩
    exact hG.congr hM (fun k hk => by rw [e]; exact ha k hk)
  · rcases h i hi with ⟨a, b⟩ | ⟨a, M2, b, c, d⟩
    · exact Or.inl ⟨by rw [upd_ne _ _ e]; exact a, (if_neg e).trans b⟩
    · exact Or.inr ⟨by rw [upd_ne _ _ e]; exact a, M2, (if_neg e).trans b, c.congr d (fun k hk => hz _ (by omega)), d⟩
theorem RSl_none {Sl Sv : Nat → Int32} {sl : Nat → Option MS} {x : Int} (h : RSl Sl Sv sl) (hx : 0 ≤ x ∧ x ≤ 1) (h0 : (Sv x.toNat).toInt = 0) : sl x.toNat = none := by
  rcases h x.toNat (by omega) with ⟨a, b⟩ | ⟨a, _⟩
  · exact b
  · rw [a, iI_t (by omega) (by omega)] at h0
    omega
theorem RSl_some {Sl Sv : Nat → Int32} {sl : Nat → Option MS} {x : Int} (h : RSl Sl Sv sl) (hx : 0 ≤ x ∧ x ≤ 1) (h0 : ¬ (Sv x.toNat).toInt = 0) : ∃ M2 : MS, sl x.toNat = some M2 ∧ RG (fun k => Sl (144 * x.toNat + k)) M2 ∧ MOk M2 := by
  rcases h x.toNat (by omega) with ⟨a, b⟩ | ⟨a, b⟩
  · rw [a, iI_t (by omega) (by omega)] at h0
    omega
  · exact b

set_option maxHeartbeats 4000000 in
set_option maxRecDepth 100000 in
theorem c_X5_takeLine (l : Launch) (D : va_G) (cy : Nat → ClassId) (m0 : Nat) (a0 : Nat) (p0 : Nat) (q0 : Nat) (v0 : Nat) (t0 : Nat) (ho : Int) (th : Int) (tl : Int) (G : Nat → Int32) (Hh : Nat → Int32) (Tx : Nat → Int32) (M : MS) (h : List MS) (tx : List Int32) (hG : RG G M) (hM : MOk M) (hH : RH Hh h) (hho : ho = (h.length : Int) ∧ h.length ≤ 6) (hT1 : Rep tl Tx tx) (hT2 : tx.length ≤ 80) : Ci l D cy yX5_takeLine wsX5_takeLine 3 67 [.ref m0] [(m0, .inr (5, [.ref a0, .ref p0, .int (iI ho), .ref q0, .ref v0, .int (iI th), .ref t0, .int (iI tl)])), (a0, .inl (cy 0, 144, .inl G)), (p0, .inl (cy 0, 864, .inl Hh)), (t0, .inl (cy 0, 80, .inl Tx))] (fun (r : Int32) (u : (Nat → Int32) × Int × (Nat → Int32) × Int × Int) => (¬ (errF tx 0 = -1 ∧ (tx.length : Int) ≤ 60) ∧ r = iI 0 ∧ u.2.2.2.1 = 1 ∧ u.2.2.2.2 = tl ∧ u.1 = G ∧ u.2.1 = ho ∧ u.2.2.1 = Hh) ∨ ((errF tx 0 = -1 ∧ (tx.length : Int) ≤ 60) ∧ r = iI (tx.length : Int) ∧ u.2.2.2.1 = 0 ∧ u.2.2.2.2 = 0 ∧ RG u.1 (mTakeL M tx) ∧ u.2.1 = ((pushH h M).length : Int) ∧ RH u.2.2.1 (pushH h M))) (fun u : (Nat → Int32) × Int × (Nat → Int32) × Int × Int => [(m0, .inr (5, [.ref a0, .ref p0, .int (iI u.2.1), .ref q0, .ref v0, .int (iI u.2.2.2.1), .ref t0, .int (iI u.2.2.2.2)])), (a0, .inl (cy 0, 144, .inl u.1)), (p0, .inl (cy 0, 864, .inl u.2.2.1)), (t0, .inl (cy 0, 80, .inl Tx))]) := by
  refine Ci_of (cc := cX5_takeLine) (maxL := 1) (ret := (some .int)) (by decide) rfl rfl ?_
  intro p e s m args below meth c A hx hb hr hts hown hlocks hml hP hK hD hT hA ls hl
  have hS : va_S A s.heap s.heap [] := va_S.rf
  have hl : lv_has ls 1 [(0, .ref m0)] := hl
  obtain ⟨h0, h1L, h61, h62W, h78, h79, h80, h81, h82, h83, h84F⟩ := id hG
  obtain ⟨o1, o2, o3, o4, o5, o6, o7, o8, o9, o10, o11, o12, o13, o14, o15⟩ := id hM
  have htl := hT1.1
  refine lv_aload_n hx hb dX5_takeLine_0 rfl (lv_at hl 0 rfl) ?_
  refine lv_bipush (v := iI 60) hx hb dX5_takeLine_1 (by decide +kernel) ?_
  refine z_cVi (n := 1) (b := m0) (As := [.int (iI 60)]) (rest := []) ⟨hx, hb, hml, hown, hts⟩ (c_X5_canTake l D cy m0 a0 p0 q0 v0 t0 ho th tl Tx tx (60 : Int) (by first | assumption | omega) (by first | assumption | omega) (by first | assumption | omega)) gX5_takeLine_X5_canTake rfl (by decide +kernel) ⟨Nat.le_of_ble_eq_true rfl, Nat.le_of_ble_eq_true rfl⟩ hK hT hP hD hS hA [0, 3] rfl rfl 0 5 rfl rfl rfl (fun _ => rfl) rfl hl.1 rfl (Nat.le_of_ble_eq_true rfl) dX5_takeLine_3 ⟨Nat.zero_le _, Nat.zero_le _⟩ (fun r_1 u_1 H locs hw_1 hP hD hS => ?_)
  have hw_1 : ((errF tx 0 = -1 ∧ (tx.length : Int) ≤ (60 : Int)) ∧ r_1 = iI 1) ∨ (¬ (errF tx 0 = -1 ∧ (tx.length : Int) ≤ (60 : Int)) ∧ r_1 = iI 0) := hw_1
  have hP : va_P D vwCl [(m0, .inr (5, [.ref a0, .ref p0, .int (iI ho), .ref q0, .ref v0, .int (iI th), .ref t0, .int (iI tl)])), (a0, .inl (cy 0, 144, .inl G)), (p0, .inl (cy 0, 864, .inl Hh)), (t0, .inl (cy 0, 80, .inl Tx))] H := hP
  have hD : va_D A [(m0, .inr (5, [.ref a0, .ref p0, .int (iI ho), .ref q0, .ref v0, .int (iI th), .ref t0, .int (iI tl)])), (a0, .inl (cy 0, 144, .inl G)), (p0, .inl (cy 0, 864, .inl Hh)), (t0, .inl (cy 0, 80, .inl Tx))] := hD
  rcases hw_1 with ⟨h_1, rfl⟩ | ⟨h_1, rfl⟩
  · --
    refine z_if_ne (tgt := 15) hx hb (iI_t (by omega) (by omega)) dX5_takeLine_6 (by decide) (fun _ => ?_) (fun c2 => absurd c2 (by omega))
    refine lv_aload_n hx hb dX5_takeLine_15 rfl (lv_at hl 0 rfl) ?_
    refine z_cVv (n := 0) (b := m0) (As := []) (rest := []) ⟨hx, hb, hml, hown, hts⟩ (c_X5_changes l D cy m0 a0 p0 q0 v0 t0 ho th tl G Hh M h (by first | assumption | omega) (by first | assumption | omega) (by first | assumption | omega) (by first | assumption | omega)) gX5_takeLine_X5_changes rfl (by decide +kernel) ⟨Nat.le_of_ble_eq_true rfl, Nat.le_of_ble_eq_true rfl⟩ hK hT hP hD hS hA [0, 1, 2] rfl rfl 0 5 rfl rfl rfl (fun _ => rfl) rfl hl.1 rfl (Nat.le_of_ble_eq_true rfl) dX5_takeLine_16 ⟨Nat.zero_le _, Nat.zero_le _⟩ (fun  u_3 H locs hw_3 hP hD hS => ?_)
    obtain ⟨ho1_3, H1_3⟩ := u_3
    have hw_3 : ho1_3 = ((pushH h M).length : Int) ∧ RH H1_3 (pushH h M) := hw_3
    have hP : va_P D vwCl [(m0, .inr (5, [.ref a0, .ref p0, .int (iI ho1_3), .ref q0, .ref v0, .int (iI 0), .ref t0, .int (iI tl)])), (a0, .inl (cy 0, 144, .inl G)), (p0, .inl (cy 0, 864, .inl H1_3)), (t0, .inl (cy 0, 80, .inl Tx))] H := hP
    have hD : va_D A [(m0, .inr (5, [.ref a0, .ref p0, .int (iI ho1_3), .ref q0, .ref v0, .int (iI 0), .ref t0, .int (iI tl)])), (a0, .inl (cy 0, 144, .inl G)), (p0, .inl (cy 0, 864, .inl H1_3)), (t0, .inl (cy 0, 80, .inl Tx))] := hD
    refine lv_aload_n hx hb dX5_takeLine_19 rfl (lv_at hl 0 rfl) ?_
    refine lv_iconst (v := iI 0) hx hb dX5_takeLine_20 rfl ?_
    refine lv_bipush (v := iI 60) hx hb dX5_takeLine_21 (by decide +kernel) ?_
    refine z_cVi (n := 2) (b := m0) (As := [.int (iI 0), .int (iI 60)]) (rest := []) ⟨hx, hb, hml, hown, hts⟩ (c_X5_takes l D cy m0 a0 p0 q0 v0 t0 ho1_3 (0 : Int) tl G Tx (0 : Int) (60 : Int) (by first | assumption | omega) (by first | assumption | omega)) gX5_takeLine_X5_takes rfl (by decide +kernel) ⟨Nat.le_of_ble_eq_true rfl, Nat.le_of_ble_eq_true rfl⟩ hK hT hP hD hS hA [0, 1, 3] rfl rfl 0 5 rfl rfl rfl (fun _ => rfl) rfl hl.1 rfl (Nat.le_of_ble_eq_true rfl) dX5_takeLine_23 ⟨Nat.zero_le _, Nat.zero_le _⟩ (fun r_4 u_4 H locs hw_4 hP hD hS => ?_)
    obtain ⟨G1_4, rfl⟩ : ∃ z, z = u_4 := ⟨_, rfl⟩
    have hw_4 : r_4 = iI tl ∧ G1_4 (0 : Int).toNat = iI tl ∧ (∀ j : Nat, (j : Int) < tl → G1_4 ((0 : Int).toNat + 1 + j) = Tx j - iI 97) ∧ (∀ j : Nat, j < 80 → ((j : Int) < (0 : Int) ∨ (0 : Int) + (60 : Int) < j) → G1_4 j = G j) ∧ ∀ j : Nat, 80 ≤ j → j < 144 → G1_4 j = iI 0 := hw_4
    have hP : va_P D vwCl [(m0, .inr (5, [.ref a0, .ref p0, .int (iI ho1_3), .ref q0, .ref v0, .int (iI (0 : Int)), .ref t0, .int (iI 0)])), (a0, .inl (cy 0, 144, .inl G1_4)), (p0, .inl (cy 0, 864, .inl H1_3)), (t0, .inl (cy 0, 80, .inl Tx))] H := hP
    have hD : va_D A [(m0, .inr (5, [.ref a0, .ref p0, .int (iI ho1_3), .ref q0, .ref v0, .int (iI (0 : Int)), .ref t0, .int (iI 0)])), (a0, .inl (cy 0, 144, .inl G1_4)), (p0, .inl (cy 0, 864, .inl H1_3)), (t0, .inl (cy 0, 80, .inl Tx))] := hD
    exact z_iret hx hb hr hlocks hS (G1_4, ho1_3, H1_3, (0 : Int), 0) (show (¬ (errF tx 0 = -1 ∧ (tx.length : Int) ≤ 60) ∧ r_4 = iI 0 ∧ (0 : Int) = 1 ∧ 0 = tl ∧ G1_4 = G ∧ ho1_3 = ho ∧ H1_3 = Hh) ∨ ((errF tx 0 = -1 ∧ (tx.length : Int) ≤ 60) ∧ r_4 = iI (tx.length : Int) ∧ (0 : Int) = 0 ∧ 0 = 0 ∧ RG G1_4 (mTakeL M tx) ∧ ho1_3 = ((pushH h M).length : Int) ∧ RH H1_3 (pushH h M)) from (Or.inr ⟨by omega, hw_4.1.trans (congrArg iI (by have := hT1.1; omega)), rfl, rfl, RG_takeL hG hM hT1 hw_4, hw_3⟩)) hP dX5_takeLine_26
  · --
    refine z_if_ne (tgt := 15) hx hb (iI_t (by omega) (by omega)) dX5_takeLine_6 (by decide) (fun c5 => absurd c5 (by omega)) (fun _ => ?_)
    refine lv_aload_n hx hb dX5_takeLine_9 rfl (lv_at hl 0 rfl) ?_
    refine lv_iconst (v := iI 1) hx hb dX5_takeLine_10 rfl ?_
    refine z_cVi (n := 1) (b := m0) (As := [.int (iI 1)]) (rest := []) ⟨hx, hb, hml, hown, hts⟩ (c_X5_fails l D cy m0 a0 p0 q0 v0 t0 ho th tl (1 : Int) ) gX5_takeLine_X5_fails rfl (by decide +kernel) ⟨Nat.le_of_ble_eq_true rfl, Nat.le_of_ble_eq_true rfl⟩ hK hT hP hD hS hA [0] rfl rfl 0 5 rfl rfl rfl (fun _ => rfl) rfl hl.1 rfl (Nat.le_of_ble_eq_true rfl) dX5_takeLine_11 ⟨Nat.zero_le _, Nat.zero_le _⟩ (fun r_6 u_6 H locs hw_6 hP hD hS => ?_)
    have hw_6 : r_6 = iI 0 := hw_6
    have hP : va_P D vwCl [(m0, .inr (5, [.ref a0, .ref p0, .int (iI ho), .ref q0, .ref v0, .int (iI (1 : Int)), .ref t0, .int (iI tl)])), (a0, .inl (cy 0, 144, .inl G)), (p0, .inl (cy 0, 864, .inl Hh)), (t0, .inl (cy 0, 80, .inl Tx))] H := hP
    have hD : va_D A [(m0, .inr (5, [.ref a0, .ref p0, .int (iI ho), .ref q0, .ref v0, .int (iI (1 : Int)), .ref t0, .int (iI tl)])), (a0, .inl (cy 0, 144, .inl G)), (p0, .inl (cy 0, 864, .inl Hh)), (t0, .inl (cy 0, 80, .inl Tx))] := hD
    obtain rfl := hw_6
    exact z_iret hx hb hr hlocks hS (G, ho, Hh, (1 : Int), tl) (show (¬ (errF tx 0 = -1 ∧ (tx.length : Int) ≤ 60) ∧ (iI 0) = iI 0 ∧ (1 : Int) = 1 ∧ tl = tl ∧ G = G ∧ ho = ho ∧ Hh = Hh) ∨ ((errF tx 0 = -1 ∧ (tx.length : Int) ≤ 60) ∧ (iI 0) = iI (tx.length : Int) ∧ (1 : Int) = 0 ∧ tl = 0 ∧ RG G (mTakeL M tx) ∧ ho = ((pushH h M).length : Int) ∧ RH Hh (pushH h M)) from (Or.inl ⟨by omega, rfl, rfl, rfl, rfl, rfl, rfl⟩)) hP dX5_takeLine_14
set_option maxHeartbeats 4000000 in
set_option maxRecDepth 100000 in
theorem c_X5_takeWord (l : Launch) (D : va_G) (cy : Nat → ClassId) (m0 : Nat) (a0 : Nat) (p0 : Nat) (q0 : Nat) (v0 : Nat) (t0 : Nat) (ho : Int) (th : Int) (tl : Int) (G : Nat → Int32) (Hh : Nat → Int32) (Tx : Nat → Int32) (M : MS) (h : List MS) (tx : List Int32) (hG : RG G M) (hM : MOk M) (hH : RH Hh h) (hho : ho = (h.length : Int) ∧ h.length ≤ 6) (hT1 : Rep tl Tx tx) (hT2 : tx.length ≤ 80) : Ci l D cy yX5_takeWord wsX5_takeWord 3 67 [.ref m0] [(m0, .inr (5, [.ref a0, .ref p0, .int (iI ho), .ref q0, .ref v0, .int (iI th), .ref t0, .int (iI tl)])), (a0, .inl (cy 0, 144, .inl G)), (p0, .inl (cy 0, 864, .inl Hh)), (t0, .inl (cy 0, 80, .inl Tx))] (fun (r : Int32) (u : (Nat → Int32) × Int × (Nat → Int32) × Int × Int) => (¬ (errF tx 0 = -1 ∧ (tx.length : Int) ≤ 16) ∧ r = iI 0 ∧ u.2.2.2.1 = 1 ∧ u.2.2.2.2 = tl ∧ u.1 = G ∧ u.2.1 = ho ∧ u.2.2.1 = Hh) ∨ ((errF tx 0 = -1 ∧ (tx.length : Int) ≤ 16) ∧ r = iI (tx.length : Int) ∧ u.2.2.2.1 = 0 ∧ u.2.2.2.2 = 0 ∧ RG u.1 (mTakeW M tx) ∧ u.2.1 = ((pushH h M).length : Int) ∧ RH u.2.2.1 (pushH h M))) (fun u : (Nat → Int32) × Int × (Nat → Int32) × Int × Int => [(m0, .inr (5, [.ref a0, .ref p0, .int (iI u.2.1), .ref q0, .ref v0, .int (iI u.2.2.2.1), .ref t0, .int (iI u.2.2.2.2)])), (a0, .inl (cy 0, 144, .inl u.1)), (p0, .inl (cy 0, 864, .inl u.2.2.1)), (t0, .inl (cy 0, 80, .inl Tx))]) := by
  refine Ci_of (cc := cX5_takeWord) (maxL := 1) (ret := (some .int)) (by decide) rfl rfl ?_
  intro p e s m args below meth c A hx hb hr hts hown hlocks hml hP hK hD hT hA ls hl
  have hS : va_S A s.heap s.heap [] := va_S.rf
  have hl : lv_has ls 1 [(0, .ref m0)] := hl
  obtain ⟨h0, h1L, h61, h62W, h78, h79, h80, h81, h82, h83, h84F⟩ := id hG
  obtain ⟨o1, o2, o3, o4, o5, o6, o7, o8, o9, o10, o11, o12, o13, o14, o15⟩ := id hM
  have htl := hT1.1
  refine lv_aload_n hx hb dX5_takeWord_0 rfl (lv_at hl 0 rfl) ?_
  refine lv_bipush (v := iI 16) hx hb dX5_takeWord_1 (by decide +kernel) ?_
  refine z_cVi (n := 1) (b := m0) (As := [.int (iI 16)]) (rest := []) ⟨hx, hb, hml, hown, hts⟩ (c_X5_canTake l D cy m0 a0 p0 q0 v0 t0 ho th tl Tx tx (16 : Int) (by first | assumption | omega) (by first | assumption | omega) (by first | assumption | omega)) gX5_takeWord_X5_canTake rfl (by decide +kernel) ⟨Nat.le_of_ble_eq_true rfl, Nat.le_of_ble_eq_true rfl⟩ hK hT hP hD hS hA [0, 3] rfl rfl 0 5 rfl rfl rfl (fun _ => rfl) rfl hl.1 rfl (Nat.le_of_ble_eq_true rfl) dX5_takeWord_3 ⟨Nat.zero_le _, Nat.zero_le _⟩ (fun r_1 u_1 H locs hw_1 hP hD hS => ?_)
  have hw_1 : ((errF tx 0 = -1 ∧ (tx.length : Int) ≤ (16 : Int)) ∧ r_1 = iI 1) ∨ (¬ (errF tx 0 = -1 ∧ (tx.length : Int) ≤ (16 : Int)) ∧ r_1 = iI 0) := hw_1
  have hP : va_P D vwCl [(m0, .inr (5, [.ref a0, .ref p0, .int (iI ho), .ref q0, .ref v0, .int (iI th), .ref t0, .int (iI tl)])), (a0, .inl (cy 0, 144, .inl G)), (p0, .inl (cy 0, 864, .inl Hh)), (t0, .inl (cy 0, 80, .inl Tx))] H := hP
  have hD : va_D A [(m0, .inr (5, [.ref a0, .ref p0, .int (iI ho), .ref q0, .ref v0, .int (iI th), .ref t0, .int (iI tl)])), (a0, .inl (cy 0, 144, .inl G)), (p0, .inl (cy 0, 864, .inl Hh)), (t0, .inl (cy 0, 80, .inl Tx))] := hD
  rcases hw_1 with ⟨h_1, rfl⟩ | ⟨h_1, rfl⟩
  · --
    refine z_if_ne (tgt := 15) hx hb (iI_t (by omega) (by omega)) dX5_takeWord_6 (by decide) (fun _ => ?_) (fun c2 => absurd c2 (by omega))
    refine lv_aload_n hx hb dX5_takeWord_15 rfl (lv_at hl 0 rfl) ?_
    refine z_cVv (n := 0) (b := m0) (As := []) (rest := []) ⟨hx, hb, hml, hown, hts⟩ (c_X5_changes l D cy m0 a0 p0 q0 v0 t0 ho th tl G Hh M h (by first | assumption | omega) (by first | assumption | omega) (by first | assumption | omega) (by first | assumption | omega)) gX5_takeWord_X5_changes rfl (by decide +kernel) ⟨Nat.le_of_ble_eq_true rfl, Nat.le_of_ble_eq_true rfl⟩ hK hT hP hD hS hA [0, 1, 2] rfl rfl 0 5 rfl rfl rfl (fun _ => rfl) rfl hl.1 rfl (Nat.le_of_ble_eq_true rfl) dX5_takeWord_16 ⟨Nat.zero_le _, Nat.zero_le _⟩ (fun  u_3 H locs hw_3 hP hD hS => ?_)
    obtain ⟨ho1_3, H1_3⟩ := u_3
    have hw_3 : ho1_3 = ((pushH h M).length : Int) ∧ RH H1_3 (pushH h M) := hw_3
    have hP : va_P D vwCl [(m0, .inr (5, [.ref a0, .ref p0, .int (iI ho1_3), .ref q0, .ref v0, .int (iI 0), .ref t0, .int (iI tl)])), (a0, .inl (cy 0, 144, .inl G)), (p0, .inl (cy 0, 864, .inl H1_3)), (t0, .inl (cy 0, 80, .inl Tx))] H := hP
    have hD : va_D A [(m0, .inr (5, [.ref a0, .ref p0, .int (iI ho1_3), .ref q0, .ref v0, .int (iI 0), .ref t0, .int (iI tl)])), (a0, .inl (cy 0, 144, .inl G)), (p0, .inl (cy 0, 864, .inl H1_3)), (t0, .inl (cy 0, 80, .inl Tx))] := hD
    refine lv_aload_n hx hb dX5_takeWord_19 rfl (lv_at hl 0 rfl) ?_
    refine lv_bipush (v := iI 61) hx hb dX5_takeWord_20 (by decide +kernel) ?_
    refine lv_bipush (v := iI 16) hx hb dX5_takeWord_22 (by decide +kernel) ?_
    refine z_cVi (n := 2) (b := m0) (As := [.int (iI 61), .int (iI 16)]) (rest := []) ⟨hx, hb, hml, hown, hts⟩ (c_X5_takes l D cy m0 a0 p0 q0 v0 t0 ho1_3 (0 : Int) tl G Tx (61 : Int) (16 : Int) (by first | assumption | omega) (by first | assumption | omega)) gX5_takeWord_X5_takes rfl (by decide +kernel) ⟨Nat.le_of_ble_eq_true rfl, Nat.le_of_ble_eq_true rfl⟩ hK hT hP hD hS hA [0, 1, 3] rfl rfl 0 5 rfl rfl rfl (fun _ => rfl) rfl hl.1 rfl (Nat.le_of_ble_eq_true rfl) dX5_takeWord_24 ⟨Nat.zero_le _, Nat.zero_le _⟩ (fun r_4 u_4 H locs hw_4 hP hD hS => ?_)
    obtain ⟨G1_4, rfl⟩ : ∃ z, z = u_4 := ⟨_, rfl⟩
    have hw_4 : r_4 = iI tl ∧ G1_4 (61 : Int).toNat = iI tl ∧ (∀ j : Nat, (j : Int) < tl → G1_4 ((61 : Int).toNat + 1 + j) = Tx j - iI 97) ∧ (∀ j : Nat, j < 80 → ((j : Int) < (61 : Int) ∨ (61 : Int) + (16 : Int) < j) → G1_4 j = G j) ∧ ∀ j : Nat, 80 ≤ j → j < 144 → G1_4 j = iI 0 := hw_4
    have hP : va_P D vwCl [(m0, .inr (5, [.ref a0, .ref p0, .int (iI ho1_3), .ref q0, .ref v0, .int (iI (0 : Int)), .ref t0, .int (iI 0)])), (a0, .inl (cy 0, 144, .inl G1_4)), (p0, .inl (cy 0, 864, .inl H1_3)), (t0, .inl (cy 0, 80, .inl Tx))] H := hP
    have hD : va_D A [(m0, .inr (5, [.ref a0, .ref p0, .int (iI ho1_3), .ref q0, .ref v0, .int (iI (0 : Int)), .ref t0, .int (iI 0)])), (a0, .inl (cy 0, 144, .inl G1_4)), (p0, .inl (cy 0, 864, .inl H1_3)), (t0, .inl (cy 0, 80, .inl Tx))] := hD
    exact z_iret hx hb hr hlocks hS (G1_4, ho1_3, H1_3, (0 : Int), 0) (show (¬ (errF tx 0 = -1 ∧ (tx.length : Int) ≤ 16) ∧ r_4 = iI 0 ∧ (0 : Int) = 1 ∧ 0 = tl ∧ G1_4 = G ∧ ho1_3 = ho ∧ H1_3 = Hh) ∨ ((errF tx 0 = -1 ∧ (tx.length : Int) ≤ 16) ∧ r_4 = iI (tx.length : Int) ∧ (0 : Int) = 0 ∧ 0 = 0 ∧ RG G1_4 (mTakeW M tx) ∧ ho1_3 = ((pushH h M).length : Int) ∧ RH H1_3 (pushH h M)) from (Or.inr ⟨by omega, hw_4.1.trans (congrArg iI (by have := hT1.1; omega)), rfl, rfl, RG_takeW hG hM hT1 hw_4, hw_3⟩)) hP dX5_takeWord_27
  · --
    refine z_if_ne (tgt := 15) hx hb (iI_t (by omega) (by omega)) dX5_takeWord_6 (by decide) (fun c5 => absurd c5 (by omega)) (fun _ => ?_)
    refine lv_aload_n hx hb dX5_takeWord_9 rfl (lv_at hl 0 rfl) ?_
    refine lv_iconst (v := iI 1) hx hb dX5_takeWord_10 rfl ?_
    refine z_cVi (n := 1) (b := m0) (As := [.int (iI 1)]) (rest := []) ⟨hx, hb, hml, hown, hts⟩ (c_X5_fails l D cy m0 a0 p0 q0 v0 t0 ho th tl (1 : Int) ) gX5_takeWord_X5_fails rfl (by decide +kernel) ⟨Nat.le_of_ble_eq_true rfl, Nat.le_of_ble_eq_true rfl⟩ hK hT hP hD hS hA [0] rfl rfl 0 5 rfl rfl rfl (fun _ => rfl) rfl hl.1 rfl (Nat.le_of_ble_eq_true rfl) dX5_takeWord_11 ⟨Nat.zero_le _, Nat.zero_le _⟩ (fun r_6 u_6 H locs hw_6 hP hD hS => ?_)
    have hw_6 : r_6 = iI 0 := hw_6
    have hP : va_P D vwCl [(m0, .inr (5, [.ref a0, .ref p0, .int (iI ho), .ref q0, .ref v0, .int (iI (1 : Int)), .ref t0, .int (iI tl)])), (a0, .inl (cy 0, 144, .inl G)), (p0, .inl (cy 0, 864, .inl Hh)), (t0, .inl (cy 0, 80, .inl Tx))] H := hP
    have hD : va_D A [(m0, .inr (5, [.ref a0, .ref p0, .int (iI ho), .ref q0, .ref v0, .int (iI (1 : Int)), .ref t0, .int (iI tl)])), (a0, .inl (cy 0, 144, .inl G)), (p0, .inl (cy 0, 864, .inl Hh)), (t0, .inl (cy 0, 80, .inl Tx))] := hD
    obtain rfl := hw_6
    exact z_iret hx hb hr hlocks hS (G, ho, Hh, (1 : Int), tl) (show (¬ (errF tx 0 = -1 ∧ (tx.length : Int) ≤ 16) ∧ (iI 0) = iI 0 ∧ (1 : Int) = 1 ∧ tl = tl ∧ G = G ∧ ho = ho ∧ Hh = Hh) ∨ ((errF tx 0 = -1 ∧ (tx.length : Int) ≤ 16) ∧ (iI 0) = iI (tx.length : Int) ∧ (1 : Int) = 0 ∧ tl = 0 ∧ RG G (mTakeW M tx) ∧ ho = ((pushH h M).length : Int) ∧ RH Hh (pushH h M)) from (Or.inl ⟨by omega, rfl, rfl, rfl, rfl, rfl, rfl⟩)) hP dX5_takeWord_14
set_option maxHeartbeats 4000000 in
set_option maxRecDepth 100000 in
theorem c_X5_setRules (l : Launch) (D : va_G) (cy : Nat → ClassId) (m0 : Nat) (a0 : Nat) (p0 : Nat) (q0 : Nat) (v0 : Nat) (t0 : Nat) (ho : Int) (th : Int) (tl : Int) (G : Nat → Int32) (Hh : Nat → Int32) (M : MS) (h : List MS) (x : Int) (y : Int) (hG : RG G M) (hM : MOk M) (hH : RH Hh h) (hho : ho = (h.length : Int) ∧ h.length ≤ 6) (hxy : 0 ≤ x ∧ x ≤ 1 ∧ 0 ≤ y ∧ y ≤ 1) : Ci l D cy yX5_setRules wsX5_setRules 1 21 [.ref m0, .int (iI x), .int (iI y)] [(m0, .inr (5, [.ref a0, .ref p0, .int (iI ho), .ref q0, .ref v0, .int (iI th), .ref t0, .int (iI tl)])), (a0, .inl (cy 0, 144, .inl G)), (p0, .inl (cy 0, 864, .inl Hh))] (fun (r : Int32) (u : (Nat → Int32) × Int × (Nat → Int32)) => r = iI (M.2.2.2.1 + M.2.2.2.2.1) ∧ RG u.1 (mRules M x y) ∧ u.2.1 = ((pushH h M).length : Int) ∧ RH u.2.2 (pushH h M)) (fun u : (Nat → Int32) × Int × (Nat → Int32) => [(m0, .inr (5, [.ref a0, .ref p0, .int (iI u.2.1), .ref q0, .ref v0, .int (iI 0), .ref t0, .int (iI tl)])), (a0, .inl (cy 0, 144, .inl u.1)), (p0, .inl (cy 0, 864, .inl u.2.2))]) := by
  refine Ci_of (cc := cX5_setRules) (maxL := 4) (ret := (some .int)) (by decide) rfl rfl ?_
  intro p e s m args below meth c A hx hb hr hts hown hlocks hml hP hK hD hT hA ls hl
  have hS : va_S A s.heap s.heap [] := va_S.rf
  have hl : lv_has ls 4 [(0, .ref m0), (1, .int (iI x)), (2, .int (iI y))] := hl
  have hiX5 : ∀ w ∈ wsX50, w ∈ wsX5_setRules := by decide +kernel
  obtain ⟨h0, h1L, h61, h62W, h78, h79, h80, h81, h82, h83, h84F⟩ := id hG
  obtain ⟨o1, o2, o3, o4, o5, o6, o7, o8, o9, o10, o11, o12, o13, o14, o15⟩ := id hM
  refine lv_aload_n hx hb dX5_setRules_0 rfl (lv_at hl 0 rfl) ?_
  refine z_cVv (n := 0) (b := m0) (As := []) (rest := []) ⟨hx, hb, hml, hown, hts⟩ (c_X5_changes l D cy m0 a0 p0 q0 v0 t0 ho th tl G Hh M h (by first | assumption | omega) (by first | assumption | omega) (by first | assumption | omega) (by first | assumption | omega)) gX5_setRules_X5_changes rfl (by decide +kernel) ⟨Nat.le_of_ble_eq_true rfl, Nat.le_of_ble_eq_true rfl⟩ hK hT hP hD hS hA [0, 1, 2] rfl rfl 0 5 rfl rfl rfl (fun _ => rfl) rfl hl.1 rfl (Nat.le_of_ble_eq_true rfl) dX5_setRules_1 ⟨Nat.zero_le _, Nat.zero_le _⟩ (fun  u_1 H locs hw_1 hP hD hS => ?_)
  obtain ⟨ho1_1, H1_1⟩ := u_1
  have hw_1 : ho1_1 = ((pushH h M).length : Int) ∧ RH H1_1 (pushH h M) := hw_1
  have hP : va_P D vwCl [(m0, .inr (5, [.ref a0, .ref p0, .int (iI ho1_1), .ref q0, .ref v0, .int (iI 0), .ref t0, .int (iI tl)])), (a0, .inl (cy 0, 144, .inl G)), (p0, .inl (cy 0, 864, .inl H1_1))] H := hP
  have hD : va_D A [(m0, .inr (5, [.ref a0, .ref p0, .int (iI ho1_1), .ref q0, .ref v0, .int (iI 0), .ref t0, .int (iI tl)])), (a0, .inl (cy 0, 144, .inl G)), (p0, .inl (cy 0, 864, .inl H1_1))] := hD
  refine lv_aload_n hx hb dX5_setRules_4 rfl (lv_at hl 0 rfl) ?_
  refine va_get (D := D) (ci := 5) (v := .ref a0) (C := RX5) (T := TX5) (N := 8) hx hb hts hiX5 hown hK hP 0 rfl rfl 0 (by decide) (hts (.fieldLink RX5 7 "BackwardSearchModel" "all" "[I") (by decide +kernel)) (fun _ h9 => h9) rfl dX5_setRules_5 ?_
  refine lv_bipush (v := iI 78) hx hb dX5_setRules_8 (by decide +kernel) ?_
  refine z_iald hx hb hK hP 1 rfl (by omega) (by omega) (by omega) dX5_setRules_10 ?_
  refine z_top (show G (78 : Int).toNat = iI M.2.2.2.1 from by exact h78) ?_
  refine lv_aload_n hx hb dX5_setRules_11 rfl (lv_at hl 0 rfl) ?_
  refine va_get (D := D) (ci := 5) (v := .ref a0) (C := RX5) (T := TX5) (N := 8) hx hb hts hiX5 hown hK hP 0 rfl rfl 0 (by decide) (hts (.fieldLink RX5 7 "BackwardSearchModel" "all" "[I") (by decide +kernel)) (fun _ h9 => h9) rfl dX5_setRules_12 ?_
  refine lv_bipush (v := iI 79) hx hb dX5_setRules_15 (by decide +kernel) ?_
  refine z_iald hx hb hK hP 1 rfl (by omega) (by omega) (by omega) dX5_setRules_17 ?_
  refine z_top (show G (79 : Int).toNat = iI M.2.2.2.2.1 from by exact h79) ?_
  refine z_add hx hb dX5_setRules_18 ?_
  refine lv_istore_n (lv' := [(3, .int (iI (M.2.2.2.1 + M.2.2.2.2.1))), (0, .ref m0), (1, .int (iI x)), (2, .int (iI y))]) hx hb dX5_setRules_19 rfl hl (by decide) rfl (fun ls hl => ?_)
  refine lv_aload_n hx hb dX5_setRules_20 rfl (lv_at hl 1 rfl) ?_
  refine va_get (D := D) (ci := 5) (v := .ref a0) (C := RX5) (T := TX5) (N := 8) hx hb hts hiX5 hown hK hP 0 rfl rfl 0 (by decide) (hts (.fieldLink RX5 7 "BackwardSearchModel" "all" "[I") (by decide +kernel)) (fun _ h9 => h9) rfl dX5_setRules_21 ?_
  refine lv_bipush (v := iI 78) hx hb dX5_setRules_24 (by decide +kernel) ?_
  refine lv_iload_n hx hb dX5_setRules_26 rfl (lv_at hl 2 rfl) ?_
  have hj2 : W p l e ({ frames := 1, cells := 0, slots := 0, locals := 21 } : Room) s m args below meth c H locs 0 0 (MQ below (va_Qi (fun (r : Int32) (u : (Nat → Int32) × Int × (Nat → Int32)) => r = iI (M.2.2.2.1 + M.2.2.2.2.1) ∧ RG u.1 (mRules M x y) ∧ u.2.1 = ((pushH h M).length : Int) ∧ RH u.2.2 (pushH h M)) (fun u t => va_P D vwCl ((fun u : (Nat → Int32) × Int × (Nat → Int32) => [(m0, .inr (5, [.ref a0, .ref p0, .int (iI u.2.1), .ref q0, .ref v0, .int (iI 0), .ref t0, .int (iI tl)])), (a0, .inl (cy 0, 144, .inl u.1)), (p0, .inl (cy 0, 864, .inl u.2.2))]) u) t.heap) A) args s 0 0 A) (F0 m 35 ls [.int (iI x), .int (iI 78), .ref a0]) := by
    refine z_iast hx hb hK hP hD hS 1 rfl (by omega) (by omega) (by omega) dX5_setRules_35 (fun H locs hP hD hS => ?_)
    have hP : va_P D vwCl [(m0, .inr (5, [.ref a0, .ref p0, .int (iI ho1_1), .ref q0, .ref v0, .int (iI 0), .ref t0, .int (iI tl)])), (a0, .inl (cy 0, 144, .inl (upd G ((78 : Int).toNat) (iI x)))), (p0, .inl (cy 0, 864, .inl H1_1))] H := hP
    have hD : va_D A [(m0, .inr (5, [.ref a0, .ref p0, .int (iI ho1_1), .ref q0, .ref v0, .int (iI 0), .ref t0, .int (iI tl)])), (a0, .inl (cy 0, 144, .inl (upd G ((78 : Int).toNat) (iI x)))), (p0, .inl (cy 0, 864, .inl H1_1))] := hD
    refine lv_aload_n hx hb dX5_setRules_36 rfl (lv_at hl 1 rfl) ?_
    refine va_get (D := D) (ci := 5) (v := .ref a0) (C := RX5) (T := TX5) (N := 8) hx hb hts hiX5 hown hK hP 0 rfl rfl 0 (by decide) (hts (.fieldLink RX5 7 "BackwardSearchModel" "all" "[I") (by decide +kernel)) (fun _ h9 => h9) rfl dX5_setRules_37 ?_
    refine lv_bipush (v := iI 79) hx hb dX5_setRules_40 (by decide +kernel) ?_
    refine lv_iload_n hx hb dX5_setRules_42 rfl (lv_at hl 3 rfl) ?_
    have hj3 : W p l e ({ frames := 1, cells := 0, slots := 0, locals := 21 } : Room) s m args below meth c H locs 0 0 (MQ below (va_Qi (fun (r : Int32) (u : (Nat → Int32) × Int × (Nat → Int32)) => r = iI (M.2.2.2.1 + M.2.2.2.2.1) ∧ RG u.1 (mRules M x y) ∧ u.2.1 = ((pushH h M).length : Int) ∧ RH u.2.2 (pushH h M)) (fun u t => va_P D vwCl ((fun u : (Nat → Int32) × Int × (Nat → Int32) => [(m0, .inr (5, [.ref a0, .ref p0, .int (iI u.2.1), .ref q0, .ref v0, .int (iI 0), .ref t0, .int (iI tl)])), (a0, .inl (cy 0, 144, .inl u.1)), (p0, .inl (cy 0, 864, .inl u.2.2))]) u) t.heap) A) args s 0 0 A) (F0 m 51 ls [.int (iI y), .int (iI 79), .ref a0]) := by
      refine z_iast hx hb hK hP hD hS 1 rfl (by omega) (by omega) (by omega) dX5_setRules_51 (fun H locs hP hD hS => ?_)
      have hP : va_P D vwCl [(m0, .inr (5, [.ref a0, .ref p0, .int (iI ho1_1), .ref q0, .ref v0, .int (iI 0), .ref t0, .int (iI tl)])), (a0, .inl (cy 0, 144, .inl (upd (upd G ((78 : Int).toNat) (iI x)) ((79 : Int).toNat) (iI y)))), (p0, .inl (cy 0, 864, .inl H1_1))] H := hP
      have hD : va_D A [(m0, .inr (5, [.ref a0, .ref p0, .int (iI ho1_1), .ref q0, .ref v0, .int (iI 0), .ref t0, .int (iI tl)])), (a0, .inl (cy 0, 144, .inl (upd (upd G ((78 : Int).toNat) (iI x)) ((79 : Int).toNat) (iI y)))), (p0, .inl (cy 0, 864, .inl H1_1))] := hD
      refine lv_aload_n hx hb dX5_setRules_52 rfl (lv_at hl 1 rfl) ?_
      refine z_cVv (n := 0) (b := m0) (As := []) (rest := []) ⟨hx, hb, hml, hown, hts⟩ (c_X5_begins l D cy m0 a0 p0 q0 v0 t0 ho1_1 (0 : Int) tl (upd (upd G ((78 : Int).toNat) (iI x)) ((79 : Int).toNat) (iI y)) ) gX5_setRules_X5_begins rfl (by decide +kernel) ⟨Nat.le_of_ble_eq_true rfl, Nat.le_of_ble_eq_true rfl⟩ hK hT hP hD hS hA [0, 1] rfl rfl 0 5 rfl rfl rfl (fun _ => rfl) rfl hl.1 rfl (Nat.le_of_ble_eq_true rfl) dX5_setRules_53 ⟨Nat.zero_le _, Nat.zero_le _⟩ (fun  u_4 H locs hw_4 hP hD hS => ?_)
      obtain ⟨G1_4, rfl⟩ : ∃ z, z = u_4 := ⟨_, rfl⟩
      have hw_4 : (∀ j : Nat, j < 80 → G1_4 j = (upd (upd G ((78 : Int).toNat) (iI x)) ((79 : Int).toNat) (iI y)) j) ∧ ∀ j : Nat, 80 ≤ j → j < 144 → G1_4 j = iI 0 := hw_4
      have hP : va_P D vwCl [(m0, .inr (5, [.ref a0, .ref p0, .int (iI ho1_1), .ref q0, .ref v0, .int (iI (0 : Int)), .ref t0, .int (iI tl)])), (a0, .inl (cy 0, 144, .inl G1_4)), (p0, .inl (cy 0, 864, .inl H1_1))] H := hP
      have hD : va_D A [(m0, .inr (5, [.ref a0, .ref p0, .int (iI ho1_1), .ref q0, .ref v0, .int (iI (0 : Int)), .ref t0, .int (iI tl)])), (a0, .inl (cy 0, 144, .inl G1_4)), (p0, .inl (cy 0, 864, .inl H1_1))] := hD
      refine lv_iload_n hx hb dX5_setRules_56 rfl (lv_at hl 0 rfl) ?_
      exact z_iret hx hb hr hlocks hS (G1_4, ho1_1, H1_1) (show (iI (M.2.2.2.1 + M.2.2.2.2.1)) = iI (M.2.2.2.1 + M.2.2.2.2.1) ∧ RG G1_4 (mRules M x y) ∧ ho1_1 = ((pushH h M).length : Int) ∧ RH H1_1 (pushH h M) from ⟨rfl, RG_rules hG hM hw_4, hw_1⟩) hP dX5_setRules_57
    refine z_if_eq (tgt := 50) hx hb (iI_t (by omega) (by omega)) dX5_setRules_43 (by decide) (fun c5 => ?_) (fun c5 => ?_)
    · --
      refine lv_iconst (v := iI 0) hx hb dX5_setRules_50 rfl ?_
      refine z_top (show iI 0 = iI y from congrArg iI (by omega)) ?_
      exact hj3
    · --
      refine lv_iconst (v := iI 1) hx hb dX5_setRules_46 rfl ?_
      refine lv_goto (tgt := 51) hx hb dX5_setRules_47 (by decide) ?_
      refine z_top (show iI 1 = iI y from congrArg iI (by omega)) ?_
      exact hj3
  refine z_if_eq (tgt := 34) hx hb (iI_t (by omega) (by omega)) dX5_setRules_27 (by decide) (fun c6 => ?_) (fun c6 => ?_)
  · --
    refine lv_iconst (v := iI 0) hx hb dX5_setRules_34 rfl ?_
    refine z_top (show iI 0 = iI x from congrArg iI (by omega)) ?_
    exact hj2
  · --
    refine lv_iconst (v := iI 1) hx hb dX5_setRules_30 rfl ?_
    refine lv_goto (tgt := 35) hx hb dX5_setRules_31 (by decide) ?_
    refine z_top (show iI 1 = iI x from congrArg iI (by omega)) ?_
    exact hj2
set_option maxHeartbeats 4000000 in
set_option maxRecDepth 100000 in
theorem c_X5_rewind (l : Launch) (D : va_G) (cy : Nat → ClassId) (m0 : Nat) (a0 : Nat) (p0 : Nat) (q0 : Nat) (v0 : Nat) (t0 : Nat) (ho : Int) (th : Int) (tl : Int) (G : Nat → Int32) (Hh : Nat → Int32) (M : MS) (h : List MS) (hG : RG G M) (hM : MOk M) (hH : RH Hh h) (hho : ho = (h.length : Int) ∧ h.length ≤ 6) : Ci l D cy yX5_rewind wsX5_rewind 1 21 [.ref m0] [(m0, .inr (5, [.ref a0, .ref p0, .int (iI ho), .ref q0, .ref v0, .int (iI th), .ref t0, .int (iI tl)])), (a0, .inl (cy 0, 144, .inl G)), (p0, .inl (cy 0, 864, .inl Hh))] (fun (r : Int32) (u : (Nat → Int32) × Int × (Nat → Int32)) => r = iI M.2.2.2.2.2.2.1 ∧ RG u.1 (bgn M) ∧ u.2.1 = ((pushH h M).length : Int) ∧ RH u.2.2 (pushH h M)) (fun u : (Nat → Int32) × Int × (Nat → Int32) => [(m0, .inr (5, [.ref a0, .ref p0, .int (iI u.2.1), .ref q0, .ref v0, .int (iI 0), .ref t0, .int (iI tl)])), (a0, .inl (cy 0, 144, .inl u.1)), (p0, .inl (cy 0, 864, .inl u.2.2))]) := by
  refine Ci_of (cc := cX5_rewind) (maxL := 2) (ret := (some .int)) (by decide) rfl rfl ?_
  intro p e s m args below meth c A hx hb hr hts hown hlocks hml hP hK hD hT hA ls hl
  have hS : va_S A s.heap s.heap [] := va_S.rf
  have hl : lv_has ls 2 [(0, .ref m0)] := hl
  have hiX5 : ∀ w ∈ wsX50, w ∈ wsX5_rewind := by decide +kernel
  obtain ⟨h0, h1L, h61, h62W, h78, h79, h80, h81, h82, h83, h84F⟩ := id hG
  obtain ⟨o1, o2, o3, o4, o5, o6, o7, o8, o9, o10, o11, o12, o13, o14, o15⟩ := id hM
  refine lv_aload_n hx hb dX5_rewind_0 rfl (lv_at hl 0 rfl) ?_
  refine z_cVv (n := 0) (b := m0) (As := []) (rest := []) ⟨hx, hb, hml, hown, hts⟩ (c_X5_changes l D cy m0 a0 p0 q0 v0 t0 ho th tl G Hh M h (by first | assumption | omega) (by first | assumption | omega) (by first | assumption | omega) (by first | assumption | omega)) gX5_rewind_X5_changes rfl (by decide +kernel) ⟨Nat.le_of_ble_eq_true rfl, Nat.le_of_ble_eq_true rfl⟩ hK hT hP hD hS hA [0, 1, 2] rfl rfl 0 5 rfl rfl rfl (fun _ => rfl) rfl hl.1 rfl (Nat.le_of_ble_eq_true rfl) dX5_rewind_1 ⟨Nat.zero_le _, Nat.zero_le _⟩ (fun  u_1 H locs hw_1 hP hD hS => ?_)
  obtain ⟨ho1_1, H1_1⟩ := u_1
  have hw_1 : ho1_1 = ((pushH h M).length : Int) ∧ RH H1_1 (pushH h M) := hw_1
  have hP : va_P D vwCl [(m0, .inr (5, [.ref a0, .ref p0, .int (iI ho1_1), .ref q0, .ref v0, .int (iI 0), .ref t0, .int (iI tl)])), (a0, .inl (cy 0, 144, .inl G)), (p0, .inl (cy 0, 864, .inl H1_1))] H := hP
  have hD : va_D A [(m0, .inr (5, [.ref a0, .ref p0, .int (iI ho1_1), .ref q0, .ref v0, .int (iI 0), .ref t0, .int (iI tl)])), (a0, .inl (cy 0, 144, .inl G)), (p0, .inl (cy 0, 864, .inl H1_1))] := hD
  refine lv_aload_n hx hb dX5_rewind_4 rfl (lv_at hl 0 rfl) ?_
  refine va_get (D := D) (ci := 5) (v := .ref a0) (C := RX5) (T := TX5) (N := 8) hx hb hts hiX5 hown hK hP 0 rfl rfl 0 (by decide) (hts (.fieldLink RX5 7 "BackwardSearchModel" "all" "[I") (by decide +kernel)) (fun _ h9 => h9) rfl dX5_rewind_5 ?_
  refine lv_bipush (v := iI 81) hx hb dX5_rewind_8 (by decide +kernel) ?_
  refine z_iald hx hb hK hP 1 rfl (by omega) (by omega) (by omega) dX5_rewind_10 ?_
  refine z_top (show G (81 : Int).toNat = iI M.2.2.2.2.2.2.1 from by exact h81) ?_
  refine lv_istore_n (lv' := [(1, .int (iI M.2.2.2.2.2.2.1)), (0, .ref m0)]) hx hb dX5_rewind_11 rfl hl (by decide) rfl (fun ls hl => ?_)
  refine lv_aload_n hx hb dX5_rewind_12 rfl (lv_at hl 1 rfl) ?_
  refine z_cVv (n := 0) (b := m0) (As := []) (rest := []) ⟨hx, hb, hml, hown, hts⟩ (c_X5_begins l D cy m0 a0 p0 q0 v0 t0 ho1_1 (0 : Int) tl G ) gX5_rewind_X5_begins rfl (by decide +kernel) ⟨Nat.le_of_ble_eq_true rfl, Nat.le_of_ble_eq_true rfl⟩ hK hT hP hD hS hA [0, 1] rfl rfl 0 5 rfl rfl rfl (fun _ => rfl) rfl hl.1 rfl (Nat.le_of_ble_eq_true rfl) dX5_rewind_13 ⟨Nat.zero_le _, Nat.zero_le _⟩ (fun  u_2 H locs hw_2 hP hD hS => ?_)
  obtain ⟨G1_2, rfl⟩ : ∃ z, z = u_2 := ⟨_, rfl⟩
  have hw_2 : (∀ j : Nat, j < 80 → G1_2 j = G j) ∧ ∀ j : Nat, 80 ≤ j → j < 144 → G1_2 j = iI 0 := hw_2
  have hP : va_P D vwCl [(m0, .inr (5, [.ref a0, .ref p0, .int (iI ho1_1), .ref q0, .ref v0, .int (iI (0 : Int)), .ref t0, .int (iI tl)])), (a0, .inl (cy 0, 144, .inl G1_2)), (p0, .inl (cy 0, 864, .inl H1_1))] H := hP
  have hD : va_D A [(m0, .inr (5, [.ref a0, .ref p0, .int (iI ho1_1), .ref q0, .ref v0, .int (iI (0 : Int)), .ref t0, .int (iI tl)])), (a0, .inl (cy 0, 144, .inl G1_2)), (p0, .inl (cy 0, 864, .inl H1_1))] := hD
  refine lv_iload_n hx hb dX5_rewind_16 rfl (lv_at hl 0 rfl) ?_
  exact z_iret hx hb hr hlocks hS (G1_2, ho1_1, H1_1) (show (iI M.2.2.2.2.2.2.1) = iI M.2.2.2.2.2.2.1 ∧ RG G1_2 (bgn M) ∧ ho1_1 = ((pushH h M).length : Int) ∧ RH H1_1 (pushH h M) from ⟨rfl, RG_bgn hG hM hw_2, hw_1⟩) hP dX5_rewind_17
set_option maxHeartbeats 4000000 in
set_option maxRecDepth 100000 in
theorem c_X5_look (l : Launch) (D : va_G) (cy : Nat → ClassId) (m0 : Nat) (a0 : Nat) (p0 : Nat) (q0 : Nat) (v0 : Nat) (t0 : Nat) (ho : Int) (th : Int) (tl : Int) (G : Nat → Int32) (Hh : Nat → Int32) (M : MS) (h : List MS) (hG : RG G M) (hM : MOk M) (hH : RH Hh h) (hho : ho = (h.length : Int) ∧ h.length ≤ 6) : Ci l D cy yX5_look wsX5_look 4 96 [.ref m0] [(m0, .inr (5, [.ref a0, .ref p0, .int (iI ho), .ref q0, .ref v0, .int (iI th), .ref t0, .int (iI tl)])), (a0, .inl (cy 0, 144, .inl G)), (p0, .inl (cy 0, 864, .inl Hh))] (fun (r : Int32) (u : (Nat → Int32) × Int × (Nat → Int32) × Int) => (mOver M ∧ r = iI 0 ∧ u.2.2.2 = 1 ∧ u.1 = G ∧ u.2.1 = ho ∧ u.2.2.1 = Hh) ∨ (¬ mOver M ∧ r = iI (mSk M M.2.2.2.2.2.1 (mD M M.2.2.2.2.2.1)) ∧ u.2.2.2 = 0 ∧ RG u.1 (mLook M) ∧ u.2.1 = ((pushH h M).length : Int) ∧ RH u.2.2.1 (pushH h M))) (fun u : (Nat → Int32) × Int × (Nat → Int32) × Int => [(m0, .inr (5, [.ref a0, .ref p0, .int (iI u.2.1), .ref q0, .ref v0, .int (iI u.2.2.2), .ref t0, .int (iI tl)])), (a0, .inl (cy 0, 144, .inl u.1)), (p0, .inl (cy 0, 864, .inl u.2.2.1))]) := by
  refine Ci_of (cc := cX5_look) (maxL := 1) (ret := (some .int)) (by decide) rfl rfl ?_
  intro p e s m args below meth c A hx hb hr hts hown hlocks hml hP hK hD hT hA ls hl
  have hS : va_S A s.heap s.heap [] := va_S.rf
  have hl : lv_has ls 1 [(0, .ref m0)] := hl
  have hiX5 : ∀ w ∈ wsX50, w ∈ wsX5_look := by decide +kernel
  obtain ⟨h0, h1L, h61, h62W, h78, h79, h80, h81, h82, h83, h84F⟩ := id hG
  obtain ⟨o1, o2, o3, o4, o5, o6, o7, o8, o9, o10, o11, o12, o13, o14, o15⟩ := id hM
  refine lv_aload_n hx hb dX5_look_0 rfl (lv_at hl 0 rfl) ?_
  refine lv_aload_n hx hb dX5_look_1 rfl (lv_at hl 0 rfl) ?_
  refine va_get (D := D) (ci := 5) (v := .ref a0) (C := RX5) (T := TX5) (N := 8) hx hb hts hiX5 hown hK hP 0 rfl rfl 0 (by decide) (hts (.fieldLink RX5 7 "BackwardSearchModel" "all" "[I") (by decide +kernel)) (fun _ h9 => h9) rfl dX5_look_2 ?_
  refine lv_bipush (v := iI 80) hx hb dX5_look_5 (by decide +kernel) ?_
  refine z_iald hx hb hK hP 1 rfl (by omega) (by omega) (by omega) dX5_look_7 ?_
  refine z_top (show G (80 : Int).toNat = iI M.2.2.2.2.2.1 from by exact h80) ?_
  refine z_cVi (n := 1) (b := m0) (As := [.int (iI M.2.2.2.2.2.1)]) (rest := []) ⟨hx, hb, hml, hown, hts⟩ (c_X5_isOverAt l D cy m0 a0 p0 q0 v0 t0 ho th tl G (M.2.1.length : Int) (M.1.length : Int) M.2.2.2.2.2.1 (by first | assumption | omega) (by first | assumption | omega) (by first | assumption | omega) (by first | assumption | omega) (by first | assumption | omega)) gX5_look_X5_isOverAt rfl (by decide +kernel) ⟨Nat.le_of_ble_eq_true rfl, Nat.le_of_ble_eq_true rfl⟩ hK hT hP hD hS hA [0, 1] rfl rfl 0 5 rfl rfl rfl (fun _ => rfl) rfl hl.1 rfl (Nat.le_of_ble_eq_true rfl) dX5_look_8 ⟨Nat.zero_le _, Nat.zero_le _⟩ (fun r_1 u_1 H locs hw_1 hP hD hS => ?_)
  have hw_1 : (((M.2.1.length : Int) = 0 ∨ (M.1.length : Int) - (M.2.1.length : Int) + 1 ≤ M.2.2.2.2.2.1) ∧ r_1 = iI 1) ∨ (¬ ((M.2.1.length : Int) = 0 ∨ (M.1.length : Int) - (M.2.1.length : Int) + 1 ≤ M.2.2.2.2.2.1) ∧ r_1 = iI 0) := hw_1
  have hP : va_P D vwCl [(m0, .inr (5, [.ref a0, .ref p0, .int (iI ho), .ref q0, .ref v0, .int (iI th), .ref t0, .int (iI tl)])), (a0, .inl (cy 0, 144, .inl G)), (p0, .inl (cy 0, 864, .inl Hh))] H := hP
  have hD : va_D A [(m0, .inr (5, [.ref a0, .ref p0, .int (iI ho), .ref q0, .ref v0, .int (iI th), .ref t0, .int (iI tl)])), (a0, .inl (cy 0, 144, .inl G)), (p0, .inl (cy 0, 864, .inl Hh))] := hD
  rcases hw_1 with ⟨h_1, rfl⟩ | ⟨h_1, rfl⟩
  · --
    refine z_if_eq (tgt := 20) hx hb (iI_t (by omega) (by omega)) dX5_look_11 (by decide) (fun c2 => absurd c2 (by omega)) (fun _ => ?_)
    refine lv_aload_n hx hb dX5_look_14 rfl (lv_at hl 0 rfl) ?_
    refine lv_iconst (v := iI 1) hx hb dX5_look_15 rfl ?_
    refine z_cVi (n := 1) (b := m0) (As := [.int (iI 1)]) (rest := []) ⟨hx, hb, hml, hown, hts⟩ (c_X5_fails l D cy m0 a0 p0 q0 v0 t0 ho th tl (1 : Int) ) gX5_look_X5_fails rfl (by decide +kernel) ⟨Nat.le_of_ble_eq_true rfl, Nat.le_of_ble_eq_true rfl⟩ hK hT hP hD hS hA [0] rfl rfl 0 5 rfl rfl rfl (fun _ => rfl) rfl hl.1 rfl (Nat.le_of_ble_eq_true rfl) dX5_look_16 ⟨Nat.zero_le _, Nat.zero_le _⟩ (fun r_3 u_3 H locs hw_3 hP hD hS => ?_)
    have hw_3 : r_3 = iI 0 := hw_3
    have hP : va_P D vwCl [(m0, .inr (5, [.ref a0, .ref p0, .int (iI ho), .ref q0, .ref v0, .int (iI (1 : Int)), .ref t0, .int (iI tl)])), (a0, .inl (cy 0, 144, .inl G)), (p0, .inl (cy 0, 864, .inl Hh))] H := hP
    have hD : va_D A [(m0, .inr (5, [.ref a0, .ref p0, .int (iI ho), .ref q0, .ref v0, .int (iI (1 : Int)), .ref t0, .int (iI tl)])), (a0, .inl (cy 0, 144, .inl G)), (p0, .inl (cy 0, 864, .inl Hh))] := hD
    obtain rfl := hw_3
    exact z_iret hx hb hr hlocks hS (G, ho, Hh, (1 : Int)) (show (mOver M ∧ (iI 0) = iI 0 ∧ (1 : Int) = 1 ∧ G = G ∧ ho = ho ∧ Hh = Hh) ∨ (¬ mOver M ∧ (iI 0) = iI (mSk M M.2.2.2.2.2.1 (mD M M.2.2.2.2.2.1)) ∧ (1 : Int) = 0 ∧ RG G (mLook M) ∧ ho = ((pushH h M).length : Int) ∧ RH Hh (pushH h M)) from (Or.inl ⟨by assumption, rfl, rfl, rfl, rfl, rfl⟩)) hP dX5_look_19
  · --
    refine z_if_eq (tgt := 20) hx hb (iI_t (by omega) (by omega)) dX5_look_11 (by decide) (fun _ => ?_) (fun c4 => absurd c4 (by omega))
    refine lv_aload_n hx hb dX5_look_20 rfl (lv_at hl 0 rfl) ?_
    refine z_cVv (n := 0) (b := m0) (As := []) (rest := []) ⟨hx, hb, hml, hown, hts⟩ (c_X5_changes l D cy m0 a0 p0 q0 v0 t0 ho th tl G Hh M h (by first | assumption | omega) (by first | assumption | omega) (by first | assumption | omega) (by first | assumption | omega)) gX5_look_X5_changes rfl (by decide +kernel) ⟨Nat.le_of_ble_eq_true rfl, Nat.le_of_ble_eq_true rfl⟩ hK hT hP hD hS hA [0, 1, 2] rfl rfl 0 5 rfl rfl rfl (fun _ => rfl) rfl hl.1 rfl (Nat.le_of_ble_eq_true rfl) dX5_look_21 ⟨Nat.zero_le _, Nat.zero_le _⟩ (fun  u_5 H locs hw_5 hP hD hS => ?_)
    obtain ⟨ho1_5, H1_5⟩ := u_5
    have hw_5 : ho1_5 = ((pushH h M).length : Int) ∧ RH H1_5 (pushH h M) := hw_5
    have hP : va_P D vwCl [(m0, .inr (5, [.ref a0, .ref p0, .int (iI ho1_5), .ref q0, .ref v0, .int (iI 0), .ref t0, .int (iI tl)])), (a0, .inl (cy 0, 144, .inl G)), (p0, .inl (cy 0, 864, .inl H1_5))] H := hP
    have hD : va_D A [(m0, .inr (5, [.ref a0, .ref p0, .int (iI ho1_5), .ref q0, .ref v0, .int (iI 0), .ref t0, .int (iI tl)])), (a0, .inl (cy 0, 144, .inl G)), (p0, .inl (cy 0, 864, .inl H1_5))] := hD
    refine lv_aload_n hx hb dX5_look_24 rfl (lv_at hl 0 rfl) ?_
    refine z_cVi (n := 0) (b := m0) (As := []) (rest := []) ⟨hx, hb, hml, hown, hts⟩ (c_X5_looks l D cy m0 a0 p0 q0 v0 t0 ho1_5 (0 : Int) tl G M (by first | assumption | omega) (by first | assumption | omega) (by first | assumption | omega)) gX5_look_X5_looks rfl (by decide +kernel) ⟨Nat.le_of_ble_eq_true rfl, Nat.le_of_ble_eq_true rfl⟩ hK hT hP hD hS hA [0, 1] rfl rfl 0 5 rfl rfl rfl (fun _ => rfl) rfl hl.1 rfl (Nat.le_of_ble_eq_true rfl) dX5_look_25 ⟨Nat.zero_le _, Nat.zero_le _⟩ (fun r_6 u_6 H locs hw_6 hP hD hS => ?_)
    obtain ⟨G1_6, rfl⟩ : ∃ z, z = u_6 := ⟨_, rfl⟩
    have hw_6 : r_6 = iI (mSk M M.2.2.2.2.2.1 (mD M M.2.2.2.2.2.1)) ∧ RG G1_6 (mLook M) := hw_6
    have hP : va_P D vwCl [(m0, .inr (5, [.ref a0, .ref p0, .int (iI ho1_5), .ref q0, .ref v0, .int (iI (0 : Int)), .ref t0, .int (iI tl)])), (a0, .inl (cy 0, 144, .inl G1_6)), (p0, .inl (cy 0, 864, .inl H1_5))] H := hP
    have hD : va_D A [(m0, .inr (5, [.ref a0, .ref p0, .int (iI ho1_5), .ref q0, .ref v0, .int (iI (0 : Int)), .ref t0, .int (iI tl)])), (a0, .inl (cy 0, 144, .inl G1_6)), (p0, .inl (cy 0, 864, .inl H1_5))] := hD
    exact z_iret hx hb hr hlocks hS (G1_6, ho1_5, H1_5, (0 : Int)) (show (mOver M ∧ r_6 = iI 0 ∧ (0 : Int) = 1 ∧ G1_6 = G ∧ ho1_5 = ho ∧ H1_5 = Hh) ∨ (¬ mOver M ∧ r_6 = iI (mSk M M.2.2.2.2.2.1 (mD M M.2.2.2.2.2.1)) ∧ (0 : Int) = 0 ∧ RG G1_6 (mLook M) ∧ ho1_5 = ((pushH h M).length : Int) ∧ RH H1_5 (pushH h M)) from (Or.inr ⟨by assumption, hw_6.1, rfl, hw_6.2, hw_5⟩)) hP dX5_look_28
set_option maxHeartbeats 4000000 in
set_option maxRecDepth 100000 in
theorem c_X5_finish (l : Launch) (D : va_G) (cy : Nat → ClassId) (m0 : Nat) (a0 : Nat) (p0 : Nat) (q0 : Nat) (v0 : Nat) (t0 : Nat) (ho : Int) (th : Int) (tl : Int) (G : Nat → Int32) (Hh : Nat → Int32) (M : MS) (h : List MS) (hG : RG G M) (hM : MOk M) (hH : RH Hh h) (hho : ho = (h.length : Int) ∧ h.length ≤ 6) : Ci l D cy yX5_finish wsX5_finish 4 96 [.ref m0] [(m0, .inr (5, [.ref a0, .ref p0, .int (iI ho), .ref q0, .ref v0, .int (iI th), .ref t0, .int (iI tl)])), (a0, .inl (cy 0, 144, .inl G)), (p0, .inl (cy 0, 864, .inl Hh))] (fun (r : Int32) (u : (Nat → Int32) × Int × (Nat → Int32)) => r = iI (mRun M).2 ∧ RG u.1 (mOf M (mRun M).1) ∧ u.2.1 = ((pushH h M).length : Int) ∧ RH u.2.2 (pushH h M)) (fun u : (Nat → Int32) × Int × (Nat → Int32) => [(m0, .inr (5, [.ref a0, .ref p0, .int (iI u.2.1), .ref q0, .ref v0, .int (iI 0), .ref t0, .int (iI tl)])), (a0, .inl (cy 0, 144, .inl u.1)), (p0, .inl (cy 0, 864, .inl u.2.2))]) := by
  refine Ci_of (cc := cX5_finish) (maxL := 3) (ret := (some .int)) (by decide) rfl rfl ?_
  intro p e s m args below meth c A hx hb hr hts hown hlocks hml hP hK hD hT hA ls hl
  have hS : va_S A s.heap s.heap [] := va_S.rf
  have hl : lv_has ls 3 [(0, .ref m0)] := hl
  have hiX5 : ∀ w ∈ wsX50, w ∈ wsX5_finish := by decide +kernel
  obtain ⟨h0, h1L, h61, h62W, h78, h79, h80, h81, h82, h83, h84F⟩ := id hG
  obtain ⟨o1, o2, o3, o4, o5, o6, o7, o8, o9, o10, o11, o12, o13, o14, o15⟩ := id hM
  refine lv_aload_n hx hb dX5_finish_0 rfl (lv_at hl 0 rfl) ?_
  refine z_cVv (n := 0) (b := m0) (As := []) (rest := []) ⟨hx, hb, hml, hown, hts⟩ (c_X5_changes l D cy m0 a0 p0 q0 v0 t0 ho th tl G Hh M h (by first | assumption | omega) (by first | assumption | omega) (by first | assumption | omega) (by first | assumption | omega)) gX5_finish_X5_changes rfl (by decide +kernel) ⟨Nat.le_of_ble_eq_true rfl, Nat.le_of_ble_eq_true rfl⟩ hK hT hP hD hS hA [0, 1, 2] rfl rfl 0 5 rfl rfl rfl (fun _ => rfl) rfl hl.1 rfl (Nat.le_of_ble_eq_true rfl) dX5_finish_1 ⟨Nat.zero_le _, Nat.zero_le _⟩ (fun  u_1 H locs hw_1 hP hD hS => ?_)
  obtain ⟨ho1_1, H1_1⟩ := u_1
  have hw_1 : ho1_1 = ((pushH h M).length : Int) ∧ RH H1_1 (pushH h M) := hw_1
  have hP : va_P D vwCl [(m0, .inr (5, [.ref a0, .ref p0, .int (iI ho1_1), .ref q0, .ref v0, .int (iI 0), .ref t0, .int (iI tl)])), (a0, .inl (cy 0, 144, .inl G)), (p0, .inl (cy 0, 864, .inl H1_1))] H := hP
  have hD : va_D A [(m0, .inr (5, [.ref a0, .ref p0, .int (iI ho1_1), .ref q0, .ref v0, .int (iI 0), .ref t0, .int (iI tl)])), (a0, .inl (cy 0, 144, .inl G)), (p0, .inl (cy 0, 864, .inl H1_1))] := hD
  refine lv_iconst (v := iI 0) hx hb dX5_finish_4 rfl ?_
  refine lv_istore_n (lv' := [(1, .int (iI 0)), (0, .ref m0)]) hx hb dX5_finish_5 rfl hl (by decide) rfl (fun ls hl => ?_)
  have hloop2 : ∀ (n2 : Nat) (i : Int) (t : LT) (G2 : Nat → Int32) (hi : 0 ≤ i ∧ i ≤ 60 ∧ i ≤ t.1 ∧ 0 ≤ t.1) (hG2 : RG G2 (mOf M t)) (hM2 : MOk (mOf M t)) (hrun : (runS M.1.length M.2.1.length (gl M.2.1) (gl M.1) (mSk M) (60 - i).toNat t).1 = (mRun M).1 ∧ i + (runS M.1.length M.2.1.length (gl M.2.1) (gl M.1) (mSk M) (60 - i).toNat t).2 = (mRun M).2) (hm : 60 - i < (n2 : Int)) (H : Heap) (locs : List Loc) (ls : Array Slot) (hP : va_P D vwCl [(m0, .inr (5, [.ref a0, .ref p0, .int (iI ho1_1), .ref q0, .ref v0, .int (iI 0), .ref t0, .int (iI tl)])), (a0, .inl (cy 0, 144, .inl G2)), (p0, .inl (cy 0, 864, .inl H1_1))] H) (hD : va_D A [(m0, .inr (5, [.ref a0, .ref p0, .int (iI ho1_1), .ref q0, .ref v0, .int (iI 0), .ref t0, .int (iI tl)])), (a0, .inl (cy 0, 144, .inl G2)), (p0, .inl (cy 0, 864, .inl H1_1))]) (hS : va_S A s.heap H locs) (hl : lv_has ls 3 [(1, .int (iI i)), (0, .ref m0)]), W p l e ({ frames := 4, cells := 0, slots := 0, locals := 96 } : Room) s m args below meth c H locs 0 0 (MQ below (va_Qi (fun (r : Int32) (u : (Nat → Int32) × Int × (Nat → Int32)) => r = iI (mRun M).2 ∧ RG u.1 (mOf M (mRun M).1) ∧ u.2.1 = ((pushH h M).length : Int) ∧ RH u.2.2 (pushH h M)) (fun u t => va_P D vwCl ((fun u : (Nat → Int32) × Int × (Nat → Int32) => [(m0, .inr (5, [.ref a0, .ref p0, .int (iI u.2.1), .ref q0, .ref v0, .int (iI 0), .ref t0, .int (iI tl)])), (a0, .inl (cy 0, 144, .inl u.1)), (p0, .inl (cy 0, 864, .inl u.2.2))]) u) t.heap) A) args s 0 0 A) (F0 m 6 ls []) := by
    intro n2
    induction n2 with
    | zero =>
      intro i t G2 hi hG2 hM2 hrun hm; exact absurd hm (by omega)
    | succ n2 ih2 =>
      intro i t G2 hi hG2 hM2 hrun hm H locs ls hP hD hS hl
      have h80b : G2 80 = iI t.1 := hG2.2.2.2.2.2.2.1
      have h61b : G2 61 = iI (M.2.1.length : Int) := hG2.2.2.1
      have h0b : G2 0 = iI (M.1.length : Int) := hG2.1
      have hp100 : t.1 ≤ 100 := hM2.2.2.2.2.2.1
      refine lv_aload_n hx hb dX5_finish_6 rfl (lv_at hl 1 rfl) ?_
      refine lv_aload_n hx hb dX5_finish_7 rfl (lv_at hl 1 rfl) ?_
      refine va_get (D := D) (ci := 5) (v := .ref a0) (C := RX5) (T := TX5) (N := 8) hx hb hts hiX5 hown hK hP 0 rfl rfl 0 (by decide) (hts (.fieldLink RX5 7 "BackwardSearchModel" "all" "[I") (by decide +kernel)) (fun _ h9 => h9) rfl dX5_finish_8 ?_
      refine lv_bipush (v := iI 80) hx hb dX5_finish_11 (by decide +kernel) ?_
      refine z_iald hx hb hK hP 1 rfl (by omega) (by omega) (by omega) dX5_finish_13 ?_
      refine z_top (show G2 (80 : Int).toNat = iI t.1 from by exact h80b) ?_
      refine z_cVi (n := 1) (b := m0) (As := [.int (iI t.1)]) (rest := []) ⟨hx, hb, hml, hown, hts⟩ (c_X5_isOverAt l D cy m0 a0 p0 q0 v0 t0 ho1_1 (0 : Int) tl G2 (M.2.1.length : Int) (M.1.length : Int) t.1 (h61b) (by first | assumption | omega) (h0b) (by first | assumption | omega) (by first | assumption | omega)) gX5_finish_X5_isOverAt rfl (by decide +kernel) ⟨Nat.le_of_ble_eq_true rfl, Nat.le_of_ble_eq_true rfl⟩ hK hT hP hD hS hA [0, 1] rfl rfl 0 5 rfl rfl rfl (fun _ => rfl) rfl hl.1 rfl (Nat.le_of_ble_eq_true rfl) dX5_finish_14 ⟨Nat.zero_le _, Nat.zero_le _⟩ (fun r_3 u_3 H locs hw_3 hP hD hS => ?_)
      have hw_3 : (((M.2.1.length : Int) = 0 ∨ (M.1.length : Int) - (M.2.1.length : Int) + 1 ≤ t.1) ∧ r_3 = iI 1) ∨ (¬ ((M.2.1.length : Int) = 0 ∨ (M.1.length : Int) - (M.2.1.length : Int) + 1 ≤ t.1) ∧ r_3 = iI 0) := hw_3
      have hP : va_P D vwCl [(m0, .inr (5, [.ref a0, .ref p0, .int (iI ho1_1), .ref q0, .ref v0, .int (iI (0 : Int)), .ref t0, .int (iI tl)])), (a0, .inl (cy 0, 144, .inl G2)), (p0, .inl (cy 0, 864, .inl H1_1))] H := hP
      have hD : va_D A [(m0, .inr (5, [.ref a0, .ref p0, .int (iI ho1_1), .ref q0, .ref v0, .int (iI (0 : Int)), .ref t0, .int (iI tl)])), (a0, .inl (cy 0, 144, .inl G2)), (p0, .inl (cy 0, 864, .inl H1_1))] := hD
      rcases hw_3 with ⟨h_3, rfl⟩ | ⟨h_3, rfl⟩
      · --
        refine z_if_ne (tgt := 31) hx hb (iI_t (by omega) (by omega)) dX5_finish_17 (by decide) (fun _ => ?_) (fun c4 => absurd c4 (by omega))
        refine lv_iload_n hx hb dX5_finish_31 rfl (lv_at hl 0 rfl) ?_
        exact z_iret hx hb hr hlocks hS (G2, ho1_1, H1_1) (show (iI i) = iI (mRun M).2 ∧ RG G2 (mOf M (mRun M).1) ∧ ho1_1 = ((pushH h M).length : Int) ∧ RH H1_1 (pushH h M) from (by
              have hz : (runS M.1.length M.2.1.length (gl M.2.1) (gl M.1) (mSk M) (60 - i).toNat t) = (t, 0) := runS_over (by assumption) _
              rw [hz] at hrun
              rw [← hrun.1]
              exact ⟨congrArg iI (by have := hrun.2; simp only [] at this; omega), hG2, hw_1⟩)) hP dX5_finish_32
      · --
        refine z_if_ne (tgt := 31) hx hb (iI_t (by omega) (by omega)) dX5_finish_17 (by decide) (fun c5 => absurd c5 (by omega)) (fun _ => ?_)
        refine lv_aload_n hx hb dX5_finish_20 rfl (lv_at hl 1 rfl) ?_
        refine z_cVi (n := 0) (b := m0) (As := []) (rest := []) ⟨hx, hb, hml, hown, hts⟩ (c_X5_looks l D cy m0 a0 p0 q0 v0 t0 ho1_1 (0 : Int) tl G2 (mOf M t) (hG2) (hM2) (by assumption)) gX5_finish_X5_looks rfl (by decide +kernel) ⟨Nat.le_of_ble_eq_true rfl, Nat.le_of_ble_eq_true rfl⟩ hK hT hP hD hS hA [0, 1] rfl rfl 0 5 rfl rfl rfl (fun _ => rfl) rfl hl.1 rfl (Nat.le_of_ble_eq_true rfl) dX5_finish_21 ⟨Nat.zero_le _, Nat.zero_le _⟩ (fun r_6 u_6 H locs hw_6 hP hD hS => ?_)
        obtain ⟨G1_6, rfl⟩ : ∃ z, z = u_6 := ⟨_, rfl⟩
        have hw_6 : r_6 = iI (mSk (mOf M t) (mOf M t).2.2.2.2.2.1 (mD (mOf M t) (mOf M t).2.2.2.2.2.1)) ∧ RG G1_6 (mLook (mOf M t)) := hw_6
        have hP : va_P D vwCl [(m0, .inr (5, [.ref a0, .ref p0, .int (iI ho1_1), .ref q0, .ref v0, .int (iI (0 : Int)), .ref t0, .int (iI tl)])), (a0, .inl (cy 0, 144, .inl G1_6)), (p0, .inl (cy 0, 864, .inl H1_1))] H := hP
        have hD : va_D A [(m0, .inr (5, [.ref a0, .ref p0, .int (iI ho1_1), .ref q0, .ref v0, .int (iI (0 : Int)), .ref t0, .int (iI tl)])), (a0, .inl (cy 0, 144, .inl G1_6)), (p0, .inl (cy 0, 864, .inl H1_1))] := hD
        refine lv_istore_n (lv' := [(2, .int r_6), (1, .int (iI i)), (0, .ref m0)]) hx hb dX5_finish_24 rfl hl (by decide) rfl (fun ls hl => ?_)
        refine z_iinc (lv' := [(1, .int (iI (i + 1))), (2, .int r_6), (0, .ref m0)]) hx hb dX5_finish_25 hl (k := 1) rfl (by decide) rfl (fun ls hl => ?_)
        refine lv_goto (tgt := 6) hx hb dX5_finish_28 (by decide) ?_
        have hl1 : (lookS M.2.1.length (gl M.2.1) (gl M.1) (mSk M) t).1 = t.1 + mSk M t.1 (diffF M.2.1.length (gl M.2.1) (gl M.1) t.1) := rfl
        have hl2 := mSk_pos (M := M) o2 t.1 (by omega)
        have hno : ¬ mOver (mOf M t) := by assumption
        exact ih2 (i + 1) (lookS M.2.1.length (gl M.2.1) (gl M.1) (mSk M) t) G1_6 (by omega) (hw_6.2) (MOk.look (M := mOf M t) hM2 hno) (run_step2 (by omega) (by omega) (by assumption) hrun) (by omega) _ _ _ hP hD hS (lv_sub hl [0, 2] rfl)
  exact hloop2 (Int.toNat (60 - 0) + 1) 0 (mT M) G (by refine ⟨by omega, by omega, o5, o5⟩) (hG) (hM) (⟨rfl, by rw [Int.zero_add]; rfl⟩) (by omega) _ _ _ hP hD hS (lv_sub hl [0, 1] rfl)
set_option maxHeartbeats 4000000 in
set_option maxRecDepth 100000 in
theorem c_X5_setLetter (l : Launch) (D : va_G) (cy : Nat → ClassId) (m0 : Nat) (a0 : Nat) (p0 : Nat) (q0 : Nat) (v0 : Nat) (t0 : Nat) (ho : Int) (th : Int) (tl : Int) (G : Nat → Int32) (Hh : Nat → Int32) (M : MS) (h : List MS) (x : Int) (y : Int) (hG : RG G M) (hM : MOk M) (hH : RH Hh h) (hho : ho = (h.length : Int) ∧ h.length ≤ 6) (hx1 : -2147483648 ≤ x ∧ x < 2147483648) (hy1 : -2147483648 ≤ y ∧ y < 2147483648) : Ci l D cy yX5_setLetter wsX5_setLetter 2 46 [.ref m0, .int (iI x), .int (iI y)] [(m0, .inr (5, [.ref a0, .ref p0, .int (iI ho), .ref q0, .ref v0, .int (iI th), .ref t0, .int (iI tl)])), (a0, .inl (cy 0, 144, .inl G)), (p0, .inl (cy 0, 864, .inl Hh))] (fun (r : Int32) (u : (Nat → Int32) × Int × (Nat → Int32) × Int) => (¬ (0 ≤ x ∧ x < (M.1.length : Int)) ∧ r = iI 0 ∧ u.2.2.2 = 1 ∧ u.1 = G ∧ u.2.1 = ho ∧ u.2.2.1 = Hh) ∨ ((0 ≤ x ∧ x < (M.1.length : Int)) ∧ ¬ (0 ≤ y ∧ y ≤ 25) ∧ r = iI 0 ∧ u.2.2.2 = 2 ∧ u.1 = G ∧ u.2.1 = ho ∧ u.2.2.1 = Hh) ∨ ((0 ≤ x ∧ x < (M.1.length : Int)) ∧ (0 ≤ y ∧ y ≤ 25) ∧ r = gl M.1 x.toNat ∧ u.2.2.2 = 0 ∧ RG u.1 (mSet M x.toNat (iI y)) ∧ u.2.1 = ((pushH h M).length : Int) ∧ RH u.2.2.1 (pushH h M))) (fun u : (Nat → Int32) × Int × (Nat → Int32) × Int => [(m0, .inr (5, [.ref a0, .ref p0, .int (iI u.2.1), .ref q0, .ref v0, .int (iI u.2.2.2), .ref t0, .int (iI tl)])), (a0, .inl (cy 0, 144, .inl u.1)), (p0, .inl (cy 0, 864, .inl u.2.2.1))]) := by
  refine Ci_of (cc := cX5_setLetter) (maxL := 4) (ret := (some .int)) (by decide) rfl rfl ?_
  intro p e s m args below meth c A hx hb hr hts hown hlocks hml hP hK hD hT hA ls hl
  have hS : va_S A s.heap s.heap [] := va_S.rf
  have hl : lv_has ls 4 [(0, .ref m0), (1, .int (iI x)), (2, .int (iI y))] := hl
  have hiX5 : ∀ w ∈ wsX50, w ∈ wsX5_setLetter := by decide +kernel
  obtain ⟨h0, h1L, h61, h62W, h78, h79, h80, h81, h82, h83, h84F⟩ := id hG
  obtain ⟨o1, o2, o3, o4, o5, o6, o7, o8, o9, o10, o11, o12, o13, o14, o15⟩ := id hM
  refine lv_aload_n hx hb dX5_setLetter_0 rfl (lv_at hl 0 rfl) ?_
  refine lv_iload_n hx hb dX5_setLetter_1 rfl (lv_at hl 1 rfl) ?_
  refine z_cVi (n := 1) (b := m0) (As := [.int (iI x)]) (rest := []) ⟨hx, hb, hml, hown, hts⟩ (c_X5_isInLine l D cy m0 a0 p0 q0 v0 t0 ho th tl G (M.1.length : Int) x (by first | assumption | omega) (by first | assumption | omega) (by first | assumption | omega)) gX5_setLetter_X5_isInLine rfl (by decide +kernel) ⟨Nat.le_of_ble_eq_true rfl, Nat.le_of_ble_eq_true rfl⟩ hK hT hP hD hS hA [0, 1] rfl rfl 0 5 rfl rfl rfl (fun _ => rfl) rfl hl.1 rfl (Nat.le_of_ble_eq_true rfl) dX5_setLetter_2 ⟨Nat.zero_le _, Nat.zero_le _⟩ (fun r_1 u_1 H locs hw_1 hP hD hS => ?_)
  have hw_1 : ((0 ≤ x ∧ x < (M.1.length : Int)) ∧ r_1 = iI 1) ∨ (¬ (0 ≤ x ∧ x < (M.1.length : Int)) ∧ r_1 = iI 0) := hw_1
  have hP : va_P D vwCl [(m0, .inr (5, [.ref a0, .ref p0, .int (iI ho), .ref q0, .ref v0, .int (iI th), .ref t0, .int (iI tl)])), (a0, .inl (cy 0, 144, .inl G)), (p0, .inl (cy 0, 864, .inl Hh))] H := hP
  have hD : va_D A [(m0, .inr (5, [.ref a0, .ref p0, .int (iI ho), .ref q0, .ref v0, .int (iI th), .ref t0, .int (iI tl)])), (a0, .inl (cy 0, 144, .inl G)), (p0, .inl (cy 0, 864, .inl Hh))] := hD
  rcases hw_1 with ⟨h_1, rfl⟩ | ⟨h_1, rfl⟩
  · --
    refine z_if_ne (tgt := 14) hx hb (iI_t (by omega) (by omega)) dX5_setLetter_5 (by decide) (fun _ => ?_) (fun c2 => absurd c2 (by omega))
    refine lv_iload_n hx hb dX5_setLetter_14 rfl (lv_at hl 2 rfl) ?_
    refine z_cSi (n := 1) (As := [.int (iI y)]) (rest := []) ⟨hx, hb, hml, hown, hts⟩ (c_X5_isLetter l D cy y (by first | assumption | omega)) gX5_setLetter_X5_isLetter rfl (by decide +kernel) ⟨Nat.le_of_ble_eq_true rfl, Nat.le_of_ble_eq_true rfl⟩ hK hT hP hD hS hA [] rfl rfl (fun _ => rfl) rfl hl.1 rfl (Nat.le_of_ble_eq_true rfl) dX5_setLetter_15 ⟨Nat.zero_le _, Nat.zero_le _⟩ (fun r_3 u_3 H locs hw_3 hP hD hS => ?_)
    have hw_3 : ((0 ≤ y ∧ y ≤ 25) ∧ r_3 = iI 1) ∨ (¬ (0 ≤ y ∧ y ≤ 25) ∧ r_3 = iI 0) := hw_3
    have hP : va_P D vwCl [(m0, .inr (5, [.ref a0, .ref p0, .int (iI ho), .ref q0, .ref v0, .int (iI th), .ref t0, .int (iI tl)])), (a0, .inl (cy 0, 144, .inl G)), (p0, .inl (cy 0, 864, .inl Hh))] H := hP
    have hD : va_D A [(m0, .inr (5, [.ref a0, .ref p0, .int (iI ho), .ref q0, .ref v0, .int (iI th), .ref t0, .int (iI tl)])), (a0, .inl (cy 0, 144, .inl G)), (p0, .inl (cy 0, 864, .inl Hh))] := hD
    rcases hw_3 with ⟨h_3, rfl⟩ | ⟨h_3, rfl⟩
    · --
      refine z_if_ne (tgt := 27) hx hb (iI_t (by omega) (by omega)) dX5_setLetter_18 (by decide) (fun _ => ?_) (fun c4 => absurd c4 (by omega))
      refine lv_aload_n hx hb dX5_setLetter_27 rfl (lv_at hl 0 rfl) ?_
      refine z_cVv (n := 0) (b := m0) (As := []) (rest := []) ⟨hx, hb, hml, hown, hts⟩ (c_X5_changes l D cy m0 a0 p0 q0 v0 t0 ho th tl G Hh M h (by first | assumption | omega) (by first | assumption | omega) (by first | assumption | omega) (by first | assumption | omega)) gX5_setLetter_X5_changes rfl (by decide +kernel) ⟨Nat.le_of_ble_eq_true rfl, Nat.le_of_ble_eq_true rfl⟩ hK hT hP hD hS hA [0, 1, 2] rfl rfl 0 5 rfl rfl rfl (fun _ => rfl) rfl hl.1 rfl (Nat.le_of_ble_eq_true rfl) dX5_setLetter_28 ⟨Nat.zero_le _, Nat.zero_le _⟩ (fun  u_5 H locs hw_5 hP hD hS => ?_)
      obtain ⟨ho1_5, H1_5⟩ := u_5
      have hw_5 : ho1_5 = ((pushH h M).length : Int) ∧ RH H1_5 (pushH h M) := hw_5
      have hP : va_P D vwCl [(m0, .inr (5, [.ref a0, .ref p0, .int (iI ho1_5), .ref q0, .ref v0, .int (iI 0), .ref t0, .int (iI tl)])), (a0, .inl (cy 0, 144, .inl G)), (p0, .inl (cy 0, 864, .inl H1_5))] H := hP
      have hD : va_D A [(m0, .inr (5, [.ref a0, .ref p0, .int (iI ho1_5), .ref q0, .ref v0, .int (iI 0), .ref t0, .int (iI tl)])), (a0, .inl (cy 0, 144, .inl G)), (p0, .inl (cy 0, 864, .inl H1_5))] := hD
      refine lv_aload_n hx hb dX5_setLetter_31 rfl (lv_at hl 0 rfl) ?_
      refine va_get (D := D) (ci := 5) (v := .ref a0) (C := RX5) (T := TX5) (N := 8) hx hb hts hiX5 hown hK hP 0 rfl rfl 0 (by decide) (hts (.fieldLink RX5 7 "BackwardSearchModel" "all" "[I") (by decide +kernel)) (fun _ h9 => h9) rfl dX5_setLetter_32 ?_
      refine lv_iconst (v := iI 1) hx hb dX5_setLetter_35 rfl ?_
      refine lv_iload_n hx hb dX5_setLetter_36 rfl (lv_at hl 1 rfl) ?_
      refine z_add hx hb dX5_setLetter_37 ?_
      refine z_iald hx hb hK hP 1 rfl (by omega) (by omega) (by omega) dX5_setLetter_38 ?_
      refine z_top (show G (1 + x).toNat = G (1 + x).toNat from rfl) ?_
      refine lv_istore_n (lv' := [(3, .int (G (1 + x).toNat)), (0, .ref m0), (1, .int (iI x)), (2, .int (iI y))]) hx hb dX5_setLetter_39 rfl hl (by decide) rfl (fun ls hl => ?_)
      refine lv_aload_n hx hb dX5_setLetter_40 rfl (lv_at hl 1 rfl) ?_
      refine va_get (D := D) (ci := 5) (v := .ref a0) (C := RX5) (T := TX5) (N := 8) hx hb hts hiX5 hown hK hP 0 rfl rfl 0 (by decide) (hts (.fieldLink RX5 7 "BackwardSearchModel" "all" "[I") (by decide +kernel)) (fun _ h9 => h9) rfl dX5_setLetter_41 ?_
      refine lv_iconst (v := iI 1) hx hb dX5_setLetter_44 rfl ?_
      refine lv_iload_n hx hb dX5_setLetter_45 rfl (lv_at hl 2 rfl) ?_
      refine z_add hx hb dX5_setLetter_46 ?_
      refine lv_iload_n hx hb dX5_setLetter_47 rfl (lv_at hl 3 rfl) ?_
      refine z_iast hx hb hK hP hD hS 1 rfl (by omega) (by omega) (by omega) dX5_setLetter_48 (fun H locs hP hD hS => ?_)
      have hP : va_P D vwCl [(m0, .inr (5, [.ref a0, .ref p0, .int (iI ho1_5), .ref q0, .ref v0, .int (iI 0), .ref t0, .int (iI tl)])), (a0, .inl (cy 0, 144, .inl (upd G ((1 + x).toNat) (iI y)))), (p0, .inl (cy 0, 864, .inl H1_5))] H := hP
      have hD : va_D A [(m0, .inr (5, [.ref a0, .ref p0, .int (iI ho1_5), .ref q0, .ref v0, .int (iI 0), .ref t0, .int (iI tl)])), (a0, .inl (cy 0, 144, .inl (upd G ((1 + x).toNat) (iI y)))), (p0, .inl (cy 0, 864, .inl H1_5))] := hD
      refine lv_aload_n hx hb dX5_setLetter_49 rfl (lv_at hl 1 rfl) ?_
      refine z_cVv (n := 0) (b := m0) (As := []) (rest := []) ⟨hx, hb, hml, hown, hts⟩ (c_X5_begins l D cy m0 a0 p0 q0 v0 t0 ho1_5 (0 : Int) tl (upd G ((1 + x).toNat) (iI y)) ) gX5_setLetter_X5_begins rfl (by decide +kernel) ⟨Nat.le_of_ble_eq_true rfl, Nat.le_of_ble_eq_true rfl⟩ hK hT hP hD hS hA [0, 1] rfl rfl 0 5 rfl rfl rfl (fun _ => rfl) rfl hl.1 rfl (Nat.le_of_ble_eq_true rfl) dX5_setLetter_50 ⟨Nat.zero_le _, Nat.zero_le _⟩ (fun  u_6 H locs hw_6 hP hD hS => ?_)
      obtain ⟨G1_6, rfl⟩ : ∃ z, z = u_6 := ⟨_, rfl⟩
      have hw_6 : (∀ j : Nat, j < 80 → G1_6 j = (upd G ((1 + x).toNat) (iI y)) j) ∧ ∀ j : Nat, 80 ≤ j → j < 144 → G1_6 j = iI 0 := hw_6
      have hP : va_P D vwCl [(m0, .inr (5, [.ref a0, .ref p0, .int (iI ho1_5), .ref q0, .ref v0, .int (iI (0 : Int)), .ref t0, .int (iI tl)])), (a0, .inl (cy 0, 144, .inl G1_6)), (p0, .inl (cy 0, 864, .inl H1_5))] H := hP
      have hD : va_D A [(m0, .inr (5, [.ref a0, .ref p0, .int (iI ho1_5), .ref q0, .ref v0, .int (iI (0 : Int)), .ref t0, .int (iI tl)])), (a0, .inl (cy 0, 144, .inl G1_6)), (p0, .inl (cy 0, 864, .inl H1_5))] := hD
      refine lv_iload_n hx hb dX5_setLetter_53 rfl (lv_at hl 0 rfl) ?_
      exact z_iret hx hb hr hlocks hS (G1_6, ho1_5, H1_5, (0 : Int)) (show (¬ (0 ≤ x ∧ x < (M.1.length : Int)) ∧ (G (1 + x).toNat) = iI 0 ∧ (0 : Int) = 1 ∧ G1_6 = G ∧ ho1_5 = ho ∧ H1_5 = Hh) ∨ ((0 ≤ x ∧ x < (M.1.length : Int)) ∧ ¬ (0 ≤ y ∧ y ≤ 25) ∧ (G (1 + x).toNat) = iI 0 ∧ (0 : Int) = 2 ∧ G1_6 = G ∧ ho1_5 = ho ∧ H1_5 = Hh) ∨ ((0 ≤ x ∧ x < (M.1.length : Int)) ∧ (0 ≤ y ∧ y ≤ 25) ∧ (G (1 + x).toNat) = gl M.1 x.toNat ∧ (0 : Int) = 0 ∧ RG G1_6 (mSet M x.toNat (iI y)) ∧ ho1_5 = ((pushH h M).length : Int) ∧ RH H1_5 (pushH h M)) from (Or.inr (Or.inr ⟨by omega, by omega, (by rw [show (1 + x).toNat = 1 + x.toNat by omega]; exact h1L _ (by omega)), rfl, RG_set hG hM (by omega) hw_6, hw_5⟩))) hP dX5_setLetter_54
    · --
      refine z_if_ne (tgt := 27) hx hb (iI_t (by omega) (by omega)) dX5_setLetter_18 (by decide) (fun c7 => absurd c7 (by omega)) (fun _ => ?_)
      refine lv_aload_n hx hb dX5_setLetter_21 rfl (lv_at hl 0 rfl) ?_
      refine lv_iconst (v := iI 2) hx hb dX5_setLetter_22 rfl ?_
      refine z_cVi (n := 1) (b := m0) (As := [.int (iI 2)]) (rest := []) ⟨hx, hb, hml, hown, hts⟩ (c_X5_fails l D cy m0 a0 p0 q0 v0 t0 ho th tl (2 : Int) ) gX5_setLetter_X5_fails rfl (by decide +kernel) ⟨Nat.le_of_ble_eq_true rfl, Nat.le_of_ble_eq_true rfl⟩ hK hT hP hD hS hA [0] rfl rfl 0 5 rfl rfl rfl (fun _ => rfl) rfl hl.1 rfl (Nat.le_of_ble_eq_true rfl) dX5_setLetter_23 ⟨Nat.zero_le _, Nat.zero_le _⟩ (fun r_8 u_8 H locs hw_8 hP hD hS => ?_)
      have hw_8 : r_8 = iI 0 := hw_8
      have hP : va_P D vwCl [(m0, .inr (5, [.ref a0, .ref p0, .int (iI ho), .ref q0, .ref v0, .int (iI (2 : Int)), .ref t0, .int (iI tl)])), (a0, .inl (cy 0, 144, .inl G)), (p0, .inl (cy 0, 864, .inl Hh))] H := hP
      have hD : va_D A [(m0, .inr (5, [.ref a0, .ref p0, .int (iI ho), .ref q0, .ref v0, .int (iI (2 : Int)), .ref t0, .int (iI tl)])), (a0, .inl (cy 0, 144, .inl G)), (p0, .inl (cy 0, 864, .inl Hh))] := hD
      obtain rfl := hw_8
      exact z_iret hx hb hr hlocks hS (G, ho, Hh, (2 : Int)) (show (¬ (0 ≤ x ∧ x < (M.1.length : Int)) ∧ (iI 0) = iI 0 ∧ (2 : Int) = 1 ∧ G = G ∧ ho = ho ∧ Hh = Hh) ∨ ((0 ≤ x ∧ x < (M.1.length : Int)) ∧ ¬ (0 ≤ y ∧ y ≤ 25) ∧ (iI 0) = iI 0 ∧ (2 : Int) = 2 ∧ G = G ∧ ho = ho ∧ Hh = Hh) ∨ ((0 ≤ x ∧ x < (M.1.length : Int)) ∧ (0 ≤ y ∧ y ≤ 25) ∧ (iI 0) = gl M.1 x.toNat ∧ (2 : Int) = 0 ∧ RG G (mSet M x.toNat (iI y)) ∧ ho = ((pushH h M).length : Int) ∧ RH Hh (pushH h M)) from (by first | exact Or.inl ⟨by omega, rfl, rfl, rfl, rfl, rfl⟩ | exact Or.inr (Or.inl ⟨by omega, by omega, rfl, rfl, rfl, rfl, rfl⟩))) hP dX5_setLetter_26
  · --
    refine z_if_ne (tgt := 14) hx hb (iI_t (by omega) (by omega)) dX5_setLetter_5 (by decide) (fun c9 => absurd c9 (by omega)) (fun _ => ?_)
    refine lv_aload_n hx hb dX5_setLetter_8 rfl (lv_at hl 0 rfl) ?_
    refine lv_iconst (v := iI 1) hx hb dX5_setLetter_9 rfl ?_
    refine z_cVi (n := 1) (b := m0) (As := [.int (iI 1)]) (rest := []) ⟨hx, hb, hml, hown, hts⟩ (c_X5_fails l D cy m0 a0 p0 q0 v0 t0 ho th tl (1 : Int) ) gX5_setLetter_X5_fails rfl (by decide +kernel) ⟨Nat.le_of_ble_eq_true rfl, Nat.le_of_ble_eq_true rfl⟩ hK hT hP hD hS hA [0] rfl rfl 0 5 rfl rfl rfl (fun _ => rfl) rfl hl.1 rfl (Nat.le_of_ble_eq_true rfl) dX5_setLetter_10 ⟨Nat.zero_le _, Nat.zero_le _⟩ (fun r_10 u_10 H locs hw_10 hP hD hS => ?_)
    have hw_10 : r_10 = iI 0 := hw_10
    have hP : va_P D vwCl [(m0, .inr (5, [.ref a0, .ref p0, .int (iI ho), .ref q0, .ref v0, .int (iI (1 : Int)), .ref t0, .int (iI tl)])), (a0, .inl (cy 0, 144, .inl G)), (p0, .inl (cy 0, 864, .inl Hh))] H := hP
    have hD : va_D A [(m0, .inr (5, [.ref a0, .ref p0, .int (iI ho), .ref q0, .ref v0, .int (iI (1 : Int)), .ref t0, .int (iI tl)])), (a0, .inl (cy 0, 144, .inl G)), (p0, .inl (cy 0, 864, .inl Hh))] := hD
    obtain rfl := hw_10
    exact z_iret hx hb hr hlocks hS (G, ho, Hh, (1 : Int)) (show (¬ (0 ≤ x ∧ x < (M.1.length : Int)) ∧ (iI 0) = iI 0 ∧ (1 : Int) = 1 ∧ G = G ∧ ho = ho ∧ Hh = Hh) ∨ ((0 ≤ x ∧ x < (M.1.length : Int)) ∧ ¬ (0 ≤ y ∧ y ≤ 25) ∧ (iI 0) = iI 0 ∧ (1 : Int) = 2 ∧ G = G ∧ ho = ho ∧ Hh = Hh) ∨ ((0 ≤ x ∧ x < (M.1.length : Int)) ∧ (0 ≤ y ∧ y ≤ 25) ∧ (iI 0) = gl M.1 x.toNat ∧ (1 : Int) = 0 ∧ RG G (mSet M x.toNat (iI y)) ∧ ho = ((pushH h M).length : Int) ∧ RH Hh (pushH h M)) from (by first | exact Or.inl ⟨by omega, rfl, rfl, rfl, rfl, rfl⟩ | exact Or.inr (Or.inl ⟨by omega, by omega, rfl, rfl, rfl, rfl, rfl⟩))) hP dX5_setLetter_13
set_option maxHeartbeats 4000000 in
set_option maxRecDepth 100000 in
theorem c_X5_undo (l : Launch) (D : va_G) (cy : Nat → ClassId) (m0 : Nat) (a0 : Nat) (p0 : Nat) (q0 : Nat) (v0 : Nat) (t0 : Nat) (ho : Int) (th : Int) (tl : Int) (G : Nat → Int32) (Hh : Nat → Int32) (M : MS) (h : List MS) (hG : RG G M) (hM : MOk M) (hH : RH Hh h) (hho : ho = (h.length : Int) ∧ h.length ≤ 6) : Ci l D cy yX5_undo wsX5_undo 1 21 [.ref m0] [(m0, .inr (5, [.ref a0, .ref p0, .int (iI ho), .ref q0, .ref v0, .int (iI th), .ref t0, .int (iI tl)])), (a0, .inl (cy 0, 144, .inl G)), (p0, .inl (cy 0, 864, .inl Hh))] (fun (r : Int32) (u : (Nat → Int32) × Int × Int) => (h.length = 0 ∧ r = iI 0 ∧ u.2.2 = 1 ∧ u.1 = G ∧ u.2.1 = ho) ∨ (¬ h.length = 0 ∧ r = iI ((h.length : Int) - 1) ∧ u.2.2 = 0 ∧ u.2.1 = (h.length : Int) - 1 ∧ ∀ M2 : MS, h[h.length - 1]? = some M2 → RG u.1 M2)) (fun u : (Nat → Int32) × Int × Int => [(m0, .inr (5, [.ref a0, .ref p0, .int (iI u.2.1), .ref q0, .ref v0, .int (iI u.2.2), .ref t0, .int (iI tl)])), (a0, .inl (cy 0, 144, .inl u.1)), (p0, .inl (cy 0, 864, .inl Hh))]) := by
  refine Ci_of (cc := cX5_undo) (maxL := 2) (ret := (some .int)) (by decide) rfl rfl ?_
  intro p e s m args below meth c A hx hb hr hts hown hlocks hml hP hK hD hT hA ls hl
  have hS : va_S A s.heap s.heap [] := va_S.rf
  have hl : lv_has ls 2 [(0, .ref m0)] := hl
  have hiX5 : ∀ w ∈ wsX50, w ∈ wsX5_undo := by decide +kernel
  refine lv_aload_n hx hb dX5_undo_0 rfl (lv_at hl 0 rfl) ?_
  refine va_get (D := D) (ci := 5) (v := .int (iI ho)) (C := RX5) (T := TX5) (N := 8) hx hb hts hiX5 hown hK hP 0 rfl rfl 2 (by decide) (hts (.fieldLink RX5 29 "BackwardSearchModel" "historyLong" "I") (by decide +kernel)) (fun _ h9 => h9) rfl dX5_undo_1 ?_
  refine z_if_ne (tgt := 13) hx hb (iI_t (by omega) (by omega)) dX5_undo_4 (by decide) (fun c1 => ?_) (fun c1 => ?_)
  · --
    refine lv_aload_n hx hb dX5_undo_13 rfl (lv_at hl 0 rfl) ?_
    refine lv_iconst (v := iI 0) hx hb dX5_undo_14 rfl ?_
    refine va_put (D := D) (ci := 5) (v := .int (iI 0)) (ty := .int) (C := RX5) (T := TX5) (N := 8) hx hb hts hiX5 tyX5 tyX5_ok nmX5 hown hK hP hD hS 0 rfl rfl 5 (by decide) (hts (.fieldLink RX5 25 "BackwardSearchModel" "thrown" "I") (by decide +kernel)) (fun _ h9 => h9) rfl (by decide +kernel) rfl rfl (Nat.le_of_ble_eq_true rfl) dX5_undo_15 (fun H locs hP hD hS => ?_)
    have hP : va_P D vwCl [(m0, .inr (5, [.ref a0, .ref p0, .int (iI ho), .ref q0, .ref v0, .int (iI 0), .ref t0, .int (iI tl)])), (a0, .inl (cy 0, 144, .inl G)), (p0, .inl (cy 0, 864, .inl Hh))] H := hP
    have hD : va_D A [(m0, .inr (5, [.ref a0, .ref p0, .int (iI ho), .ref q0, .ref v0, .int (iI 0), .ref t0, .int (iI tl)])), (a0, .inl (cy 0, 144, .inl G)), (p0, .inl (cy 0, 864, .inl Hh))] := hD
    refine lv_aload_n hx hb dX5_undo_18 rfl (lv_at hl 0 rfl) ?_
    refine lv_dup hx hb dX5_undo_19 rfl ?_
    refine va_get (D := D) (ci := 5) (v := .int (iI ho)) (C := RX5) (T := TX5) (N := 8) hx hb hts hiX5 hown hK hP 0 rfl rfl 2 (by decide) (hts (.fieldLink RX5 29 "BackwardSearchModel" "historyLong" "I") (by decide +kernel)) (fun _ h9 => h9) rfl dX5_undo_20 ?_
    refine lv_iconst (v := iI 1) hx hb dX5_undo_23 rfl ?_
    refine z_sub hx hb dX5_undo_24 ?_
    refine va_put (D := D) (ci := 5) (v := .int (iI (ho - 1))) (ty := .int) (C := RX5) (T := TX5) (N := 8) hx hb hts hiX5 tyX5 tyX5_ok nmX5 hown hK hP hD hS 0 rfl rfl 2 (by decide) (hts (.fieldLink RX5 29 "BackwardSearchModel" "historyLong" "I") (by decide +kernel)) (fun _ h9 => h9) rfl (by decide +kernel) rfl rfl (Nat.le_of_ble_eq_true rfl) dX5_undo_25 (fun H locs hP hD hS => ?_)
    have hP : va_P D vwCl [(m0, .inr (5, [.ref a0, .ref p0, .int (iI (ho - 1)), .ref q0, .ref v0, .int (iI 0), .ref t0, .int (iI tl)])), (a0, .inl (cy 0, 144, .inl G)), (p0, .inl (cy 0, 864, .inl Hh))] H := hP
    have hD : va_D A [(m0, .inr (5, [.ref a0, .ref p0, .int (iI (ho - 1)), .ref q0, .ref v0, .int (iI 0), .ref t0, .int (iI tl)])), (a0, .inl (cy 0, 144, .inl G)), (p0, .inl (cy 0, 864, .inl Hh))] := hD
    refine lv_iconst (v := iI 0) hx hb dX5_undo_28 rfl ?_
    refine lv_istore_n (lv' := [(1, .int (iI 0)), (0, .ref m0)]) hx hb dX5_undo_29 rfl hl (by decide) rfl (fun ls hl => ?_)
    have hloop2 : ∀ (n2 : Nat) (k : Int) (G2 : Nat → Int32) (hk : 0 ≤ k ∧ k ≤ 144) (ha : ∀ j : Nat, (j : Int) < k → G2 j = Hh (144 * (h.length - 1) + j)) (hm : 144 - k < (n2 : Int)) (H : Heap) (locs : List Loc) (ls : Array Slot) (hP : va_P D vwCl [(m0, .inr (5, [.ref a0, .ref p0, .int (iI (ho - 1)), .ref q0, .ref v0, .int (iI 0), .ref t0, .int (iI tl)])), (a0, .inl (cy 0, 144, .inl G2)), (p0, .inl (cy 0, 864, .inl Hh))] H) (hD : va_D A [(m0, .inr (5, [.ref a0, .ref p0, .int (iI (ho - 1)), .ref q0, .ref v0, .int (iI 0), .ref t0, .int (iI tl)])), (a0, .inl (cy 0, 144, .inl G2)), (p0, .inl (cy 0, 864, .inl Hh))]) (hS : va_S A s.heap H locs) (hl : lv_has ls 2 [(1, .int (iI k)), (0, .ref m0)]), W p l e ({ frames := 1, cells := 0, slots := 0, locals := 21 } : Room) s m args below meth c H locs 0 0 (MQ below (va_Qi (fun (r : Int32) (u : (Nat → Int32) × Int × Int) => (h.length = 0 ∧ r = iI 0 ∧ u.2.2 = 1 ∧ u.1 = G ∧ u.2.1 = ho) ∨ (¬ h.length = 0 ∧ r = iI ((h.length : Int) - 1) ∧ u.2.2 = 0 ∧ u.2.1 = (h.length : Int) - 1 ∧ ∀ M2 : MS, h[h.length - 1]? = some M2 → RG u.1 M2)) (fun u t => va_P D vwCl ((fun u : (Nat → Int32) × Int × Int => [(m0, .inr (5, [.ref a0, .ref p0, .int (iI u.2.1), .ref q0, .ref v0, .int (iI u.2.2), .ref t0, .int (iI tl)])), (a0, .inl (cy 0, 144, .inl u.1)), (p0, .inl (cy 0, 864, .inl Hh))]) u) t.heap) A) args s 0 0 A) (F0 m 30 ls []) := by
      intro n2
      induction n2 with
      | zero =>
        intro k G2 hk ha hm; exact absurd hm (by omega)
      | succ n2 ih2 =>
        intro k G2 hk ha hm H locs ls hP hD hS hl
        refine lv_iload_n hx hb dX5_undo_30 rfl (lv_at hl 0 rfl) ?_
        refine lv_sipush (v := iI 144) hx hb dX5_undo_31 (by decide +kernel) ?_
        refine z_icmp_ge (tgt := 64) hx hb (iI_t (by omega) (by omega)) (iI_t (by omega) (by omega)) dX5_undo_34 (by decide) (fun c3 => ?_) (fun c3 => ?_)
        · --
          refine lv_aload_n hx hb dX5_undo_64 rfl (lv_at hl 1 rfl) ?_
          refine va_get (D := D) (ci := 5) (v := .int (iI (ho - 1))) (C := RX5) (T := TX5) (N := 8) hx hb hts hiX5 hown hK hP 0 rfl rfl 2 (by decide) (hts (.fieldLink RX5 29 "BackwardSearchModel" "historyLong" "I") (by decide +kernel)) (fun _ h9 => h9) rfl dX5_undo_65 ?_
          exact z_iret hx hb hr hlocks hS (G2, ho - 1, 0) (show (h.length = 0 ∧ (iI (ho - 1)) = iI 0 ∧ 0 = 1 ∧ G2 = G ∧ (ho - 1) = ho) ∨ (¬ h.length = 0 ∧ (iI (ho - 1)) = iI ((h.length : Int) - 1) ∧ 0 = 0 ∧ (ho - 1) = (h.length : Int) - 1 ∧ ∀ M2 : MS, h[h.length - 1]? = some M2 → RG G2 M2) from (Or.inr ⟨by omega, congrArg iI (by omega), rfl, by omega, fun M2 hM2 => ((hH _ M2 hM2).1.congr (hH _ M2 hM2).2 (fun j hj => ha j (by omega)))⟩)) hP dX5_undo_68
        · --
          refine lv_aload_n hx hb dX5_undo_37 rfl (lv_at hl 1 rfl) ?_
          refine va_get (D := D) (ci := 5) (v := .ref a0) (C := RX5) (T := TX5) (N := 8) hx hb hts hiX5 hown hK hP 0 rfl rfl 0 (by decide) (hts (.fieldLink RX5 7 "BackwardSearchModel" "all" "[I") (by decide +kernel)) (fun _ h9 => h9) rfl dX5_undo_38 ?_
          refine lv_iload_n hx hb dX5_undo_41 rfl (lv_at hl 0 rfl) ?_
          refine lv_aload_n hx hb dX5_undo_42 rfl (lv_at hl 1 rfl) ?_
          refine va_get (D := D) (ci := 5) (v := .ref p0) (C := RX5) (T := TX5) (N := 8) hx hb hts hiX5 hown hK hP 0 rfl rfl 1 (by decide) (hts (.fieldLink RX5 13 "BackwardSearchModel" "history" "[I") (by decide +kernel)) (fun _ h9 => h9) rfl dX5_undo_43 ?_
          refine lv_sipush (v := iI 144) hx hb dX5_undo_46 (by decide +kernel) ?_
          refine lv_aload_n hx hb dX5_undo_49 rfl (lv_at hl 1 rfl) ?_
          refine va_get (D := D) (ci := 5) (v := .int (iI (ho - 1))) (C := RX5) (T := TX5) (N := 8) hx hb hts hiX5 hown hK hP 0 rfl rfl 2 (by decide) (hts (.fieldLink RX5 29 "BackwardSearchModel" "historyLong" "I") (by decide +kernel)) (fun _ h9 => h9) rfl dX5_undo_50 ?_
          refine z_mul hx hb dX5_undo_53 ?_
          refine lv_iload_n hx hb dX5_undo_54 rfl (lv_at hl 0 rfl) ?_
          refine z_add hx hb dX5_undo_55 ?_
          refine z_iald hx hb hK hP 2 rfl (by omega) (by omega) (by omega) dX5_undo_56 ?_
          refine z_top (show Hh ((144 * (ho - 1)) + k).toNat = Hh ((144 * (ho - 1)) + k).toNat from rfl) ?_
          refine z_iast hx hb hK hP hD hS 1 rfl (by omega) (by omega) (by omega) dX5_undo_57 (fun H locs hP hD hS => ?_)
          have hP : va_P D vwCl [(m0, .inr (5, [.ref a0, .ref p0, .int (iI (ho - 1)), .ref q0, .ref v0, .int (iI 0), .ref t0, .int (iI tl)])), (a0, .inl (cy 0, 144, .inl (upd G2 k.toNat (Hh ((144 * (ho - 1)) + k).toNat)))), (p0, .inl (cy 0, 864, .inl Hh))] H := hP
          have hD : va_D A [(m0, .inr (5, [.ref a0, .ref p0, .int (iI (ho - 1)), .ref q0, .ref v0, .int (iI 0), .ref t0, .int (iI tl)])), (a0, .inl (cy 0, 144, .inl (upd G2 k.toNat (Hh ((144 * (ho - 1)) + k).toNat)))), (p0, .inl (cy 0, 864, .inl Hh))] := hD
          refine z_iinc (lv' := [(1, .int (iI (k + 1))), (0, .ref m0)]) hx hb dX5_undo_58 hl (k := 0) rfl (by decide) rfl (fun ls hl => ?_)
          refine lv_goto (tgt := 30) hx hb dX5_undo_61 (by decide) ?_
          exact ih2 (k + 1) (upd G2 k.toNat (Hh ((144 * (ho - 1)) + k).toNat)) (by omega) (fun j a => by
            by_cases e : j = k.toNat
            · rw [e, upd_same]; congr 1; omega
            · rw [upd_ne _ _ e]; exact ha j (by omega)) (by omega) _ _ _ hP hD hS (lv_sub hl [0, 1] rfl)
    exact hloop2 (Int.toNat (144 - 0) + 1) 0 G (by omega) (fun j a => by omega) (by omega) _ _ _ hP hD hS (lv_sub hl [0, 1] rfl)
  · --
    refine lv_aload_n hx hb dX5_undo_7 rfl (lv_at hl 0 rfl) ?_
    refine lv_iconst (v := iI 1) hx hb dX5_undo_8 rfl ?_
    refine z_cVi (n := 1) (b := m0) (As := [.int (iI 1)]) (rest := []) ⟨hx, hb, hml, hown, hts⟩ (c_X5_fails l D cy m0 a0 p0 q0 v0 t0 ho th tl (1 : Int) ) gX5_undo_X5_fails rfl (by decide +kernel) ⟨Nat.le_of_ble_eq_true rfl, Nat.le_of_ble_eq_true rfl⟩ hK hT hP hD hS hA [0] rfl rfl 0 5 rfl rfl rfl (fun _ => rfl) rfl hl.1 rfl (Nat.le_of_ble_eq_true rfl) dX5_undo_9 ⟨Nat.zero_le _, Nat.zero_le _⟩ (fun r_4 u_4 H locs hw_4 hP hD hS => ?_)
    have hw_4 : r_4 = iI 0 := hw_4
    have hP : va_P D vwCl [(m0, .inr (5, [.ref a0, .ref p0, .int (iI ho), .ref q0, .ref v0, .int (iI (1 : Int)), .ref t0, .int (iI tl)])), (a0, .inl (cy 0, 144, .inl G)), (p0, .inl (cy 0, 864, .inl Hh))] H := hP
    have hD : va_D A [(m0, .inr (5, [.ref a0, .ref p0, .int (iI ho), .ref q0, .ref v0, .int (iI (1 : Int)), .ref t0, .int (iI tl)])), (a0, .inl (cy 0, 144, .inl G)), (p0, .inl (cy 0, 864, .inl Hh))] := hD
    obtain rfl := hw_4
    exact z_iret hx hb hr hlocks hS (G, ho, (1 : Int)) (show (h.length = 0 ∧ (iI 0) = iI 0 ∧ (1 : Int) = 1 ∧ G = G ∧ ho = ho) ∨ (¬ h.length = 0 ∧ (iI 0) = iI ((h.length : Int) - 1) ∧ (1 : Int) = 0 ∧ ho = (h.length : Int) - 1 ∧ ∀ M2 : MS, h[h.length - 1]? = some M2 → RG G M2) from (Or.inl ⟨by omega, rfl, rfl, rfl, rfl⟩)) hP dX5_undo_12
set_option maxHeartbeats 4000000 in
set_option maxRecDepth 100000 in
theorem c_X5_saveState (l : Launch) (D : va_G) (cy : Nat → ClassId) (m0 : Nat) (a0 : Nat) (p0 : Nat) (q0 : Nat) (v0 : Nat) (t0 : Nat) (ho : Int) (th : Int) (tl : Int) (G : Nat → Int32) (Sl : Nat → Int32) (Sv : Nat → Int32) (M : MS) (sl : Nat → Option MS) (x : Int) (hG : RG G M) (hM : MOk M) (hS1 : RSl Sl Sv sl) (hx1 : -2147483648 ≤ x ∧ x < 2147483648) : Ci l D cy yX5_saveState wsX5_saveState 1 21 [.ref m0, .int (iI x)] [(m0, .inr (5, [.ref a0, .ref p0, .int (iI ho), .ref q0, .ref v0, .int (iI th), .ref t0, .int (iI tl)])), (a0, .inl (cy 0, 144, .inl G)), (q0, .inl (cy 0, 288, .inl Sl)), (v0, .inl (cy 0, 2, .inl Sv))] (fun (r : Int32) (u : (Nat → Int32) × (Nat → Int32) × Int) => (¬ (x = 0 ∨ x = 1) ∧ r = iI 0 ∧ u.2.2 = 1 ∧ u.1 = Sl ∧ u.2.1 = Sv) ∨ ((x = 0 ∨ x = 1) ∧ r = iI (M.1.length : Int) ∧ u.2.2 = 0 ∧ RSl u.1 u.2.1 (fun j => if j = x.toNat then some M else sl j))) (fun u : (Nat → Int32) × (Nat → Int32) × Int => [(m0, .inr (5, [.ref a0, .ref p0, .int (iI ho), .ref q0, .ref v0, .int (iI u.2.2), .ref t0, .int (iI tl)])), (a0, .inl (cy 0, 144, .inl G)), (q0, .inl (cy 0, 288, .inl u.1)), (v0, .inl (cy 0, 2, .inl u.2.1))]) := by
  refine Ci_of (cc := cX5_saveState) (maxL := 3) (ret := (some .int)) (by decide) rfl rfl ?_
  intro p e s m args below meth c A hx hb hr hts hown hlocks hml hP hK hD hT hA ls hl
  have hS : va_S A s.heap s.heap [] := va_S.rf
  have hl : lv_has ls 3 [(0, .ref m0), (1, .int (iI x))] := hl
  have hiX5 : ∀ w ∈ wsX50, w ∈ wsX5_saveState := by decide +kernel
  obtain ⟨h0, h1L, h61, h62W, h78, h79, h80, h81, h82, h83, h84F⟩ := id hG
  obtain ⟨o1, o2, o3, o4, o5, o6, o7, o8, o9, o10, o11, o12, o13, o14, o15⟩ := id hM
  refine lv_iload_n hx hb dX5_saveState_0 rfl (lv_at hl 1 rfl) ?_
  refine z_cSi (n := 1) (As := [.int (iI x)]) (rest := []) ⟨hx, hb, hml, hown, hts⟩ (c_X5_isSlot l D cy x (by first | assumption | omega)) gX5_saveState_X5_isSlot rfl (by decide +kernel) ⟨Nat.le_of_ble_eq_true rfl, Nat.le_of_ble_eq_true rfl⟩ hK hT hP hD hS hA [] rfl rfl (fun _ => rfl) rfl hl.1 rfl (Nat.le_of_ble_eq_true rfl) dX5_saveState_1 ⟨Nat.zero_le _, Nat.zero_le _⟩ (fun r_1 u_1 H locs hw_1 hP hD hS => ?_)
  have hw_1 : ((x = 0 ∨ x = 1) ∧ r_1 = iI 1) ∨ (¬ (x = 0 ∨ x = 1) ∧ r_1 = iI 0) := hw_1
  have hP : va_P D vwCl [(m0, .inr (5, [.ref a0, .ref p0, .int (iI ho), .ref q0, .ref v0, .int (iI th), .ref t0, .int (iI tl)])), (a0, .inl (cy 0, 144, .inl G)), (q0, .inl (cy 0, 288, .inl Sl)), (v0, .inl (cy 0, 2, .inl Sv))] H := hP
  have hD : va_D A [(m0, .inr (5, [.ref a0, .ref p0, .int (iI ho), .ref q0, .ref v0, .int (iI th), .ref t0, .int (iI tl)])), (a0, .inl (cy 0, 144, .inl G)), (q0, .inl (cy 0, 288, .inl Sl)), (v0, .inl (cy 0, 2, .inl Sv))] := hD
  rcases hw_1 with ⟨h_1, rfl⟩ | ⟨h_1, rfl⟩
  · --
    refine z_if_ne (tgt := 13) hx hb (iI_t (by omega) (by omega)) dX5_saveState_4 (by decide) (fun _ => ?_) (fun c2 => absurd c2 (by omega))
    refine lv_iconst (v := iI 0) hx hb dX5_saveState_13 rfl ?_
    refine lv_istore_n (lv' := [(2, .int (iI 0)), (0, .ref m0), (1, .int (iI x))]) hx hb dX5_saveState_14 rfl hl (by decide) rfl (fun ls hl => ?_)
    have hloop3 : ∀ (n3 : Nat) (k : Int) (S2 : Nat → Int32) (hk : 0 ≤ k ∧ k ≤ 144) (ha : ∀ j : Nat, (j : Int) < k → S2 (144 * x.toNat + j) = G j) (hz : ∀ j : Nat, ((j : Int) < 144 * x ∨ 144 * x + 144 ≤ j) → S2 j = Sl j) (hm : 144 - k < (n3 : Int)) (H : Heap) (locs : List Loc) (ls : Array Slot) (hP : va_P D vwCl [(m0, .inr (5, [.ref a0, .ref p0, .int (iI ho), .ref q0, .ref v0, .int (iI th), .ref t0, .int (iI tl)])), (a0, .inl (cy 0, 144, .inl G)), (q0, .inl (cy 0, 288, .inl S2)), (v0, .inl (cy 0, 2, .inl Sv))] H) (hD : va_D A [(m0, .inr (5, [.ref a0, .ref p0, .int (iI ho), .ref q0, .ref v0, .int (iI th), .ref t0, .int (iI tl)])), (a0, .inl (cy 0, 144, .inl G)), (q0, .inl (cy 0, 288, .inl S2)), (v0, .inl (cy 0, 2, .inl Sv))]) (hS : va_S A s.heap H locs) (hl : lv_has ls 3 [(2, .int (iI k)), (0, .ref m0), (1, .int (iI x))]), W p l e ({ frames := 1, cells := 0, slots := 0, locals := 21 } : Room) s m args below meth c H locs 0 0 (MQ below (va_Qi (fun (r : Int32) (u : (Nat → Int32) × (Nat → Int32) × Int) => (¬ (x = 0 ∨ x = 1) ∧ r = iI 0 ∧ u.2.2 = 1 ∧ u.1 = Sl ∧ u.2.1 = Sv) ∨ ((x = 0 ∨ x = 1) ∧ r = iI (M.1.length : Int) ∧ u.2.2 = 0 ∧ RSl u.1 u.2.1 (fun j => if j = x.toNat then some M else sl j))) (fun u t => va_P D vwCl ((fun u : (Nat → Int32) × (Nat → Int32) × Int => [(m0, .inr (5, [.ref a0, .ref p0, .int (iI ho), .ref q0, .ref v0, .int (iI u.2.2), .ref t0, .int (iI tl)])), (a0, .inl (cy 0, 144, .inl G)), (q0, .inl (cy 0, 288, .inl u.1)), (v0, .inl (cy 0, 2, .inl u.2.1))]) u) t.heap) A) args s 0 0 A) (F0 m 15 ls []) := by
      intro n3
      induction n3 with
      | zero =>
        intro k S2 hk ha hz hm; exact absurd hm (by omega)
      | succ n3 ih3 =>
        intro k S2 hk ha hz hm H locs ls hP hD hS hl
        refine lv_iload_n hx hb dX5_saveState_15 rfl (lv_at hl 0 rfl) ?_
        refine lv_sipush (v := iI 144) hx hb dX5_saveState_16 (by decide +kernel) ?_
        refine z_icmp_ge (tgt := 46) hx hb (iI_t (by omega) (by omega)) (iI_t (by omega) (by omega)) dX5_saveState_19 (by decide) (fun c4 => ?_) (fun c4 => ?_)
        · --
          refine lv_aload_n hx hb dX5_saveState_46 rfl (lv_at hl 1 rfl) ?_
          refine va_get (D := D) (ci := 5) (v := .ref v0) (C := RX5) (T := TX5) (N := 8) hx hb hts hiX5 hown hK hP 0 rfl rfl 4 (by decide) (hts (.fieldLink RX5 19 "BackwardSearchModel" "isSaved" "[I") (by decide +kernel)) (fun _ h9 => h9) rfl dX5_saveState_47 ?_
          refine lv_iload_n hx hb dX5_saveState_50 rfl (lv_at hl 2 rfl) ?_
          refine lv_iconst (v := iI 1) hx hb dX5_saveState_51 rfl ?_
          refine z_iast hx hb hK hP hD hS 3 rfl (by omega) (by omega) (by omega) dX5_saveState_52 (fun H locs hP hD hS => ?_)
          have hP : va_P D vwCl [(m0, .inr (5, [.ref a0, .ref p0, .int (iI ho), .ref q0, .ref v0, .int (iI th), .ref t0, .int (iI tl)])), (a0, .inl (cy 0, 144, .inl G)), (q0, .inl (cy 0, 288, .inl S2)), (v0, .inl (cy 0, 2, .inl (upd Sv x.toNat (iI 1))))] H := hP
          have hD : va_D A [(m0, .inr (5, [.ref a0, .ref p0, .int (iI ho), .ref q0, .ref v0, .int (iI th), .ref t0, .int (iI tl)])), (a0, .inl (cy 0, 144, .inl G)), (q0, .inl (cy 0, 288, .inl S2)), (v0, .inl (cy 0, 2, .inl (upd Sv x.toNat (iI 1))))] := hD
          refine lv_aload_n hx hb dX5_saveState_53 rfl (lv_at hl 1 rfl) ?_
          refine lv_aload_n hx hb dX5_saveState_54 rfl (lv_at hl 1 rfl) ?_
          refine va_get (D := D) (ci := 5) (v := .ref a0) (C := RX5) (T := TX5) (N := 8) hx hb hts hiX5 hown hK hP 0 rfl rfl 0 (by decide) (hts (.fieldLink RX5 7 "BackwardSearchModel" "all" "[I") (by decide +kernel)) (fun _ h9 => h9) rfl dX5_saveState_55 ?_
          refine lv_iconst (v := iI 0) hx hb dX5_saveState_58 rfl ?_
          refine z_iald hx hb hK hP 1 rfl (by omega) (by omega) (by omega) dX5_saveState_59 ?_
          refine z_top (show G (0 : Int).toNat = iI (M.1.length : Int) from by exact h0) ?_
          refine z_cVi (n := 1) (b := m0) (As := [.int (iI (M.1.length : Int))]) (rest := []) ⟨hx, hb, hml, hown, hts⟩ (c_X5_told l D cy m0 a0 p0 q0 v0 t0 ho th tl (iI (M.1.length : Int)) ) gX5_saveState_X5_told rfl (by decide +kernel) ⟨Nat.le_of_ble_eq_true rfl, Nat.le_of_ble_eq_true rfl⟩ hK hT hP hD hS hA [0] rfl rfl 0 5 rfl rfl rfl (fun _ => rfl) rfl hl.1 rfl (Nat.le_of_ble_eq_true rfl) dX5_saveState_60 ⟨Nat.zero_le _, Nat.zero_le _⟩ (fun r_5 u_5 H locs hw_5 hP hD hS => ?_)
          have hw_5 : r_5 = (iI (M.1.length : Int)) := hw_5
          have hP : va_P D vwCl [(m0, .inr (5, [.ref a0, .ref p0, .int (iI ho), .ref q0, .ref v0, .int (iI 0), .ref t0, .int (iI tl)])), (a0, .inl (cy 0, 144, .inl G)), (q0, .inl (cy 0, 288, .inl S2)), (v0, .inl (cy 0, 2, .inl (upd Sv x.toNat (iI 1))))] H := hP
          have hD : va_D A [(m0, .inr (5, [.ref a0, .ref p0, .int (iI ho), .ref q0, .ref v0, .int (iI 0), .ref t0, .int (iI tl)])), (a0, .inl (cy 0, 144, .inl G)), (q0, .inl (cy 0, 288, .inl S2)), (v0, .inl (cy 0, 2, .inl (upd Sv x.toNat (iI 1))))] := hD
          obtain rfl := hw_5
          exact z_iret hx hb hr hlocks hS (S2, upd Sv x.toNat (iI 1), 0) (show (¬ (x = 0 ∨ x = 1) ∧ (iI (M.1.length : Int)) = iI 0 ∧ 0 = 1 ∧ S2 = Sl ∧ (upd Sv x.toNat (iI 1)) = Sv) ∨ ((x = 0 ∨ x = 1) ∧ (iI (M.1.length : Int)) = iI (M.1.length : Int) ∧ 0 = 0 ∧ RSl S2 (upd Sv x.toNat (iI 1)) (fun j => if j = x.toNat then some M else sl j)) from (Or.inr ⟨by omega, rfl, rfl, RSl_save hG hM hS1 (by omega) (fun j hj => ha j (by omega)) (fun j hj => hz j hj)⟩)) hP dX5_saveState_63
        · --
          refine lv_aload_n hx hb dX5_saveState_22 rfl (lv_at hl 1 rfl) ?_
          refine va_get (D := D) (ci := 5) (v := .ref q0) (C := RX5) (T := TX5) (N := 8) hx hb hts hiX5 hown hK hP 0 rfl rfl 3 (by decide) (hts (.fieldLink RX5 16 "BackwardSearchModel" "slots" "[I") (by decide +kernel)) (fun _ h9 => h9) rfl dX5_saveState_23 ?_
          refine lv_sipush (v := iI 144) hx hb dX5_saveState_26 (by decide +kernel) ?_
          refine lv_iload_n hx hb dX5_saveState_29 rfl (lv_at hl 2 rfl) ?_
          refine z_mul hx hb dX5_saveState_30 ?_
          refine lv_iload_n hx hb dX5_saveState_31 rfl (lv_at hl 0 rfl) ?_
          refine z_add hx hb dX5_saveState_32 ?_
          refine lv_aload_n hx hb dX5_saveState_33 rfl (lv_at hl 1 rfl) ?_
          refine va_get (D := D) (ci := 5) (v := .ref a0) (C := RX5) (T := TX5) (N := 8) hx hb hts hiX5 hown hK hP 0 rfl rfl 0 (by decide) (hts (.fieldLink RX5 7 "BackwardSearchModel" "all" "[I") (by decide +kernel)) (fun _ h9 => h9) rfl dX5_saveState_34 ?_
          refine lv_iload_n hx hb dX5_saveState_37 rfl (lv_at hl 0 rfl) ?_
          refine z_iald hx hb hK hP 1 rfl (by omega) (by omega) (by omega) dX5_saveState_38 ?_
          refine z_top (show G k.toNat = G k.toNat from rfl) ?_
          refine z_iast hx hb hK hP hD hS 2 rfl (by omega) (by omega) (by omega) dX5_saveState_39 (fun H locs hP hD hS => ?_)
          have hP : va_P D vwCl [(m0, .inr (5, [.ref a0, .ref p0, .int (iI ho), .ref q0, .ref v0, .int (iI th), .ref t0, .int (iI tl)])), (a0, .inl (cy 0, 144, .inl G)), (q0, .inl (cy 0, 288, .inl (upd S2 (((144 * x) + k).toNat) (G k.toNat)))), (v0, .inl (cy 0, 2, .inl Sv))] H := hP
          have hD : va_D A [(m0, .inr (5, [.ref a0, .ref p0, .int (iI ho), .ref q0, .ref v0, .int (iI th), .ref t0, .int (iI tl)])), (a0, .inl (cy 0, 144, .inl G)), (q0, .inl (cy 0, 288, .inl (upd S2 (((144 * x) + k).toNat) (G k.toNat)))), (v0, .inl (cy 0, 2, .inl Sv))] := hD
          refine z_iinc (lv' := [(2, .int (iI (k + 1))), (0, .ref m0), (1, .int (iI x))]) hx hb dX5_saveState_40 hl (k := 0) rfl (by decide) rfl (fun ls hl => ?_)
          refine lv_goto (tgt := 15) hx hb dX5_saveState_43 (by decide) ?_
          exact ih3 (k + 1) (upd S2 (((144 * x) + k).toNat) (G k.toNat)) (by omega) (fun j a => by
            by_cases e : 144 * x.toNat + j = (144 * x + k).toNat
            · rw [e, upd_same]; congr 1; omega
            · rw [upd_ne _ _ e]; exact ha j (by omega)) (fun j a => by rw [upd_ne _ _ (by omega)]; exact hz j a) (by omega) _ _ _ hP hD hS (lv_sub hl [0, 1, 2] rfl)
    exact hloop3 (Int.toNat (144 - 0) + 1) 0 Sl (by omega) (fun j a => by omega) (fun j a => rfl) (by omega) _ _ _ hP hD hS (lv_sub hl [0, 1, 2] rfl)
  · --
    refine z_if_ne (tgt := 13) hx hb (iI_t (by omega) (by omega)) dX5_saveState_4 (by decide) (fun c6 => absurd c6 (by omega)) (fun _ => ?_)
    refine lv_aload_n hx hb dX5_saveState_7 rfl (lv_at hl 0 rfl) ?_
    refine lv_iconst (v := iI 1) hx hb dX5_saveState_8 rfl ?_
    refine z_cVi (n := 1) (b := m0) (As := [.int (iI 1)]) (rest := []) ⟨hx, hb, hml, hown, hts⟩ (c_X5_fails l D cy m0 a0 p0 q0 v0 t0 ho th tl (1 : Int) ) gX5_saveState_X5_fails rfl (by decide +kernel) ⟨Nat.le_of_ble_eq_true rfl, Nat.le_of_ble_eq_true rfl⟩ hK hT hP hD hS hA [0] rfl rfl 0 5 rfl rfl rfl (fun _ => rfl) rfl hl.1 rfl (Nat.le_of_ble_eq_true rfl) dX5_saveState_9 ⟨Nat.zero_le _, Nat.zero_le _⟩ (fun r_7 u_7 H locs hw_7 hP hD hS => ?_)
    have hw_7 : r_7 = iI 0 := hw_7
    have hP : va_P D vwCl [(m0, .inr (5, [.ref a0, .ref p0, .int (iI ho), .ref q0, .ref v0, .int (iI (1 : Int)), .ref t0, .int (iI tl)])), (a0, .inl (cy 0, 144, .inl G)), (q0, .inl (cy 0, 288, .inl Sl)), (v0, .inl (cy 0, 2, .inl Sv))] H := hP
    have hD : va_D A [(m0, .inr (5, [.ref a0, .ref p0, .int (iI ho), .ref q0, .ref v0, .int (iI (1 : Int)), .ref t0, .int (iI tl)])), (a0, .inl (cy 0, 144, .inl G)), (q0, .inl (cy 0, 288, .inl Sl)), (v0, .inl (cy 0, 2, .inl Sv))] := hD
    obtain rfl := hw_7
    exact z_iret hx hb hr hlocks hS (Sl, Sv, (1 : Int)) (show (¬ (x = 0 ∨ x = 1) ∧ (iI 0) = iI 0 ∧ (1 : Int) = 1 ∧ Sl = Sl ∧ Sv = Sv) ∨ ((x = 0 ∨ x = 1) ∧ (iI 0) = iI (M.1.length : Int) ∧ (1 : Int) = 0 ∧ RSl Sl Sv (fun j => if j = x.toNat then some M else sl j)) from (Or.inl ⟨by omega, rfl, rfl, rfl, rfl⟩)) hP dX5_saveState_12
set_option maxHeartbeats 4000000 in
set_option maxRecDepth 100000 in
theorem c_X5_loadState (l : Launch) (D : va_G) (cy : Nat → ClassId) (m0 : Nat) (a0 : Nat) (p0 : Nat) (q0 : Nat) (v0 : Nat) (t0 : Nat) (ho : Int) (th : Int) (tl : Int) (G : Nat → Int32) (Hh : Nat → Int32) (Sl : Nat → Int32) (Sv : Nat → Int32) (M : MS) (h : List MS) (sl : Nat → Option MS) (x : Int) (hG : RG G M) (hM : MOk M) (hH : RH Hh h) (hho : ho = (h.length : Int) ∧ h.length ≤ 6) (hS1 : RSl Sl Sv sl) (hx1 : -2147483648 ≤ x ∧ x < 2147483648) : Ci l D cy yX5_loadState wsX5_loadState 1 21 [.ref m0, .int (iI x)] [(m0, .inr (5, [.ref a0, .ref p0, .int (iI ho), .ref q0, .ref v0, .int (iI th), .ref t0, .int (iI tl)])), (a0, .inl (cy 0, 144, .inl G)), (p0, .inl (cy 0, 864, .inl Hh)), (q0, .inl (cy 0, 288, .inl Sl)), (v0, .inl (cy 0, 2, .inl Sv))] (fun (r : Int32) (u : (Nat → Int32) × Int × (Nat → Int32) × Int) => (¬ (x = 0 ∨ x = 1) ∧ r = iI 0 ∧ u.2.2.2 = 1 ∧ u.1 = G ∧ u.2.1 = ho ∧ u.2.2.1 = Hh) ∨ ((x = 0 ∨ x = 1) ∧ sl x.toNat = none ∧ r = iI 0 ∧ u.2.2.2 = 2 ∧ u.1 = G ∧ u.2.1 = ho ∧ u.2.2.1 = Hh) ∨ ((x = 0 ∨ x = 1) ∧ ∃ M2 : MS, sl x.toNat = some M2 ∧ r = iI (M2.1.length : Int) ∧ u.2.2.2 = 0 ∧ RG u.1 M2 ∧ u.2.1 = ((pushH h M).length : Int) ∧ RH u.2.2.1 (pushH h M))) (fun u : (Nat → Int32) × Int × (Nat → Int32) × Int => [(m0, .inr (5, [.ref a0, .ref p0, .int (iI u.2.1), .ref q0, .ref v0, .int (iI u.2.2.2), .ref t0, .int (iI tl)])), (a0, .inl (cy 0, 144, .inl u.1)), (p0, .inl (cy 0, 864, .inl u.2.2.1)), (q0, .inl (cy 0, 288, .inl Sl)), (v0, .inl (cy 0, 2, .inl Sv))]) := by
  refine Ci_of (cc := cX5_loadState) (maxL := 3) (ret := (some .int)) (by decide) rfl rfl ?_
  intro p e s m args below meth c A hx hb hr hts hown hlocks hml hP hK hD hT hA ls hl
  have hS : va_S A s.heap s.heap [] := va_S.rf
  have hl : lv_has ls 3 [(0, .ref m0), (1, .int (iI x))] := hl
  have hiX5 : ∀ w ∈ wsX50, w ∈ wsX5_loadState := by decide +kernel
  refine lv_iload_n hx hb dX5_loadState_0 rfl (lv_at hl 1 rfl) ?_
  refine z_cSi (n := 1) (As := [.int (iI x)]) (rest := []) ⟨hx, hb, hml, hown, hts⟩ (c_X5_isSlot l D cy x (by first | assumption | omega)) gX5_loadState_X5_isSlot rfl (by decide +kernel) ⟨Nat.le_of_ble_eq_true rfl, Nat.le_of_ble_eq_true rfl⟩ hK hT hP hD hS hA [] rfl rfl (fun _ => rfl) rfl hl.1 rfl (Nat.le_of_ble_eq_true rfl) dX5_loadState_1 ⟨Nat.zero_le _, Nat.zero_le _⟩ (fun r_1 u_1 H locs hw_1 hP hD hS => ?_)
  have hw_1 : ((x = 0 ∨ x = 1) ∧ r_1 = iI 1) ∨ (¬ (x = 0 ∨ x = 1) ∧ r_1 = iI 0) := hw_1
  have hP : va_P D vwCl [(m0, .inr (5, [.ref a0, .ref p0, .int (iI ho), .ref q0, .ref v0, .int (iI th), .ref t0, .int (iI tl)])), (a0, .inl (cy 0, 144, .inl G)), (p0, .inl (cy 0, 864, .inl Hh)), (q0, .inl (cy 0, 288, .inl Sl)), (v0, .inl (cy 0, 2, .inl Sv))] H := hP
  have hD : va_D A [(m0, .inr (5, [.ref a0, .ref p0, .int (iI ho), .ref q0, .ref v0, .int (iI th), .ref t0, .int (iI tl)])), (a0, .inl (cy 0, 144, .inl G)), (p0, .inl (cy 0, 864, .inl Hh)), (q0, .inl (cy 0, 288, .inl Sl)), (v0, .inl (cy 0, 2, .inl Sv))] := hD
  rcases hw_1 with ⟨h_1, rfl⟩ | ⟨h_1, rfl⟩
  · --
    refine z_if_ne (tgt := 13) hx hb (iI_t (by omega) (by omega)) dX5_loadState_4 (by decide) (fun _ => ?_) (fun c2 => absurd c2 (by omega))
    refine lv_aload_n hx hb dX5_loadState_13 rfl (lv_at hl 0 rfl) ?_
    refine va_get (D := D) (ci := 5) (v := .ref v0) (C := RX5) (T := TX5) (N := 8) hx hb hts hiX5 hown hK hP 0 rfl rfl 4 (by decide) (hts (.fieldLink RX5 19 "BackwardSearchModel" "isSaved" "[I") (by decide +kernel)) (fun _ h9 => h9) rfl dX5_loadState_14 ?_
    refine lv_iload_n hx hb dX5_loadState_17 rfl (lv_at hl 1 rfl) ?_
    refine z_iald hx hb hK hP 4 rfl (by omega) (by omega) (by omega) dX5_loadState_18 ?_
    refine z_top (show Sv x.toNat = Sv x.toNat from rfl) ?_
    refine z_if_ne (tgt := 28) hx hb rfl dX5_loadState_19 (by decide) (fun c3 => ?_) (fun c3 => ?_)
    · --
      refine lv_aload_n hx hb dX5_loadState_28 rfl (lv_at hl 0 rfl) ?_
      refine z_cVv (n := 0) (b := m0) (As := []) (rest := []) ⟨hx, hb, hml, hown, hts⟩ (c_X5_changes l D cy m0 a0 p0 q0 v0 t0 ho th tl G Hh M h (by first | assumption | omega) (by first | assumption | omega) (by first | assumption | omega) (by first | assumption | omega)) gX5_loadState_X5_changes rfl (by decide +kernel) ⟨Nat.le_of_ble_eq_true rfl, Nat.le_of_ble_eq_true rfl⟩ hK hT hP hD hS hA [0, 1, 2] rfl rfl 0 5 rfl rfl rfl (fun _ => rfl) rfl hl.1 rfl (Nat.le_of_ble_eq_true rfl) dX5_loadState_29 ⟨Nat.zero_le _, Nat.zero_le _⟩ (fun  u_4 H locs hw_4 hP hD hS => ?_)
      obtain ⟨ho1_4, H1_4⟩ := u_4
      have hw_4 : ho1_4 = ((pushH h M).length : Int) ∧ RH H1_4 (pushH h M) := hw_4
      have hP : va_P D vwCl [(m0, .inr (5, [.ref a0, .ref p0, .int (iI ho1_4), .ref q0, .ref v0, .int (iI 0), .ref t0, .int (iI tl)])), (a0, .inl (cy 0, 144, .inl G)), (p0, .inl (cy 0, 864, .inl H1_4)), (q0, .inl (cy 0, 288, .inl Sl)), (v0, .inl (cy 0, 2, .inl Sv))] H := hP
      have hD : va_D A [(m0, .inr (5, [.ref a0, .ref p0, .int (iI ho1_4), .ref q0, .ref v0, .int (iI 0), .ref t0, .int (iI tl)])), (a0, .inl (cy 0, 144, .inl G)), (p0, .inl (cy 0, 864, .inl H1_4)), (q0, .inl (cy 0, 288, .inl Sl)), (v0, .inl (cy 0, 2, .inl Sv))] := hD
      refine lv_iconst (v := iI 0) hx hb dX5_loadState_32 rfl ?_
      refine lv_istore_n (lv' := [(2, .int (iI 0)), (0, .ref m0), (1, .int (iI x))]) hx hb dX5_loadState_33 rfl hl (by decide) rfl (fun ls hl => ?_)
      have hloop5 : ∀ (n5 : Nat) (k : Int) (G2 : Nat → Int32) (hk : 0 ≤ k ∧ k ≤ 144) (ha : ∀ j : Nat, (j : Int) < k → G2 j = Sl (144 * x.toNat + j)) (hm : 144 - k < (n5 : Int)) (H : Heap) (locs : List Loc) (ls : Array Slot) (hP : va_P D vwCl [(m0, .inr (5, [.ref a0, .ref p0, .int (iI ho1_4), .ref q0, .ref v0, .int (iI 0), .ref t0, .int (iI tl)])), (a0, .inl (cy 0, 144, .inl G2)), (p0, .inl (cy 0, 864, .inl H1_4)), (q0, .inl (cy 0, 288, .inl Sl)), (v0, .inl (cy 0, 2, .inl Sv))] H) (hD : va_D A [(m0, .inr (5, [.ref a0, .ref p0, .int (iI ho1_4), .ref q0, .ref v0, .int (iI 0), .ref t0, .int (iI tl)])), (a0, .inl (cy 0, 144, .inl G2)), (p0, .inl (cy 0, 864, .inl H1_4)), (q0, .inl (cy 0, 288, .inl Sl)), (v0, .inl (cy 0, 2, .inl Sv))]) (hS : va_S A s.heap H locs) (hl : lv_has ls 3 [(2, .int (iI k)), (0, .ref m0), (1, .int (iI x))]), W p l e ({ frames := 1, cells := 0, slots := 0, locals := 21 } : Room) s m args below meth c H locs 0 0 (MQ below (va_Qi (fun (r : Int32) (u : (Nat → Int32) × Int × (Nat → Int32) × Int) => (¬ (x = 0 ∨ x = 1) ∧ r = iI 0 ∧ u.2.2.2 = 1 ∧ u.1 = G ∧ u.2.1 = ho ∧ u.2.2.1 = Hh) ∨ ((x = 0 ∨ x = 1) ∧ sl x.toNat = none ∧ r = iI 0 ∧ u.2.2.2 = 2 ∧ u.1 = G ∧ u.2.1 = ho ∧ u.2.2.1 = Hh) ∨ ((x = 0 ∨ x = 1) ∧ ∃ M2 : MS, sl x.toNat = some M2 ∧ r = iI (M2.1.length : Int) ∧ u.2.2.2 = 0 ∧ RG u.1 M2 ∧ u.2.1 = ((pushH h M).length : Int) ∧ RH u.2.2.1 (pushH h M))) (fun u t => va_P D vwCl ((fun u : (Nat → Int32) × Int × (Nat → Int32) × Int => [(m0, .inr (5, [.ref a0, .ref p0, .int (iI u.2.1), .ref q0, .ref v0, .int (iI u.2.2.2), .ref t0, .int (iI tl)])), (a0, .inl (cy 0, 144, .inl u.1)), (p0, .inl (cy 0, 864, .inl u.2.2.1)), (q0, .inl (cy 0, 288, .inl Sl)), (v0, .inl (cy 0, 2, .inl Sv))]) u) t.heap) A) args s 0 0 A) (F0 m 34 ls []) := by
        intro n5
        induction n5 with
        | zero =>
          intro k G2 hk ha hm; exact absurd hm (by omega)
        | succ n5 ih5 =>
          intro k G2 hk ha hm H locs ls hP hD hS hl
          refine lv_iload_n hx hb dX5_loadState_34 rfl (lv_at hl 0 rfl) ?_
          refine lv_sipush (v := iI 144) hx hb dX5_loadState_35 (by decide +kernel) ?_
          refine z_icmp_ge (tgt := 65) hx hb (iI_t (by omega) (by omega)) (iI_t (by omega) (by omega)) dX5_loadState_38 (by decide) (fun c6 => ?_) (fun c6 => ?_)
          · --
            refine lv_aload_n hx hb dX5_loadState_65 rfl (lv_at hl 1 rfl) ?_
            refine va_get (D := D) (ci := 5) (v := .ref a0) (C := RX5) (T := TX5) (N := 8) hx hb hts hiX5 hown hK hP 0 rfl rfl 0 (by decide) (hts (.fieldLink RX5 7 "BackwardSearchModel" "all" "[I") (by decide +kernel)) (fun _ h9 => h9) rfl dX5_loadState_66 ?_
            refine lv_iconst (v := iI 0) hx hb dX5_loadState_69 rfl ?_
            refine z_iald hx hb hK hP 1 rfl (by omega) (by omega) (by omega) dX5_loadState_70 ?_
            refine z_top (show G2 (0 : Int).toNat = G2 (0 : Int).toNat from rfl) ?_
            exact z_iret hx hb hr hlocks hS (G2, ho1_4, H1_4, 0) (show (¬ (x = 0 ∨ x = 1) ∧ (G2 (0 : Int).toNat) = iI 0 ∧ 0 = 1 ∧ G2 = G ∧ ho1_4 = ho ∧ H1_4 = Hh) ∨ ((x = 0 ∨ x = 1) ∧ sl x.toNat = none ∧ (G2 (0 : Int).toNat) = iI 0 ∧ 0 = 2 ∧ G2 = G ∧ ho1_4 = ho ∧ H1_4 = Hh) ∨ ((x = 0 ∨ x = 1) ∧ ∃ M2 : MS, sl x.toNat = some M2 ∧ (G2 (0 : Int).toNat) = iI (M2.1.length : Int) ∧ 0 = 0 ∧ RG G2 M2 ∧ ho1_4 = ((pushH h M).length : Int) ∧ RH H1_4 (pushH h M)) from (by
                  obtain ⟨M2, e1, e2, e3⟩ := RSl_some (x := x) hS1 (by omega) (by assumption)
                  have hG2 := e2.congr e3 (G2 := G2) (fun j hj => ha j (by omega))
                  exact Or.inr (Or.inr ⟨by omega, M2, e1, hG2.1, rfl, hG2, hw_4⟩))) hP dX5_loadState_71
          · --
            refine lv_aload_n hx hb dX5_loadState_41 rfl (lv_at hl 1 rfl) ?_
            refine va_get (D := D) (ci := 5) (v := .ref a0) (C := RX5) (T := TX5) (N := 8) hx hb hts hiX5 hown hK hP 0 rfl rfl 0 (by decide) (hts (.fieldLink RX5 7 "BackwardSearchModel" "all" "[I") (by decide +kernel)) (fun _ h9 => h9) rfl dX5_loadState_42 ?_
            refine lv_iload_n hx hb dX5_loadState_45 rfl (lv_at hl 0 rfl) ?_
            refine lv_aload_n hx hb dX5_loadState_46 rfl (lv_at hl 1 rfl) ?_
            refine va_get (D := D) (ci := 5) (v := .ref q0) (C := RX5) (T := TX5) (N := 8) hx hb hts hiX5 hown hK hP 0 rfl rfl 3 (by decide) (hts (.fieldLink RX5 16 "BackwardSearchModel" "slots" "[I") (by decide +kernel)) (fun _ h9 => h9) rfl dX5_loadState_47 ?_
            refine lv_sipush (v := iI 144) hx hb dX5_loadState_50 (by decide +kernel) ?_
            refine lv_iload_n hx hb dX5_loadState_53 rfl (lv_at hl 2 rfl) ?_
            refine z_mul hx hb dX5_loadState_54 ?_
            refine lv_iload_n hx hb dX5_loadState_55 rfl (lv_at hl 0 rfl) ?_
            refine z_add hx hb dX5_loadState_56 ?_
            refine z_iald hx hb hK hP 3 rfl (by omega) (by omega) (by omega) dX5_loadState_57 ?_
            refine z_top (show Sl ((144 * x) + k).toNat = Sl ((144 * x) + k).toNat from rfl) ?_
            refine z_iast hx hb hK hP hD hS 1 rfl (by omega) (by omega) (by omega) dX5_loadState_58 (fun H locs hP hD hS => ?_)
            have hP : va_P D vwCl [(m0, .inr (5, [.ref a0, .ref p0, .int (iI ho1_4), .ref q0, .ref v0, .int (iI 0), .ref t0, .int (iI tl)])), (a0, .inl (cy 0, 144, .inl (upd G2 k.toNat (Sl ((144 * x) + k).toNat)))), (p0, .inl (cy 0, 864, .inl H1_4)), (q0, .inl (cy 0, 288, .inl Sl)), (v0, .inl (cy 0, 2, .inl Sv))] H := hP
            have hD : va_D A [(m0, .inr (5, [.ref a0, .ref p0, .int (iI ho1_4), .ref q0, .ref v0, .int (iI 0), .ref t0, .int (iI tl)])), (a0, .inl (cy 0, 144, .inl (upd G2 k.toNat (Sl ((144 * x) + k).toNat)))), (p0, .inl (cy 0, 864, .inl H1_4)), (q0, .inl (cy 0, 288, .inl Sl)), (v0, .inl (cy 0, 2, .inl Sv))] := hD
            refine z_iinc (lv' := [(2, .int (iI (k + 1))), (0, .ref m0), (1, .int (iI x))]) hx hb dX5_loadState_59 hl (k := 0) rfl (by decide) rfl (fun ls hl => ?_)
            refine lv_goto (tgt := 34) hx hb dX5_loadState_62 (by decide) ?_
            exact ih5 (k + 1) (upd G2 k.toNat (Sl ((144 * x) + k).toNat)) (by omega) (fun j a => by
              by_cases e : j = k.toNat
              · rw [e, upd_same]; congr 1; omega
              · rw [upd_ne _ _ e]; exact ha j (by omega)) (by omega) _ _ _ hP hD hS (lv_sub hl [0, 1, 2] rfl)
      exact hloop5 (Int.toNat (144 - 0) + 1) 0 G (by omega) (fun j a => by omega) (by omega) _ _ _ hP hD hS (lv_sub hl [0, 1, 2] rfl)
    · --
      refine lv_aload_n hx hb dX5_loadState_22 rfl (lv_at hl 0 rfl) ?_
      refine lv_iconst (v := iI 2) hx hb dX5_loadState_23 rfl ?_
      refine z_cVi (n := 1) (b := m0) (As := [.int (iI 2)]) (rest := []) ⟨hx, hb, hml, hown, hts⟩ (c_X5_fails l D cy m0 a0 p0 q0 v0 t0 ho th tl (2 : Int) ) gX5_loadState_X5_fails rfl (by decide +kernel) ⟨Nat.le_of_ble_eq_true rfl, Nat.le_of_ble_eq_true rfl⟩ hK hT hP hD hS hA [0] rfl rfl 0 5 rfl rfl rfl (fun _ => rfl) rfl hl.1 rfl (Nat.le_of_ble_eq_true rfl) dX5_loadState_24 ⟨Nat.zero_le _, Nat.zero_le _⟩ (fun r_7 u_7 H locs hw_7 hP hD hS => ?_)
      have hw_7 : r_7 = iI 0 := hw_7
      have hP : va_P D vwCl [(m0, .inr (5, [.ref a0, .ref p0, .int (iI ho), .ref q0, .ref v0, .int (iI (2 : Int)), .ref t0, .int (iI tl)])), (a0, .inl (cy 0, 144, .inl G)), (p0, .inl (cy 0, 864, .inl Hh)), (q0, .inl (cy 0, 288, .inl Sl)), (v0, .inl (cy 0, 2, .inl Sv))] H := hP
      have hD : va_D A [(m0, .inr (5, [.ref a0, .ref p0, .int (iI ho), .ref q0, .ref v0, .int (iI (2 : Int)), .ref t0, .int (iI tl)])), (a0, .inl (cy 0, 144, .inl G)), (p0, .inl (cy 0, 864, .inl Hh)), (q0, .inl (cy 0, 288, .inl Sl)), (v0, .inl (cy 0, 2, .inl Sv))] := hD
      obtain rfl := hw_7
      exact z_iret hx hb hr hlocks hS (G, ho, Hh, (2 : Int)) (show (¬ (x = 0 ∨ x = 1) ∧ (iI 0) = iI 0 ∧ (2 : Int) = 1 ∧ G = G ∧ ho = ho ∧ Hh = Hh) ∨ ((x = 0 ∨ x = 1) ∧ sl x.toNat = none ∧ (iI 0) = iI 0 ∧ (2 : Int) = 2 ∧ G = G ∧ ho = ho ∧ Hh = Hh) ∨ ((x = 0 ∨ x = 1) ∧ ∃ M2 : MS, sl x.toNat = some M2 ∧ (iI 0) = iI (M2.1.length : Int) ∧ (2 : Int) = 0 ∧ RG G M2 ∧ ho = ((pushH h M).length : Int) ∧ RH Hh (pushH h M)) from (Or.inr (Or.inl ⟨by omega, RSl_none (x := x) hS1 (by omega) (by assumption), rfl, rfl, rfl, rfl, rfl⟩))) hP dX5_loadState_27
  · --
    refine z_if_ne (tgt := 13) hx hb (iI_t (by omega) (by omega)) dX5_loadState_4 (by decide) (fun c8 => absurd c8 (by omega)) (fun _ => ?_)
    refine lv_aload_n hx hb dX5_loadState_7 rfl (lv_at hl 0 rfl) ?_
    refine lv_iconst (v := iI 1) hx hb dX5_loadState_8 rfl ?_
    refine z_cVi (n := 1) (b := m0) (As := [.int (iI 1)]) (rest := []) ⟨hx, hb, hml, hown, hts⟩ (c_X5_fails l D cy m0 a0 p0 q0 v0 t0 ho th tl (1 : Int) ) gX5_loadState_X5_fails rfl (by decide +kernel) ⟨Nat.le_of_ble_eq_true rfl, Nat.le_of_ble_eq_true rfl⟩ hK hT hP hD hS hA [0] rfl rfl 0 5 rfl rfl rfl (fun _ => rfl) rfl hl.1 rfl (Nat.le_of_ble_eq_true rfl) dX5_loadState_9 ⟨Nat.zero_le _, Nat.zero_le _⟩ (fun r_9 u_9 H locs hw_9 hP hD hS => ?_)
    have hw_9 : r_9 = iI 0 := hw_9
    have hP : va_P D vwCl [(m0, .inr (5, [.ref a0, .ref p0, .int (iI ho), .ref q0, .ref v0, .int (iI (1 : Int)), .ref t0, .int (iI tl)])), (a0, .inl (cy 0, 144, .inl G)), (p0, .inl (cy 0, 864, .inl Hh)), (q0, .inl (cy 0, 288, .inl Sl)), (v0, .inl (cy 0, 2, .inl Sv))] H := hP
    have hD : va_D A [(m0, .inr (5, [.ref a0, .ref p0, .int (iI ho), .ref q0, .ref v0, .int (iI (1 : Int)), .ref t0, .int (iI tl)])), (a0, .inl (cy 0, 144, .inl G)), (p0, .inl (cy 0, 864, .inl Hh)), (q0, .inl (cy 0, 288, .inl Sl)), (v0, .inl (cy 0, 2, .inl Sv))] := hD
    obtain rfl := hw_9
    exact z_iret hx hb hr hlocks hS (G, ho, Hh, (1 : Int)) (show (¬ (x = 0 ∨ x = 1) ∧ (iI 0) = iI 0 ∧ (1 : Int) = 1 ∧ G = G ∧ ho = ho ∧ Hh = Hh) ∨ ((x = 0 ∨ x = 1) ∧ sl x.toNat = none ∧ (iI 0) = iI 0 ∧ (1 : Int) = 2 ∧ G = G ∧ ho = ho ∧ Hh = Hh) ∨ ((x = 0 ∨ x = 1) ∧ ∃ M2 : MS, sl x.toNat = some M2 ∧ (iI 0) = iI (M2.1.length : Int) ∧ (1 : Int) = 0 ∧ RG G M2 ∧ ho = ((pushH h M).length : Int) ∧ RH Hh (pushH h M)) from (Or.inl ⟨by omega, rfl, rfl, rfl, rfl, rfl⟩)) hP dX5_loadState_12

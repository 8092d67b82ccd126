theorem dX5_looks_0 : decode cX5_looks 0 = .ok (.aload_n 0, 1) := by decide +kernel
theorem dX5_looks_1 : decode cX5_looks 1 = .ok (.getfield 7, 3) := by decide +kernel
theorem dX5_looks_4 : decode cX5_looks 4 = .ok (.bipush 80, 2) := by decide +kernel
theorem dX5_looks_6 : decode cX5_looks 6 = .ok (.iaload, 1) := by decide +kernel
theorem dX5_looks_7 : decode cX5_looks 7 = .ok (.istore_n 1, 1) := by decide +kernel
theorem dX5_looks_8 : decode cX5_looks 8 = .ok (.aload_n 0, 1) := by decide +kernel
theorem dX5_looks_9 : decode cX5_looks 9 = .ok (.iload_n 1, 1) := by decide +kernel
theorem dX5_looks_10 : decode cX5_looks 10 = .ok (.invokevirtual 76, 3) := by decide +kernel
theorem dX5_looks_13 : decode cX5_looks 13 = .ok (.istore_n 2, 1) := by decide +kernel
theorem dX5_looks_14 : decode cX5_looks 14 = .ok (.aload_n 0, 1) := by decide +kernel
theorem dX5_looks_15 : decode cX5_looks 15 = .ok (.iload_n 1, 1) := by decide +kernel
theorem dX5_looks_16 : decode cX5_looks 16 = .ok (.iload_n 2, 1) := by decide +kernel
theorem dX5_looks_17 : decode cX5_looks 17 = .ok (.aload_n 0, 1) := by decide +kernel
theorem dX5_looks_18 : decode cX5_looks 18 = .ok (.getfield 7, 3) := by decide +kernel
theorem dX5_looks_21 : decode cX5_looks 21 = .ok (.bipush 78, 2) := by decide +kernel
theorem dX5_looks_23 : decode cX5_looks 23 = .ok (.iaload, 1) := by decide +kernel
theorem dX5_looks_24 : decode cX5_looks 24 = .ok (.iconst 1, 1) := by decide +kernel
theorem dX5_looks_25 : decode cX5_looks 25 = .ok (.if_icmp .ne 7, 3) := by decide +kernel
theorem dX5_looks_28 : decode cX5_looks 28 = .ok (.iconst 1, 1) := by decide +kernel
theorem dX5_looks_29 : decode cX5_looks 29 = .ok (.goto 4, 3) := by decide +kernel
theorem dX5_looks_32 : decode cX5_looks 32 = .ok (.iconst 0, 1) := by decide +kernel
theorem dX5_looks_33 : decode cX5_looks 33 = .ok (.aload_n 0, 1) := by decide +kernel
theorem dX5_looks_34 : decode cX5_looks 34 = .ok (.getfield 7, 3) := by decide +kernel
theorem dX5_looks_37 : decode cX5_looks 37 = .ok (.bipush 79, 2) := by decide +kernel
theorem dX5_looks_39 : decode cX5_looks 39 = .ok (.iaload, 1) := by decide +kernel
theorem dX5_looks_40 : decode cX5_looks 40 = .ok (.iconst 1, 1) := by decide +kernel
theorem dX5_looks_41 : decode cX5_looks 41 = .ok (.if_icmp .ne 7, 3) := by decide +kernel
theorem dX5_looks_44 : decode cX5_looks 44 = .ok (.iconst 1, 1) := by decide +kernel
theorem dX5_looks_45 : decode cX5_looks 45 = .ok (.goto 4, 3) := by decide +kernel
theorem dX5_looks_48 : decode cX5_looks 48 = .ok (.iconst 0, 1) := by decide +kernel
theorem dX5_looks_49 : decode cX5_looks 49 = .ok (.invokevirtual 79, 3) := by decide +kernel
theorem dX5_looks_52 : decode cX5_looks 52 = .ok (.istore_n 3, 1) := by decide +kernel
theorem dX5_looks_53 : decode cX5_looks 53 = .ok (.aload_n 0, 1) := by decide +kernel
theorem dX5_looks_54 : decode cX5_looks 54 = .ok (.getfield 7, 3) := by decide +kernel
theorem dX5_looks_57 : decode cX5_looks 57 = .ok (.bipush 81, 2) := by decide +kernel
theorem dX5_looks_59 : decode cX5_looks 59 = .ok (.dup2, 1) := by decide +kernel
theorem dX5_looks_60 : decode cX5_looks 60 = .ok (.iaload, 1) := by decide +kernel
theorem dX5_looks_61 : decode cX5_looks 61 = .ok (.iconst 1, 1) := by decide +kernel
theorem dX5_looks_62 : decode cX5_looks 62 = .ok (.iadd, 1) := by decide +kernel
theorem dX5_looks_63 : decode cX5_looks 63 = .ok (.iastore, 1) := by decide +kernel
theorem dX5_looks_64 : decode cX5_looks 64 = .ok (.aload_n 0, 1) := by decide +kernel
theorem dX5_looks_65 : decode cX5_looks 65 = .ok (.getfield 7, 3) := by decide +kernel
theorem dX5_looks_68 : decode cX5_looks 68 = .ok (.bipush 82, 2) := by decide +kernel
theorem dX5_looks_70 : decode cX5_looks 70 = .ok (.dup2, 1) := by decide +kernel
theorem dX5_looks_71 : decode cX5_looks 71 = .ok (.iaload, 1) := by decide +kernel
theorem dX5_looks_72 : decode cX5_looks 72 = .ok (.iload_n 2, 1) := by decide +kernel
theorem dX5_looks_73 : decode cX5_looks 73 = .ok (.ifCond .ge 13, 3) := by decide +kernel
theorem dX5_looks_76 : decode cX5_looks 76 = .ok (.aload_n 0, 1) := by decide +kernel
theorem dX5_looks_77 : decode cX5_looks 77 = .ok (.getfield 7, 3) := by decide +kernel
theorem dX5_looks_80 : decode cX5_looks 80 = .ok (.bipush 61, 2) := by decide +kernel
theorem dX5_looks_82 : decode cX5_looks 82 = .ok (.iaload, 1) := by decide +kernel
theorem dX5_looks_83 : decode cX5_looks 83 = .ok (.goto 12, 3) := by decide +kernel
theorem dX5_looks_86 : decode cX5_looks 86 = .ok (.aload_n 0, 1) := by decide +kernel
theorem dX5_looks_87 : decode cX5_looks 87 = .ok (.getfield 7, 3) := by decide +kernel
theorem dX5_looks_90 : decode cX5_looks 90 = .ok (.bipush 61, 2) := by decide +kernel
theorem dX5_looks_92 : decode cX5_looks 92 = .ok (.iaload, 1) := by decide +kernel
theorem dX5_looks_93 : decode cX5_looks 93 = .ok (.iload_n 2, 1) := by decide +kernel
theorem dX5_looks_94 : decode cX5_looks 94 = .ok (.isub, 1) := by decide +kernel
theorem dX5_looks_95 : decode cX5_looks 95 = .ok (.iadd, 1) := by decide +kernel
theorem dX5_looks_96 : decode cX5_looks 96 = .ok (.iastore, 1) := by decide +kernel
theorem dX5_looks_97 : decode cX5_looks 97 = .ok (.iload_n 2, 1) := by decide +kernel
theorem dX5_looks_98 : decode cX5_looks 98 = .ok (.ifCond .ge 30, 3) := by decide +kernel
theorem dX5_looks_101 : decode cX5_looks 101 = .ok (.aload_n 0, 1) := by decide +kernel
theorem dX5_looks_102 : decode cX5_looks 102 = .ok (.getfield 7, 3) := by decide +kernel
theorem dX5_looks_105 : decode cX5_looks 105 = .ok (.bipush 84, 2) := by decide +kernel
theorem dX5_looks_107 : decode cX5_looks 107 = .ok (.aload_n 0, 1) := by decide +kernel
theorem dX5_looks_108 : decode cX5_looks 108 = .ok (.getfield 7, 3) := by decide +kernel
theorem dX5_looks_111 : decode cX5_looks 111 = .ok (.bipush 83, 2) := by decide +kernel
theorem dX5_looks_113 : decode cX5_looks 113 = .ok (.iaload, 1) := by decide +kernel
theorem dX5_looks_114 : decode cX5_looks 114 = .ok (.iadd, 1) := by decide +kernel
theorem dX5_looks_115 : decode cX5_looks 115 = .ok (.iload_n 1, 1) := by decide +kernel
theorem dX5_looks_116 : decode cX5_looks 116 = .ok (.iastore, 1) := by decide +kernel
theorem dX5_looks_117 : decode cX5_looks 117 = .ok (.aload_n 0, 1) := by decide +kernel
theorem dX5_looks_118 : decode cX5_looks 118 = .ok (.getfield 7, 3) := by decide +kernel
theorem dX5_looks_121 : decode cX5_looks 121 = .ok (.bipush 83, 2) := by decide +kernel
theorem dX5_looks_123 : decode cX5_looks 123 = .ok (.dup2, 1) := by decide +kernel
theorem dX5_looks_124 : decode cX5_looks 124 = .ok (.iaload, 1) := by decide +kernel
theorem dX5_looks_125 : decode cX5_looks 125 = .ok (.iconst 1, 1) := by decide +kernel
theorem dX5_looks_126 : decode cX5_looks 126 = .ok (.iadd, 1) := by decide +kernel
theorem dX5_looks_127 : decode cX5_looks 127 = .ok (.iastore, 1) := by decide +kernel
theorem dX5_looks_128 : decode cX5_looks 128 = .ok (.aload_n 0, 1) := by decide +kernel
theorem dX5_looks_129 : decode cX5_looks 129 = .ok (.getfield 7, 3) := by decide +kernel
theorem dX5_looks_132 : decode cX5_looks 132 = .ok (.bipush 80, 2) := by decide +kernel
theorem dX5_looks_134 : decode cX5_looks 134 = .ok (.dup2, 1) := by decide +kernel
theorem dX5_looks_135 : decode cX5_looks 135 = .ok (.iaload, 1) := by decide +kernel
theorem dX5_looks_136 : decode cX5_looks 136 = .ok (.iload_n 3, 1) := by decide +kernel
theorem dX5_looks_137 : decode cX5_looks 137 = .ok (.iadd, 1) := by decide +kernel
theorem dX5_looks_138 : decode cX5_looks 138 = .ok (.iastore, 1) := by decide +kernel
theorem dX5_looks_139 : decode cX5_looks 139 = .ok (.iload_n 3, 1) := by decide +kernel
theorem dX5_looks_140 : decode cX5_looks 140 = .ok (.ireturn, 1) := by decide +kernel
set_option maxRecDepth 20000 in
theorem ggX5_looks_X5_difference : GoodIn wsX5_looks wsX5_difference := goodIn_r _ [6, 1, 27, 28, 29, 30, 31, 32, 33, 34] (by decide +kernel) (by decide +kernel)
set_option maxRecDepth 20000 in
theorem gX5_looks_X5_difference : GoodIn wsX5_looks (wsV RX5 76 RX5 yX5_difference wsX5_difference) := goodIn_app (goodIn_of _ (by decide +kernel)) ggX5_looks_X5_difference
set_option maxRecDepth 20000 in
theorem ggX5_looks_X5_skipBy : GoodIn wsX5_looks wsX5_skipBy := goodIn_r _ [10, 1, 11, 12, 13, 5, 14, 15, 16, 17, 18, 19, 20, 21, 22, 23, 24, 25, 26, 27, 28, 29, 30, 31, 32, 33, 34] (by decide +kernel) (by decide +kernel)
set_option maxRecDepth 20000 in
theorem gX5_looks_X5_skipBy : GoodIn wsX5_looks (wsV RX5 79 RX5 yX5_skipBy wsX5_skipBy) := goodIn_app (goodIn_of _ (by decide +kernel)) ggX5_looks_X5_skipBy
theorem dX5_stands_0 : decode cX5_stands 0 = .ok (.iconst 0, 1) := by decide +kernel
theorem dX5_stands_1 : decode cX5_stands 1 = .ok (.istore_n 1, 1) := by decide +kernel
theorem dX5_stands_2 : decode cX5_stands 2 = .ok (.iconst 0, 1) := by decide +kernel
theorem dX5_stands_3 : decode cX5_stands 3 = .ok (.istore_n 2, 1) := by decide +kernel
theorem dX5_stands_4 : decode cX5_stands 4 = .ok (.aload_n 0, 1) := by decide +kernel
theorem dX5_stands_5 : decode cX5_stands 5 = .ok (.iload_n 2, 1) := by decide +kernel
theorem dX5_stands_6 : decode cX5_stands 6 = .ok (.invokevirtual 83, 3) := by decide +kernel
theorem dX5_stands_9 : decode cX5_stands 9 = .ok (.ifCond .ne 25, 3) := by decide +kernel
theorem dX5_stands_12 : decode cX5_stands 12 = .ok (.iload_n 1, 1) := by decide +kernel
theorem dX5_stands_13 : decode cX5_stands 13 = .ok (.aload_n 0, 1) := by decide +kernel
theorem dX5_stands_14 : decode cX5_stands 14 = .ok (.iload_n 2, 1) := by decide +kernel
theorem dX5_stands_15 : decode cX5_stands 15 = .ok (.invokevirtual 76, 3) := by decide +kernel
theorem dX5_stands_18 : decode cX5_stands 18 = .ok (.ifCond .ge 7, 3) := by decide +kernel
theorem dX5_stands_21 : decode cX5_stands 21 = .ok (.iconst 1, 1) := by decide +kernel
theorem dX5_stands_22 : decode cX5_stands 22 = .ok (.goto 4, 3) := by decide +kernel
theorem dX5_stands_25 : decode cX5_stands 25 = .ok (.iconst 0, 1) := by decide +kernel
theorem dX5_stands_26 : decode cX5_stands 26 = .ok (.iadd, 1) := by decide +kernel
theorem dX5_stands_27 : decode cX5_stands 27 = .ok (.istore_n 1, 1) := by decide +kernel
theorem dX5_stands_28 : decode cX5_stands 28 = .ok (.iinc 2 1, 3) := by decide +kernel
theorem dX5_stands_31 : decode cX5_stands 31 = .ok (.goto (-27), 3) := by decide +kernel
theorem dX5_stands_34 : decode cX5_stands 34 = .ok (.iload_n 1, 1) := by decide +kernel
theorem dX5_stands_35 : decode cX5_stands 35 = .ok (.ireturn, 1) := by decide +kernel
set_option maxRecDepth 20000 in
theorem ggX5_stands_X5_isOverAt : GoodIn wsX5_stands wsX5_isOverAt := goodIn_r _ [5, 6, 11, 12, 13, 14, 15, 16, 17, 18] (by decide +kernel) (by decide +kernel)
set_option maxRecDepth 20000 in
theorem gX5_stands_X5_isOverAt : GoodIn wsX5_stands (wsV RX5 83 RX5 yX5_isOverAt wsX5_isOverAt) := goodIn_app (goodIn_of _ (by decide +kernel)) ggX5_stands_X5_isOverAt
set_option maxRecDepth 20000 in
theorem ggX5_stands_X5_difference : GoodIn wsX5_stands wsX5_difference := goodIn_r _ [10, 6, 11, 12, 13, 14, 15, 16, 17, 18] (by decide +kernel) (by decide +kernel)
set_option maxRecDepth 20000 in
theorem gX5_stands_X5_difference : GoodIn wsX5_stands (wsV RX5 76 RX5 yX5_difference wsX5_difference) := goodIn_app (goodIn_of _ (by decide +kernel)) ggX5_stands_X5_difference
theorem dX5_occurrences_0 : decode cX5_occurrences 0 = .ok (.aload_n 0, 1) := by decide +kernel
theorem dX5_occurrences_1 : decode cX5_occurrences 1 = .ok (.aload_n 0, 1) := by decide +kernel
theorem dX5_occurrences_2 : decode cX5_occurrences 2 = .ok (.invokevirtual 101, 3) := by decide +kernel
theorem dX5_occurrences_5 : decode cX5_occurrences 5 = .ok (.invokevirtual 95, 3) := by decide +kernel
theorem dX5_occurrences_8 : decode cX5_occurrences 8 = .ok (.ireturn, 1) := by decide +kernel
set_option maxRecDepth 20000 in
theorem ggX5_occurrences_X5_stands : GoodIn wsX5_occurrences wsX5_stands := goodIn_r _ [5, 6, 7, 8, 4, 9, 10, 11, 12, 13, 14, 20, 21, 22, 23, 24, 25, 26, 27] (by decide +kernel) (by decide +kernel)
set_option maxRecDepth 20000 in
theorem gX5_occurrences_X5_stands : GoodIn wsX5_occurrences (wsV RX5 101 RX5 yX5_stands wsX5_stands) := goodIn_app (goodIn_of _ (by decide +kernel)) ggX5_occurrences_X5_stands
set_option maxRecDepth 20000 in
theorem ggX5_occurrences_X5_told : GoodIn wsX5_occurrences wsX5_told := goodIn_r _ [18, 19, 20, 21, 22, 23, 24, 25, 26, 27] (by decide +kernel) (by decide +kernel)
set_option maxRecDepth 20000 in
theorem gX5_occurrences_X5_told : GoodIn wsX5_occurrences (wsV RX5 95 RX5 yX5_told wsX5_told) := goodIn_app (goodIn_of _ (by decide +kernel)) ggX5_occurrences_X5_told
theorem dX5_occurrencesByTrying_0 : decode cX5_occurrencesByTrying 0 = .ok (.aload_n 0, 1) := by decide +kernel
theorem dX5_occurrencesByTrying_1 : decode cX5_occurrencesByTrying 1 = .ok (.aload_n 0, 1) := by decide +kernel
theorem dX5_occurrencesByTrying_2 : decode cX5_occurrencesByTrying 2 = .ok (.invokevirtual 101, 3) := by decide +kernel
theorem dX5_occurrencesByTrying_5 : decode cX5_occurrencesByTrying 5 = .ok (.invokevirtual 95, 3) := by decide +kernel
theorem dX5_occurrencesByTrying_8 : decode cX5_occurrencesByTrying 8 = .ok (.ireturn, 1) := by decide +kernel
set_option maxRecDepth 20000 in
theorem ggX5_occurrencesByTrying_X5_stands : GoodIn wsX5_occurrencesByTrying wsX5_stands := goodIn_r _ [5, 6, 7, 8, 4, 9, 10, 11, 12, 13, 14, 20, 21, 22, 23, 24, 25, 26, 27] (by decide +kernel) (by decide +kernel)
set_option maxRecDepth 20000 in
theorem gX5_occurrencesByTrying_X5_stands : GoodIn wsX5_occurrencesByTrying (wsV RX5 101 RX5 yX5_stands wsX5_stands) := goodIn_app (goodIn_of _ (by decide +kernel)) ggX5_occurrencesByTrying_X5_stands
set_option maxRecDepth 20000 in
theorem ggX5_occurrencesByTrying_X5_told : GoodIn wsX5_occurrencesByTrying wsX5_told := goodIn_r _ [18, 19, 20, 21, 22, 23, 24, 25, 26, 27] (by decide +kernel) (by decide +kernel)
set_option maxRecDepth 20000 in
theorem gX5_occurrencesByTrying_X5_told : GoodIn wsX5_occurrencesByTrying (wsV RX5 95 RX5 yX5_told wsX5_told) := goodIn_app (goodIn_of _ (by decide +kernel)) ggX5_occurrencesByTrying_X5_told
theorem dX5_comparedWith_0 : decode cX5_comparedWith 0 = .ok (.aload_n 0, 1) := by decide +kernel
theorem dX5_comparedWith_1 : decode cX5_comparedWith 1 = .ok (.iconst 0, 1) := by decide +kernel
theorem dX5_comparedWith_2 : decode cX5_comparedWith 2 = .ok (.putfield 25, 3) := by decide +kernel
theorem dX5_comparedWith_5 : decode cX5_comparedWith 5 = .ok (.iconst 0, 1) := by decide +kernel
theorem dX5_comparedWith_6 : decode cX5_comparedWith 6 = .ok (.istore_n 3, 1) := by decide +kernel
theorem dX5_comparedWith_7 : decode cX5_comparedWith 7 = .ok (.iconst 0, 1) := by decide +kernel
theorem dX5_comparedWith_8 : decode cX5_comparedWith 8 = .ok (.istore 4, 2) := by decide +kernel
theorem dX5_comparedWith_10 : decode cX5_comparedWith 10 = .ok (.aload_n 0, 1) := by decide +kernel
theorem dX5_comparedWith_11 : decode cX5_comparedWith 11 = .ok (.iload 4, 2) := by decide +kernel
theorem dX5_comparedWith_13 : decode cX5_comparedWith 13 = .ok (.invokevirtual 83, 3) := by decide +kernel
theorem dX5_comparedWith_16 : decode cX5_comparedWith 16 = .ok (.ifCond .ne 57, 3) := by decide +kernel
theorem dX5_comparedWith_19 : decode cX5_comparedWith 19 = .ok (.aload_n 0, 1) := by decide +kernel
theorem dX5_comparedWith_20 : decode cX5_comparedWith 20 = .ok (.iload 4, 2) := by decide +kernel
theorem dX5_comparedWith_22 : decode cX5_comparedWith 22 = .ok (.invokevirtual 76, 3) := by decide +kernel
theorem dX5_comparedWith_25 : decode cX5_comparedWith 25 = .ok (.istore 5, 2) := by decide +kernel
theorem dX5_comparedWith_27 : decode cX5_comparedWith 27 = .ok (.iload_n 3, 1) := by decide +kernel
theorem dX5_comparedWith_28 : decode cX5_comparedWith 28 = .ok (.iload 5, 2) := by decide +kernel
theorem dX5_comparedWith_30 : decode cX5_comparedWith 30 = .ok (.ifCond .ge 13, 3) := by decide +kernel
theorem dX5_comparedWith_33 : decode cX5_comparedWith 33 = .ok (.aload_n 0, 1) := by decide +kernel
theorem dX5_comparedWith_34 : decode cX5_comparedWith 34 = .ok (.getfield 7, 3) := by decide +kernel
theorem dX5_comparedWith_37 : decode cX5_comparedWith 37 = .ok (.bipush 61, 2) := by decide +kernel
theorem dX5_comparedWith_39 : decode cX5_comparedWith 39 = .ok (.iaload, 1) := by decide +kernel
theorem dX5_comparedWith_40 : decode cX5_comparedWith 40 = .ok (.goto 13, 3) := by decide +kernel
theorem dX5_comparedWith_43 : decode cX5_comparedWith 43 = .ok (.aload_n 0, 1) := by decide +kernel
theorem dX5_comparedWith_44 : decode cX5_comparedWith 44 = .ok (.getfield 7, 3) := by decide +kernel
theorem dX5_comparedWith_47 : decode cX5_comparedWith 47 = .ok (.bipush 61, 2) := by decide +kernel
theorem dX5_comparedWith_49 : decode cX5_comparedWith 49 = .ok (.iaload, 1) := by decide +kernel
theorem dX5_comparedWith_50 : decode cX5_comparedWith 50 = .ok (.iload 5, 2) := by decide +kernel
theorem dX5_comparedWith_52 : decode cX5_comparedWith 52 = .ok (.isub, 1) := by decide +kernel
theorem dX5_comparedWith_53 : decode cX5_comparedWith 53 = .ok (.iadd, 1) := by decide +kernel
theorem dX5_comparedWith_54 : decode cX5_comparedWith 54 = .ok (.istore_n 3, 1) := by decide +kernel
theorem dX5_comparedWith_55 : decode cX5_comparedWith 55 = .ok (.iload 4, 2) := by decide +kernel
theorem dX5_comparedWith_57 : decode cX5_comparedWith 57 = .ok (.aload_n 0, 1) := by decide +kernel
theorem dX5_comparedWith_58 : decode cX5_comparedWith 58 = .ok (.iload 4, 2) := by decide +kernel
theorem dX5_comparedWith_60 : decode cX5_comparedWith 60 = .ok (.iload 5, 2) := by decide +kernel
theorem dX5_comparedWith_62 : decode cX5_comparedWith 62 = .ok (.iload_n 1, 1) := by decide +kernel
theorem dX5_comparedWith_63 : decode cX5_comparedWith 63 = .ok (.iload_n 2, 1) := by decide +kernel
theorem dX5_comparedWith_64 : decode cX5_comparedWith 64 = .ok (.invokevirtual 79, 3) := by decide +kernel
theorem dX5_comparedWith_67 : decode cX5_comparedWith 67 = .ok (.iadd, 1) := by decide +kernel
theorem dX5_comparedWith_68 : decode cX5_comparedWith 68 = .ok (.istore 4, 2) := by decide +kernel
theorem dX5_comparedWith_70 : decode cX5_comparedWith 70 = .ok (.goto (-60), 3) := by decide +kernel
theorem dX5_comparedWith_73 : decode cX5_comparedWith 73 = .ok (.iload_n 3, 1) := by decide +kernel
theorem dX5_comparedWith_74 : decode cX5_comparedWith 74 = .ok (.ireturn, 1) := by decide +kernel
set_option maxRecDepth 20000 in
theorem ggX5_comparedWith_X5_isOverAt : GoodIn wsX5_comparedWith wsX5_isOverAt := goodIn_r _ [7, 2, 32, 33, 34, 35, 36, 37, 38, 39] (by decide +kernel) (by decide +kernel)
set_option maxRecDepth 20000 in
theorem gX5_comparedWith_X5_isOverAt : GoodIn wsX5_comparedWith (wsV RX5 83 RX5 yX5_isOverAt wsX5_isOverAt) := goodIn_app (goodIn_of _ (by decide +kernel)) ggX5_comparedWith_X5_isOverAt
set_option maxRecDepth 20000 in
theorem ggX5_comparedWith_X5_difference : GoodIn wsX5_comparedWith wsX5_difference := goodIn_r _ [11, 2, 32, 33, 34, 35, 36, 37, 38, 39] (by decide +kernel) (by decide +kernel)
set_option maxRecDepth 20000 in
theorem gX5_comparedWith_X5_difference : GoodIn wsX5_comparedWith (wsV RX5 76 RX5 yX5_difference wsX5_difference) := goodIn_app (goodIn_of _ (by decide +kernel)) ggX5_comparedWith_X5_difference
set_option maxRecDepth 20000 in
theorem ggX5_comparedWith_X5_skipBy : GoodIn wsX5_comparedWith wsX5_skipBy := goodIn_r _ [15, 2, 16, 17, 18, 6, 19, 20, 21, 22, 23, 24, 25, 26, 27, 28, 29, 30, 31, 32, 33, 34, 35, 36, 37, 38, 39] (by decide +kernel) (by decide +kernel)
set_option maxRecDepth 20000 in
theorem gX5_comparedWith_X5_skipBy : GoodIn wsX5_comparedWith (wsV RX5 79 RX5 yX5_skipBy wsX5_skipBy) := goodIn_app (goodIn_of _ (by decide +kernel)) ggX5_comparedWith_X5_skipBy
theorem dX5_differenceAt_0 : decode cX5_differenceAt 0 = .ok (.iload_n 1, 1) := by decide +kernel
theorem dX5_differenceAt_1 : decode cX5_differenceAt 1 = .ok (.ifCond .lt 25, 3) := by decide +kernel
theorem dX5_differenceAt_4 : decode cX5_differenceAt 4 = .ok (.iload_n 1, 1) := by decide +kernel
theorem dX5_differenceAt_5 : decode cX5_differenceAt 5 = .ok (.i2l, 1) := by decide +kernel
theorem dX5_differenceAt_6 : decode cX5_differenceAt 6 = .ok (.aload_n 0, 1) := by decide +kernel
theorem dX5_differenceAt_7 : decode cX5_differenceAt 7 = .ok (.getfield 7, 3) := by decide +kernel
theorem dX5_differenceAt_10 : decode cX5_differenceAt 10 = .ok (.bipush 61, 2) := by decide +kernel
theorem dX5_differenceAt_12 : decode cX5_differenceAt 12 = .ok (.iaload, 1) := by decide +kernel
theorem dX5_differenceAt_13 : decode cX5_differenceAt 13 = .ok (.i2l, 1) := by decide +kernel
theorem dX5_differenceAt_14 : decode cX5_differenceAt 14 = .ok (.ladd, 1) := by decide +kernel
theorem dX5_differenceAt_15 : decode cX5_differenceAt 15 = .ok (.aload_n 0, 1) := by decide +kernel
theorem dX5_differenceAt_16 : decode cX5_differenceAt 16 = .ok (.getfield 7, 3) := by decide +kernel
theorem dX5_differenceAt_19 : decode cX5_differenceAt 19 = .ok (.iconst 0, 1) := by decide +kernel
theorem dX5_differenceAt_20 : decode cX5_differenceAt 20 = .ok (.iaload, 1) := by decide +kernel
theorem dX5_differenceAt_21 : decode cX5_differenceAt 21 = .ok (.i2l, 1) := by decide +kernel
theorem dX5_differenceAt_22 : decode cX5_differenceAt 22 = .ok (.lcmp, 1) := by decide +kernel
theorem dX5_differenceAt_23 : decode cX5_differenceAt 23 = .ok (.ifCond .le 9, 3) := by decide +kernel
theorem dX5_differenceAt_26 : decode cX5_differenceAt 26 = .ok (.aload_n 0, 1) := by decide +kernel
theorem dX5_differenceAt_27 : decode cX5_differenceAt 27 = .ok (.iconst 1, 1) := by decide +kernel
theorem dX5_differenceAt_28 : decode cX5_differenceAt 28 = .ok (.invokevirtual 66, 3) := by decide +kernel
theorem dX5_differenceAt_31 : decode cX5_differenceAt 31 = .ok (.ireturn, 1) := by decide +kernel
theorem dX5_differenceAt_32 : decode cX5_differenceAt 32 = .ok (.aload_n 0, 1) := by decide +kernel
theorem dX5_differenceAt_33 : decode cX5_differenceAt 33 = .ok (.getfield 7, 3) := by decide +kernel
theorem dX5_differenceAt_36 : decode cX5_differenceAt 36 = .ok (.bipush 61, 2) := by decide +kernel
theorem dX5_differenceAt_38 : decode cX5_differenceAt 38 = .ok (.iaload, 1) := by decide +kernel
theorem dX5_differenceAt_39 : decode cX5_differenceAt 39 = .ok (.ifCond .ne 11, 3) := by decide +kernel
theorem dX5_differenceAt_42 : decode cX5_differenceAt 42 = .ok (.aload_n 0, 1) := by decide +kernel
theorem dX5_differenceAt_43 : decode cX5_differenceAt 43 = .ok (.iconst 2, 1) := by decide +kernel
theorem dX5_differenceAt_44 : decode cX5_differenceAt 44 = .ok (.invokevirtual 66, 3) := by decide +kernel
theorem dX5_differenceAt_47 : decode cX5_differenceAt 47 = .ok (.goto 12, 3) := by decide +kernel
theorem dX5_differenceAt_50 : decode cX5_differenceAt 50 = .ok (.aload_n 0, 1) := by decide +kernel
theorem dX5_differenceAt_51 : decode cX5_differenceAt 51 = .ok (.aload_n 0, 1) := by decide +kernel
theorem dX5_differenceAt_52 : decode cX5_differenceAt 52 = .ok (.iload_n 1, 1) := by decide +kernel
theorem dX5_differenceAt_53 : decode cX5_differenceAt 53 = .ok (.invokevirtual 76, 3) := by decide +kernel
theorem dX5_differenceAt_56 : decode cX5_differenceAt 56 = .ok (.invokevirtual 95, 3) := by decide +kernel
theorem dX5_differenceAt_59 : decode cX5_differenceAt 59 = .ok (.ireturn, 1) := by decide +kernel
set_option maxRecDepth 20000 in
theorem ggX5_differenceAt_X5_fails : GoodIn wsX5_differenceAt wsX5_fails := goodIn_r _ [6, 7, 16, 17, 18, 19, 20, 21, 22, 23] (by decide +kernel) (by decide +kernel)
set_option maxRecDepth 20000 in
theorem gX5_differenceAt_X5_fails : GoodIn wsX5_differenceAt (wsV RX5 66 RX5 yX5_fails wsX5_fails) := goodIn_app (goodIn_of _ (by decide +kernel)) ggX5_differenceAt_X5_fails
set_option maxRecDepth 20000 in
theorem ggX5_differenceAt_X5_difference : GoodIn wsX5_differenceAt wsX5_difference := goodIn_r _ [11, 1, 16, 17, 18, 19, 20, 21, 22, 23] (by decide +kernel) (by decide +kernel)
set_option maxRecDepth 20000 in
theorem gX5_differenceAt_X5_difference : GoodIn wsX5_differenceAt (wsV RX5 76 RX5 yX5_difference wsX5_difference) := goodIn_app (goodIn_of _ (by decide +kernel)) ggX5_differenceAt_X5_difference
set_option maxRecDepth 20000 in
theorem ggX5_differenceAt_X5_told : GoodIn wsX5_differenceAt wsX5_told := goodIn_r _ [15, 7, 16, 17, 18, 19, 20, 21, 22, 23] (by decide +kernel) (by decide +kernel)
set_option maxRecDepth 20000 in
theorem gX5_differenceAt_X5_told : GoodIn wsX5_differenceAt (wsV RX5 95 RX5 yX5_told wsX5_told) := goodIn_app (goodIn_of _ (by decide +kernel)) ggX5_differenceAt_X5_told
theorem dX5_textError_0 : decode cX5_textError 0 = .ok (.aload_n 0, 1) := by decide +kernel
theorem dX5_textError_1 : decode cX5_textError 1 = .ok (.aload_n 0, 1) := by decide +kernel
theorem dX5_textError_2 : decode cX5_textError 2 = .ok (.invokevirtual 53, 3) := by decide +kernel
theorem dX5_textError_5 : decode cX5_textError 5 = .ok (.invokevirtual 95, 3) := by decide +kernel
theorem dX5_textError_8 : decode cX5_textError 8 = .ok (.ireturn, 1) := by decide +kernel
set_option maxRecDepth 20000 in
theorem ggX5_textError_X5_errorOfText : GoodIn wsX5_textError wsX5_errorOfText := goodIn_r _ [5, 6, 7, 8, 9, 10, 11, 4, 12, 18, 19, 20, 21, 22, 23, 24, 25] (by decide +kernel) (by decide +kernel)
set_option maxRecDepth 20000 in
theorem gX5_textError_X5_errorOfText : GoodIn wsX5_textError (wsV RX5 53 RX5 yX5_errorOfText wsX5_errorOfText) := goodIn_app (goodIn_of _ (by decide +kernel)) ggX5_textError_X5_errorOfText
set_option maxRecDepth 20000 in
theorem ggX5_textError_X5_told : GoodIn wsX5_textError wsX5_told := goodIn_r _ [16, 17, 18, 19, 20, 21, 22, 23, 24, 25] (by decide +kernel) (by decide +kernel)
set_option maxRecDepth 20000 in
theorem gX5_textError_X5_told : GoodIn wsX5_textError (wsV RX5 95 RX5 yX5_told wsX5_told) := goodIn_app (goodIn_of _ (by decide +kernel)) ggX5_textError_X5_told
theorem dX5_textLength_0 : decode cX5_textLength 0 = .ok (.aload_n 0, 1) := by decide +kernel
theorem dX5_textLength_1 : decode cX5_textLength 1 = .ok (.aload_n 0, 1) := by decide +kernel
theorem dX5_textLength_2 : decode cX5_textLength 2 = .ok (.getfield 56, 3) := by decide +kernel
theorem dX5_textLength_5 : decode cX5_textLength 5 = .ok (.invokevirtual 95, 3) := by decide +kernel
theorem dX5_textLength_8 : decode cX5_textLength 8 = .ok (.ireturn, 1) := by decide +kernel
set_option maxRecDepth 20000 in
theorem ggX5_textLength_X5_told : GoodIn wsX5_textLength wsX5_told := goodIn_r _ [6, 7, 8, 9, 10, 11, 12, 13, 14, 15] (by decide +kernel) (by decide +kernel)
set_option maxRecDepth 20000 in
theorem gX5_textLength_X5_told : GoodIn wsX5_textLength (wsV RX5 95 RX5 yX5_told wsX5_told) := goodIn_app (goodIn_of _ (by decide +kernel)) ggX5_textLength_X5_told
theorem dX5_undoCount_0 : decode cX5_undoCount 0 = .ok (.aload_n 0, 1) := by decide +kernel
theorem dX5_undoCount_1 : decode cX5_undoCount 1 = .ok (.aload_n 0, 1) := by decide +kernel
theorem dX5_undoCount_2 : decode cX5_undoCount 2 = .ok (.getfield 29, 3) := by decide +kernel
theorem dX5_undoCount_5 : decode cX5_undoCount 5 = .ok (.invokevirtual 95, 3) := by decide +kernel
theorem dX5_undoCount_8 : decode cX5_undoCount 8 = .ok (.ireturn, 1) := by decide +kernel
set_option maxRecDepth 20000 in
theorem ggX5_undoCount_X5_told : GoodIn wsX5_undoCount wsX5_told := goodIn_r _ [6, 7, 8, 9, 10, 11, 12, 13, 14, 15] (by decide +kernel) (by decide +kernel)
set_option maxRecDepth 20000 in
theorem gX5_undoCount_X5_told : GoodIn wsX5_undoCount (wsV RX5 95 RX5 yX5_told wsX5_told) := goodIn_app (goodIn_of _ (by decide +kernel)) ggX5_undoCount_X5_told
theorem dX5_clearText_0 : decode cX5_clearText 0 = .ok (.aload_n 0, 1) := by decide +kernel
theorem dX5_clearText_1 : decode cX5_clearText 1 = .ok (.iconst 0, 1) := by decide +kernel
theorem dX5_clearText_2 : decode cX5_clearText 2 = .ok (.putfield 25, 3) := by decide +kernel
theorem dX5_clearText_5 : decode cX5_clearText 5 = .ok (.aload_n 0, 1) := by decide +kernel
theorem dX5_clearText_6 : decode cX5_clearText 6 = .ok (.getfield 56, 3) := by decide +kernel
theorem dX5_clearText_9 : decode cX5_clearText 9 = .ok (.istore_n 1, 1) := by decide +kernel
theorem dX5_clearText_10 : decode cX5_clearText 10 = .ok (.aload_n 0, 1) := by decide +kernel
theorem dX5_clearText_11 : decode cX5_clearText 11 = .ok (.iconst 0, 1) := by decide +kernel
theorem dX5_clearText_12 : decode cX5_clearText 12 = .ok (.putfield 56, 3) := by decide +kernel
theorem dX5_clearText_15 : decode cX5_clearText 15 = .ok (.iload_n 1, 1) := by decide +kernel
theorem dX5_clearText_16 : decode cX5_clearText 16 = .ok (.ireturn, 1) := by decide +kernel
theorem dX5_isSlot_0 : decode cX5_isSlot 0 = .ok (.iload_n 0, 1) := by decide +kernel
theorem dX5_isSlot_1 : decode cX5_isSlot 1 = .ok (.ifCond .eq 8, 3) := by decide +kernel
theorem dX5_isSlot_4 : decode cX5_isSlot 4 = .ok (.iload_n 0, 1) := by decide +kernel
theorem dX5_isSlot_5 : decode cX5_isSlot 5 = .ok (.iconst 1, 1) := by decide +kernel
theorem dX5_isSlot_6 : decode cX5_isSlot 6 = .ok (.if_icmp .ne 7, 3) := by decide +kernel
theorem dX5_isSlot_9 : decode cX5_isSlot 9 = .ok (.iconst 1, 1) := by decide +kernel
theorem dX5_isSlot_10 : decode cX5_isSlot 10 = .ok (.goto 4, 3) := by decide +kernel
theorem dX5_isSlot_13 : decode cX5_isSlot 13 = .ok (.iconst 0, 1) := by decide +kernel
theorem dX5_isSlot_14 : decode cX5_isSlot 14 = .ok (.ireturn, 1) := by decide +kernel
def occF (M : MS) : Int := if (M.2.1.length : Int) = 0 then 0 else cntF M.2.1.length (gl M.2.1) (gl M.1) (M.1.length + 1 - M.2.1.length)
theorem gW_eq {G : Nat → Int32} {M : MS} (hG : RG G M) : ∀ j : Nat, j < M.2.1.length → gW G j = gl M.2.1 j := hG.2.2.2.1
theorem gL_eq {G : Nat → Int32} {M : MS} (hG : RG G M) : ∀ j : Nat, j < M.1.length → gL G j = gl M.1 j := hG.2.1
theorem md_eq {G : Nat → Int32} {M : MS} {x : Int} (hG : RG G M) (hM : MOk M) (hx : 0 ≤ x ∧ x + (M.2.1.length : Int) ≤ (M.1.length : Int)) : diffF (M.2.1.length : Int).toNat (gW G) (gL G) x = mD M x := diffF_congr hx.1 (gW_eq hG) (fun j a b => gL_eq hG j (by omega))
theorem skS_eq2 {G : Nat → Int32} {M : MS} {x a b : Int} (hG : RG G M) (hM : MOk M) (hx : 0 ≤ x ∧ x + (M.2.1.length : Int) ≤ (M.1.length : Int) ∧ 0 < (M.2.1.length : Int)) : skS a b (M.2.1.length : Int).toNat (gW G) (gL G) x (mD M x) = skS a b M.2.1.length (gl M.2.1) (gl M.1) x (mD M x) := by
  have hd := diffF_rng M.2.1.length (gl M.2.1) (gl M.1) x
  have e : mD M x = diffF M.2.1.length (gl M.2.1) (gl M.1) x := rfl
  rw [← e] at hd
  have h1 : ((M.2.1.length : Int).toNat) = M.2.1.length := by omega
  rw [h1]
  simp only [skS]
  rw [perF_congr (gW_eq hG)]
  by_cases q : mD M x = -1
  · rw [if_pos q, if_pos q]
  · rw [if_neg q, if_neg q, endF_congr (gW_eq hG) (by omega), gL_eq hG (x + mD M x).toNat (by omega), lastF_congr (gW_eq hG)]
theorem skS_eq {G : Nat → Int32} {M : MS} {x : Int} (hG : RG G M) (hM : MOk M) (hx : 0 ≤ x ∧ x + (M.2.1.length : Int) ≤ (M.1.length : Int) ∧ 0 < (M.2.1.length : Int)) : skS M.2.2.2.1 M.2.2.2.2.1 (M.2.1.length : Int).toNat (gW G) (gL G) x (mD M x) = mSk M x (mD M x) := skS_eq2 hG hM hx
theorem run_step2 {n m : Nat} {W L : Nat → Int32} {sk : Int → Int → Int} {i : Int} {t : LT} {R : LT × Int} (hi : 0 ≤ i) (hlt : i < 60) (hno : ¬ ((m : Int) = 0 ∨ (n : Int) - m + 1 ≤ t.1))
    (h : (runS n m W L sk (60 - i).toNat t).1 = R.1 ∧ i + (runS n m W L sk (60 - i).toNat t).2 = R.2) :
    (runS n m W L sk (60 - (i + 1)).toNat (lookS m W L sk t)).1 = R.1 ∧ i + 1 + (runS n m W L sk (60 - (i + 1)).toNat (lookS m W L sk t)).2 = R.2 := by
  rw [show (60 - i).toNat = (60 - (i + 1)).toNat + 1 by omega, runS_go hno] at h
  refine ⟨h.1, ?_⟩
  have h2 := h.2
  simp only [] at h2
  omega
theorem cnt_step {M : MS} {k n : Int} (hk : 0 ≤ k) (hn : n = cntF M.2.1.length (gl M.2.1) (gl M.1) k.toNat) : n + (if mD M k = -1 then 1 else 0) = cntF M.2.1.length (gl M.2.1) (gl M.1) (k + 1).toNat := by
  rw [show (k + 1).toNat = k.toNat + 1 by omega, cntF, ← hn, show ((k.toNat : Nat) : Int) = k by omega]
  rfl
theorem occ_at {M : MS} {k n : Int} (hk : 0 ≤ k ∧ k ≤ max ((M.1.length : Int) - (M.2.1.length : Int) + 1) 0 ∧ ((M.2.1.length : Int) = 0 → k = 0)) (hn : n = cntF M.2.1.length (gl M.2.1) (gl M.1) k.toNat) (ho : (M.2.1.length : Int) = 0 ∨ (M.1.length : Int) - (M.2.1.length : Int) + 1 ≤ k) : n = occF M := by
  unfold occF
  by_cases q : (M.2.1.length : Int) = 0
  · rw [if_pos q, hn, hk.2.2 q]; rfl
  · rw [if_neg q, hn]; congr 1; omega
theorem RG_look1 {G : Nat → Int32} {M : MS} (hG : RG G M) (hM : MOk M) (hno : ¬ mOver M) (hd : mD M M.2.2.2.2.2.1 = -1) : RG (upd (upd (upd (upd (upd G (81 : Int).toNat (iI (M.2.2.2.2.2.2.1 + 1))) (82 : Int).toNat (iI (M.2.2.2.2.2.2.2 + ((M.2.1.length : Int) - max (mD M M.2.2.2.2.2.1) 0)))) (84 + (M.2.2.1.length : Int)).toNat (iI M.2.2.2.2.2.1)) (83 : Int).toNat (iI ((M.2.2.1.length : Int) + 1))) (80 : Int).toNat (iI (M.2.2.2.2.2.1 + mSk M M.2.2.2.2.2.1 (mD M M.2.2.2.2.2.1)))) (mLook M) := by
  obtain ⟨h0, h1L, h61, h62W, h78, h79, h80, h81, h82, h83, h84F⟩ := hG
  obtain ⟨o1, o2, o3, o4, o5, o6, o7, o8, o9, o10, o11, o12, o13, o14, o15⟩ := hM
  have hno2 : ¬ ((M.2.1.length : Int) = 0 ∨ (M.1.length : Int) - M.2.1.length + 1 ≤ M.2.2.2.2.2.1) := hno
  have hfo : (mLook M).2.2.1 = M.2.2.1 ++ [iI M.2.2.2.2.2.1] := if_pos hd
  have hu : ∀ j : Nat, j ≠ 81 → j ≠ 82 → j ≠ 84 + M.2.2.1.length → j ≠ 83 → j ≠ 80 → ∀ a b x d e : Int32, upd (upd (upd (upd (upd G (81 : Int).toNat a) (82 : Int).toNat b) (84 + (M.2.2.1.length : Int)).toNat x) (83 : Int).toNat d) (80 : Int).toNat e j = G j := by
    intro j q1 q2 q3 q4 q5 a b x d e
    rw [upd_ne _ _ (by omega), upd_ne _ _ (by omega), upd_ne _ _ (by omega), upd_ne _ _ (by omega), upd_ne _ _ (by omega)]
  refine ⟨by rw [hu 0 (by omega) (by omega) (by omega) (by omega) (by omega)]; exact h0, fun j hj => by
      have hj2 : j < M.1.length := hj
      rw [hu _ (by omega) (by omega) (by omega) (by omega) (by omega)]; exact h1L j hj, by rw [hu 61 (by omega) (by omega) (by omega) (by omega) (by omega)]; exact h61, fun j hj => by
      have hj2 : j < M.2.1.length := hj
      rw [hu _ (by omega) (by omega) (by omega) (by omega) (by omega)]; exact h62W j hj, by rw [hu 78 (by omega) (by omega) (by omega) (by omega) (by omega)]; exact h78, by rw [hu 79 (by omega) (by omega) (by omega) (by omega) (by omega)]; exact h79,
    upd_same _ _ _, ?_, ?_, ?_, ?_⟩
  · rw [upd_ne _ _ (by omega), upd_ne _ _ (by omega), upd_ne _ _ (by omega), upd_ne _ _ (by omega)]; exact upd_same _ _ _
  · rw [upd_ne _ _ (by omega), upd_ne _ _ (by omega), upd_ne _ _ (by omega)]; exact upd_same _ _ _
  · rw [upd_ne _ _ (by omega), hfo]
    refine (upd_same _ _ _).trans (congrArg iI ?_)
    simp only [List.length_append, List.length_cons, List.length_nil]
    omega
  · intro j hj
    rw [hfo] at hj ⊢
    simp only [List.length_append, List.length_cons, List.length_nil] at hj
    rw [upd_ne _ _ (by omega), upd_ne _ _ (by omega)]
    by_cases e : j = M.2.2.1.length
    · subst e
      rw [show 84 + M.2.2.1.length = (84 + (M.2.2.1.length : Int)).toNat by omega, upd_same]
      simp [gl]
    · rw [upd_ne _ _ (by omega), upd_ne _ _ (by omega), upd_ne _ _ (by omega), h84F j (by omega)]
      simp only [gl, List.getD_eq_getElem?_getD]
      rw [List.getElem?_append_left (by omega)]
theorem RG_look2 {G : Nat → Int32} {M : MS} (hG : RG G M) (hM : MOk M) (hno : ¬ mOver M) (hd : ¬ mD M M.2.2.2.2.2.1 = -1) : RG (upd (upd (upd G (81 : Int).toNat (iI (M.2.2.2.2.2.2.1 + 1))) (82 : Int).toNat (iI (M.2.2.2.2.2.2.2 + ((M.2.1.length : Int) - max (mD M M.2.2.2.2.2.1) 0)))) (80 : Int).toNat (iI (M.2.2.2.2.2.1 + mSk M M.2.2.2.2.2.1 (mD M M.2.2.2.2.2.1)))) (mLook M) := by
  obtain ⟨h0, h1L, h61, h62W, h78, h79, h80, h81, h82, h83, h84F⟩ := hG
  obtain ⟨o1, o2, o3, o4, o5, o6, o7, o8, o9, o10, o11, o12, o13, o14, o15⟩ := hM
  have hfo : (mLook M).2.2.1 = M.2.2.1 := if_neg hd
  have hu : ∀ j : Nat, j ≠ 81 → j ≠ 82 → j ≠ 80 → ∀ a b e : Int32, upd (upd (upd G (81 : Int).toNat a) (82 : Int).toNat b) (80 : Int).toNat e j = G j := by
    intro j q1 q2 q5 a b e
    rw [upd_ne _ _ (by omega), upd_ne _ _ (by omega), upd_ne _ _ (by omega)]
  refine ⟨by rw [hu 0 (by omega) (by omega) (by omega)]; exact h0, fun j hj => by
      have hj2 : j < M.1.length := hj
      rw [hu _ (by omega) (by omega) (by omega)]; exact h1L j hj, by rw [hu 61 (by omega) (by omega) (by omega)]; exact h61, fun j hj => by
      have hj2 : j < M.2.1.length := hj
      rw [hu _ (by omega) (by omega) (by omega)]; exact h62W j hj, by rw [hu 78 (by omega) (by omega) (by omega)]; exact h78, by rw [hu 79 (by omega) (by omega) (by omega)]; exact h79,
    upd_same _ _ _, ?_, ?_, ?_, fun j hj => ?_⟩
  · rw [upd_ne _ _ (by omega), upd_ne _ _ (by omega)]; exact upd_same _ _ _
  · rw [upd_ne _ _ (by omega)]; exact upd_same _ _ _
  · rw [hfo, hu 83 (by omega) (by omega) (by omega)]; exact h83
  · rw [hfo] at hj ⊢
    rw [hu _ (by omega) (by omega) (by omega)]; exact h84F j hj

set_option maxHeartbeats 4000000 in
set_option maxRecDepth 100000 in
theorem c_X5_looks (l : Launch) (D : va_G) (cy : Nat → ClassId) (m0 : Nat) (a0 : Nat) (p0 : Nat) (q0 : Nat) (v0 : Nat) (t0 : Nat) (ho : Int) (th : Int) (tl : Int) (G : Nat → Int32) (M : MS) (hG : RG G M) (hM : MOk M) (hno : ¬ mOver M) : Ci l D cy yX5_looks wsX5_looks 3 73 [.ref m0] [(m0, .inr (5, [.ref a0, .ref p0, .int (iI ho), .ref q0, .ref v0, .int (iI th), .ref t0, .int (iI tl)])), (a0, .inl (cy 0, 144, .inl G))] (fun (r : Int32) (u : (Nat → Int32)) => r = iI (mSk M M.2.2.2.2.2.1 (mD M M.2.2.2.2.2.1)) ∧ RG u (mLook M)) (fun u : (Nat → Int32) => [(m0, .inr (5, [.ref a0, .ref p0, .int (iI ho), .ref q0, .ref v0, .int (iI th), .ref t0, .int (iI tl)])), (a0, .inl (cy 0, 144, .inl u))]) := by
  refine Ci_of (cc := cX5_looks) (maxL := 4) (ret := (some .int)) (by decide) rfl rfl ?_
  intro p e s m args below meth c A hx hb hr hts hown hlocks hml hP hK hD hT hA ls hl
  have hS : va_S A s.heap s.heap [] := va_S.rf
  have hl : lv_has ls 4 [(0, .ref m0)] := hl
  have hiX5 : ∀ w ∈ wsX50, w ∈ wsX5_looks := by decide +kernel
  obtain ⟨h0, h1L, h61, h62W, h78, h79, h80, h81, h82, h83, h84F⟩ := id hG
  obtain ⟨o1, o2, o3, o4, o5, o6, o7, o8, o9, o10, o11, o12, o13, o14, o15⟩ := id hM
  have hno2 : ¬ ((M.2.1.length : Int) = 0 ∨ (M.1.length : Int) - M.2.1.length + 1 ≤ M.2.2.2.2.2.1) := hno
  have hdr : -1 ≤ mD M M.2.2.2.2.2.1 ∧ mD M M.2.2.2.2.2.1 < (M.2.1.length : Int) := diffF_rng _ _ _ _
  have hsr : 1 ≤ mSk M M.2.2.2.2.2.1 (mD M M.2.2.2.2.2.1) ∧ mSk M M.2.2.2.2.2.1 (mD M M.2.2.2.2.2.1) ≤ 17 := skS_rng (by omega) hdr.1 hdr.2
  refine lv_aload_n hx hb dX5_looks_0 rfl (lv_at hl 0 rfl) ?_
  refine va_get (D := D) (ci := 5) (v := .ref a0) (C := RX5) (T := TX5) (N := 8) hx hb hts hiX5 hown hK hP 0 rfl rfl 0 (by decide) (hts (.fieldLink RX5 7 "BackwardSearchModel" "all" "[I") (by decide +kernel)) (fun _ h9 => h9) rfl dX5_looks_1 ?_
  refine lv_bipush (v := iI 80) hx hb dX5_looks_4 (by decide +kernel) ?_
  refine z_iald hx hb hK hP 1 rfl (by omega) (by omega) (by omega) dX5_looks_6 ?_
  refine z_top (show G (80 : Int).toNat = iI M.2.2.2.2.2.1 from by exact h80) ?_
  refine lv_istore_n (lv' := [(1, .int (iI M.2.2.2.2.2.1)), (0, .ref m0)]) hx hb dX5_looks_7 rfl hl (by decide) rfl (fun ls hl => ?_)
  refine lv_aload_n hx hb dX5_looks_8 rfl (lv_at hl 1 rfl) ?_
  refine lv_iload_n hx hb dX5_looks_9 rfl (lv_at hl 0 rfl) ?_
  refine z_cVi (n := 1) (b := m0) (As := [.int (iI M.2.2.2.2.2.1)]) (rest := []) ⟨hx, hb, hml, hown, hts⟩ (c_X5_difference l D cy m0 a0 p0 q0 v0 t0 ho th tl G (M.2.1.length : Int) M.2.2.2.2.2.1 (by first | assumption | omega) (by first | assumption | omega) (by first | assumption | omega)) gX5_looks_X5_difference rfl (by decide +kernel) ⟨Nat.le_of_ble_eq_true rfl, Nat.le_of_ble_eq_true rfl⟩ hK hT hP hD hS hA [0, 1] rfl rfl 0 5 rfl rfl rfl (fun _ => rfl) rfl hl.1 rfl (Nat.le_of_ble_eq_true rfl) dX5_looks_10 ⟨Nat.zero_le _, Nat.zero_le _⟩ (fun r_1 u_1 H locs hw_1 hP hD hS => ?_)
  have hw_1 : r_1 = iI (diffF (M.2.1.length : Int).toNat (gW G) (gL G) M.2.2.2.2.2.1) := hw_1
  have hP : va_P D vwCl [(m0, .inr (5, [.ref a0, .ref p0, .int (iI ho), .ref q0, .ref v0, .int (iI th), .ref t0, .int (iI tl)])), (a0, .inl (cy 0, 144, .inl G))] H := hP
  have hD : va_D A [(m0, .inr (5, [.ref a0, .ref p0, .int (iI ho), .ref q0, .ref v0, .int (iI th), .ref t0, .int (iI tl)])), (a0, .inl (cy 0, 144, .inl G))] := hD
  obtain rfl := hw_1
  refine z_top (show iI (diffF (M.2.1.length : Int).toNat (gW G) (gL G) M.2.2.2.2.2.1) = iI (mD M M.2.2.2.2.2.1) from congrArg iI (md_eq hG hM (by omega))) ?_
  refine lv_istore_n (lv' := [(2, .int (iI (mD M M.2.2.2.2.2.1))), (1, .int (iI M.2.2.2.2.2.1)), (0, .ref m0)]) hx hb dX5_looks_13 rfl hl (by decide) rfl (fun ls hl => ?_)
  refine lv_aload_n hx hb dX5_looks_14 rfl (lv_at hl 2 rfl) ?_
  refine lv_iload_n hx hb dX5_looks_15 rfl (lv_at hl 1 rfl) ?_
  refine lv_iload_n hx hb dX5_looks_16 rfl (lv_at hl 0 rfl) ?_
  refine lv_aload_n hx hb dX5_looks_17 rfl (lv_at hl 2 rfl) ?_
  refine va_get (D := D) (ci := 5) (v := .ref a0) (C := RX5) (T := TX5) (N := 8) hx hb hts hiX5 hown hK hP 0 rfl rfl 0 (by decide) (hts (.fieldLink RX5 7 "BackwardSearchModel" "all" "[I") (by decide +kernel)) (fun _ h9 => h9) rfl dX5_looks_18 ?_
  refine lv_bipush (v := iI 78) hx hb dX5_looks_21 (by decide +kernel) ?_
  refine z_iald hx hb hK hP 1 rfl (by omega) (by omega) (by omega) dX5_looks_23 ?_
  refine z_top (show G (78 : Int).toNat = iI M.2.2.2.1 from by exact h78) ?_
  refine lv_iconst (v := iI 1) hx hb dX5_looks_24 rfl ?_
  have hj2 : W p l e ({ frames := 3, cells := 0, slots := 0, locals := 73 } : Room) s m args below meth c H locs 0 0 (MQ below (va_Qi (fun (r : Int32) (u : (Nat → Int32)) => r = iI (mSk M M.2.2.2.2.2.1 (mD M M.2.2.2.2.2.1)) ∧ RG u (mLook M)) (fun u t => va_P D vwCl ((fun u : (Nat → Int32) => [(m0, .inr (5, [.ref a0, .ref p0, .int (iI ho), .ref q0, .ref v0, .int (iI th), .ref t0, .int (iI tl)])), (a0, .inl (cy 0, 144, .inl u))]) u) t.heap) A) args s 0 0 A) (F0 m 33 ls [.int (iI M.2.2.2.1), .int (iI (mD M M.2.2.2.2.2.1)), .int (iI M.2.2.2.2.2.1), .ref m0]) := by
    refine lv_aload_n hx hb dX5_looks_33 rfl (lv_at hl 2 rfl) ?_
    refine va_get (D := D) (ci := 5) (v := .ref a0) (C := RX5) (T := TX5) (N := 8) hx hb hts hiX5 hown hK hP 0 rfl rfl 0 (by decide) (hts (.fieldLink RX5 7 "BackwardSearchModel" "all" "[I") (by decide +kernel)) (fun _ h9 => h9) rfl dX5_looks_34 ?_
    refine lv_bipush (v := iI 79) hx hb dX5_looks_37 (by decide +kernel) ?_
    refine z_iald hx hb hK hP 1 rfl (by omega) (by omega) (by omega) dX5_looks_39 ?_
    refine z_top (show G (79 : Int).toNat = iI M.2.2.2.2.1 from by exact h79) ?_
    refine lv_iconst (v := iI 1) hx hb dX5_looks_40 rfl ?_
    have hj3 : W p l e ({ frames := 3, cells := 0, slots := 0, locals := 73 } : Room) s m args below meth c H locs 0 0 (MQ below (va_Qi (fun (r : Int32) (u : (Nat → Int32)) => r = iI (mSk M M.2.2.2.2.2.1 (mD M M.2.2.2.2.2.1)) ∧ RG u (mLook M)) (fun u t => va_P D vwCl ((fun u : (Nat → Int32) => [(m0, .inr (5, [.ref a0, .ref p0, .int (iI ho), .ref q0, .ref v0, .int (iI th), .ref t0, .int (iI tl)])), (a0, .inl (cy 0, 144, .inl u))]) u) t.heap) A) args s 0 0 A) (F0 m 49 ls [.int (iI M.2.2.2.2.1), .int (iI M.2.2.2.1), .int (iI (mD M M.2.2.2.2.2.1)), .int (iI M.2.2.2.2.2.1), .ref m0]) := by
      refine z_cVi (n := 4) (b := m0) (As := [.int (iI M.2.2.2.2.2.1), .int (iI (mD M M.2.2.2.2.2.1)), .int (iI M.2.2.2.1), .int (iI M.2.2.2.2.1)]) (rest := []) ⟨hx, hb, hml, hown, hts⟩ (c_X5_skipBy l D cy m0 a0 p0 q0 v0 t0 ho th tl G (M.2.1.length : Int) M.2.2.2.2.2.1 (mD M M.2.2.2.2.2.1) M.2.2.2.1 M.2.2.2.2.1 (by first | assumption | omega) (by first | assumption | omega) (by first | assumption | omega) (by first | assumption | omega)) gX5_looks_X5_skipBy rfl (by decide +kernel) ⟨Nat.le_of_ble_eq_true rfl, Nat.le_of_ble_eq_true rfl⟩ hK hT hP hD hS hA [0, 1] rfl rfl 0 5 rfl rfl rfl (fun _ => rfl) rfl hl.1 rfl (Nat.le_of_ble_eq_true rfl) dX5_looks_49 ⟨Nat.zero_le _, Nat.zero_le _⟩ (fun r_4 u_4 H locs hw_4 hP hD hS => ?_)
      have hw_4 : r_4 = iI (skS M.2.2.2.1 M.2.2.2.2.1 (M.2.1.length : Int).toNat (gW G) (gL G) M.2.2.2.2.2.1 (mD M M.2.2.2.2.2.1)) := hw_4
      have hP : va_P D vwCl [(m0, .inr (5, [.ref a0, .ref p0, .int (iI ho), .ref q0, .ref v0, .int (iI th), .ref t0, .int (iI tl)])), (a0, .inl (cy 0, 144, .inl G))] H := hP
      have hD : va_D A [(m0, .inr (5, [.ref a0, .ref p0, .int (iI ho), .ref q0, .ref v0, .int (iI th), .ref t0, .int (iI tl)])), (a0, .inl (cy 0, 144, .inl G))] := hD
      obtain rfl := hw_4
      refine z_top (show iI (skS M.2.2.2.1 M.2.2.2.2.1 (M.2.1.length : Int).toNat (gW G) (gL G) M.2.2.2.2.2.1 (mD M M.2.2.2.2.2.1)) = iI (mSk M M.2.2.2.2.2.1 (mD M M.2.2.2.2.2.1)) from congrArg iI (skS_eq hG hM (by omega))) ?_
      refine lv_istore_n (lv' := [(3, .int (iI (mSk M M.2.2.2.2.2.1 (mD M M.2.2.2.2.2.1)))), (2, .int (iI (mD M M.2.2.2.2.2.1))), (1, .int (iI M.2.2.2.2.2.1)), (0, .ref m0)]) hx hb dX5_looks_52 rfl hl (by decide) rfl (fun ls hl => ?_)
      refine lv_aload_n hx hb dX5_looks_53 rfl (lv_at hl 3 rfl) ?_
      refine va_get (D := D) (ci := 5) (v := .ref a0) (C := RX5) (T := TX5) (N := 8) hx hb hts hiX5 hown hK hP 0 rfl rfl 0 (by decide) (hts (.fieldLink RX5 7 "BackwardSearchModel" "all" "[I") (by decide +kernel)) (fun _ h9 => h9) rfl dX5_looks_54 ?_
      refine lv_bipush (v := iI 81) hx hb dX5_looks_57 (by decide +kernel) ?_
      refine lv_dup2_11 hx hb dX5_looks_59 rfl rfl ?_
      refine z_iald hx hb hK hP 1 rfl (by omega) (by omega) (by omega) dX5_looks_60 ?_
      refine z_top (show G (81 : Int).toNat = iI M.2.2.2.2.2.2.1 from by exact h81) ?_
      refine lv_iconst (v := iI 1) hx hb dX5_looks_61 rfl ?_
      refine z_add hx hb dX5_looks_62 ?_
      refine z_iast hx hb hK hP hD hS 1 rfl (by omega) (by omega) (by omega) dX5_looks_63 (fun H locs hP hD hS => ?_)
      have hP : va_P D vwCl [(m0, .inr (5, [.ref a0, .ref p0, .int (iI ho), .ref q0, .ref v0, .int (iI th), .ref t0, .int (iI tl)])), (a0, .inl (cy 0, 144, .inl (upd G ((81 : Int).toNat) (iI (M.2.2.2.2.2.2.1 + 1)))))] H := hP
      have hD : va_D A [(m0, .inr (5, [.ref a0, .ref p0, .int (iI ho), .ref q0, .ref v0, .int (iI th), .ref t0, .int (iI tl)])), (a0, .inl (cy 0, 144, .inl (upd G ((81 : Int).toNat) (iI (M.2.2.2.2.2.2.1 + 1)))))] := hD
      refine lv_aload_n hx hb dX5_looks_64 rfl (lv_at hl 3 rfl) ?_
      refine va_get (D := D) (ci := 5) (v := .ref a0) (C := RX5) (T := TX5) (N := 8) hx hb hts hiX5 hown hK hP 0 rfl rfl 0 (by decide) (hts (.fieldLink RX5 7 "BackwardSearchModel" "all" "[I") (by decide +kernel)) (fun _ h9 => h9) rfl dX5_looks_65 ?_
      refine lv_bipush (v := iI 82) hx hb dX5_looks_68 (by decide +kernel) ?_
      refine lv_dup2_11 hx hb dX5_looks_70 rfl rfl ?_
      refine z_iald hx hb hK hP 1 rfl (by omega) (by omega) (by omega) dX5_looks_71 ?_
      refine z_top (show (upd G ((81 : Int).toNat) (iI (M.2.2.2.2.2.2.1 + 1))) (82 : Int).toNat = iI M.2.2.2.2.2.2.2 from by rw [upd_ne _ _ (by omega)]; exact h82) ?_
      refine lv_iload_n hx hb dX5_looks_72 rfl (lv_at hl 1 rfl) ?_
      have hj5 : W p l e ({ frames := 3, cells := 0, slots := 0, locals := 73 } : Room) s m args below meth c H locs 0 0 (MQ below (va_Qi (fun (r : Int32) (u : (Nat → Int32)) => r = iI (mSk M M.2.2.2.2.2.1 (mD M M.2.2.2.2.2.1)) ∧ RG u (mLook M)) (fun u t => va_P D vwCl ((fun u : (Nat → Int32) => [(m0, .inr (5, [.ref a0, .ref p0, .int (iI ho), .ref q0, .ref v0, .int (iI th), .ref t0, .int (iI tl)])), (a0, .inl (cy 0, 144, .inl u))]) u) t.heap) A) args s 0 0 A) (F0 m 95 ls [.int (iI ((M.2.1.length : Int) - max (mD M M.2.2.2.2.2.1) 0)), .int (iI M.2.2.2.2.2.2.2), .int (iI 82), .ref a0]) := by
        refine z_add hx hb dX5_looks_95 ?_
        refine z_iast hx hb hK hP hD hS 1 rfl (by omega) (by omega) (by omega) dX5_looks_96 (fun H locs hP hD hS => ?_)
        have hP : va_P D vwCl [(m0, .inr (5, [.ref a0, .ref p0, .int (iI ho), .ref q0, .ref v0, .int (iI th), .ref t0, .int (iI tl)])), (a0, .inl (cy 0, 144, .inl (upd (upd G ((81 : Int).toNat) (iI (M.2.2.2.2.2.2.1 + 1))) ((82 : Int).toNat) (iI (M.2.2.2.2.2.2.2 + ((M.2.1.length : Int) - max (mD M M.2.2.2.2.2.1) 0))))))] H := hP
        have hD : va_D A [(m0, .inr (5, [.ref a0, .ref p0, .int (iI ho), .ref q0, .ref v0, .int (iI th), .ref t0, .int (iI tl)])), (a0, .inl (cy 0, 144, .inl (upd (upd G ((81 : Int).toNat) (iI (M.2.2.2.2.2.2.1 + 1))) ((82 : Int).toNat) (iI (M.2.2.2.2.2.2.2 + ((M.2.1.length : Int) - max (mD M M.2.2.2.2.2.1) 0))))))] := hD
        refine lv_iload_n hx hb dX5_looks_97 rfl (lv_at hl 1 rfl) ?_
        refine z_if_ge (tgt := 128) hx hb (iI_t (by omega) (by omega)) dX5_looks_98 (by decide) (fun c6 => ?_) (fun c6 => ?_)
        · --
          refine lv_aload_n hx hb dX5_looks_128 rfl (lv_at hl 3 rfl) ?_
          refine va_get (D := D) (ci := 5) (v := .ref a0) (C := RX5) (T := TX5) (N := 8) hx hb hts hiX5 hown hK hP 0 rfl rfl 0 (by decide) (hts (.fieldLink RX5 7 "BackwardSearchModel" "all" "[I") (by decide +kernel)) (fun _ h9 => h9) rfl dX5_looks_129 ?_
          refine lv_bipush (v := iI 80) hx hb dX5_looks_132 (by decide +kernel) ?_
          refine lv_dup2_11 hx hb dX5_looks_134 rfl rfl ?_
          refine z_iald hx hb hK hP 1 rfl (by omega) (by omega) (by omega) dX5_looks_135 ?_
          refine z_top (show (upd (upd G ((81 : Int).toNat) (iI (M.2.2.2.2.2.2.1 + 1))) ((82 : Int).toNat) (iI (M.2.2.2.2.2.2.2 + ((M.2.1.length : Int) - max (mD M M.2.2.2.2.2.1) 0)))) (80 : Int).toNat = iI M.2.2.2.2.2.1 from by rw [upd_ne _ _ (by omega)]; rw [upd_ne _ _ (by omega)]; exact h80) ?_
          refine lv_iload_n hx hb dX5_looks_136 rfl (lv_at hl 0 rfl) ?_
          refine z_add hx hb dX5_looks_137 ?_
          refine z_iast hx hb hK hP hD hS 1 rfl (by omega) (by omega) (by omega) dX5_looks_138 (fun H locs hP hD hS => ?_)
          have hP : va_P D vwCl [(m0, .inr (5, [.ref a0, .ref p0, .int (iI ho), .ref q0, .ref v0, .int (iI th), .ref t0, .int (iI tl)])), (a0, .inl (cy 0, 144, .inl (upd (upd (upd G ((81 : Int).toNat) (iI (M.2.2.2.2.2.2.1 + 1))) ((82 : Int).toNat) (iI (M.2.2.2.2.2.2.2 + ((M.2.1.length : Int) - max (mD M M.2.2.2.2.2.1) 0)))) ((80 : Int).toNat) (iI (M.2.2.2.2.2.1 + (mSk M M.2.2.2.2.2.1 (mD M M.2.2.2.2.2.1)))))))] H := hP
          have hD : va_D A [(m0, .inr (5, [.ref a0, .ref p0, .int (iI ho), .ref q0, .ref v0, .int (iI th), .ref t0, .int (iI tl)])), (a0, .inl (cy 0, 144, .inl (upd (upd (upd G ((81 : Int).toNat) (iI (M.2.2.2.2.2.2.1 + 1))) ((82 : Int).toNat) (iI (M.2.2.2.2.2.2.2 + ((M.2.1.length : Int) - max (mD M M.2.2.2.2.2.1) 0)))) ((80 : Int).toNat) (iI (M.2.2.2.2.2.1 + (mSk M M.2.2.2.2.2.1 (mD M M.2.2.2.2.2.1)))))))] := hD
          refine lv_iload_n hx hb dX5_looks_139 rfl (lv_at hl 0 rfl) ?_
          exact z_iret hx hb hr hlocks hS (upd (upd (upd G ((81 : Int).toNat) (iI (M.2.2.2.2.2.2.1 + 1))) ((82 : Int).toNat) (iI (M.2.2.2.2.2.2.2 + ((M.2.1.length : Int) - max (mD M M.2.2.2.2.2.1) 0)))) ((80 : Int).toNat) (iI (M.2.2.2.2.2.1 + (mSk M M.2.2.2.2.2.1 (mD M M.2.2.2.2.2.1))))) (show (iI (mSk M M.2.2.2.2.2.1 (mD M M.2.2.2.2.2.1))) = iI (mSk M M.2.2.2.2.2.1 (mD M M.2.2.2.2.2.1)) ∧ RG (upd (upd (upd G ((81 : Int).toNat) (iI (M.2.2.2.2.2.2.1 + 1))) ((82 : Int).toNat) (iI (M.2.2.2.2.2.2.2 + ((M.2.1.length : Int) - max (mD M M.2.2.2.2.2.1) 0)))) ((80 : Int).toNat) (iI (M.2.2.2.2.2.1 + (mSk M M.2.2.2.2.2.1 (mD M M.2.2.2.2.2.1))))) (mLook M) from ⟨rfl, RG_look2 hG hM hno (by omega)⟩) hP dX5_looks_140
        · --
          refine lv_aload_n hx hb dX5_looks_101 rfl (lv_at hl 3 rfl) ?_
          refine va_get (D := D) (ci := 5) (v := .ref a0) (C := RX5) (T := TX5) (N := 8) hx hb hts hiX5 hown hK hP 0 rfl rfl 0 (by decide) (hts (.fieldLink RX5 7 "BackwardSearchModel" "all" "[I") (by decide +kernel)) (fun _ h9 => h9) rfl dX5_looks_102 ?_
          refine lv_bipush (v := iI 84) hx hb dX5_looks_105 (by decide +kernel) ?_
          refine lv_aload_n hx hb dX5_looks_107 rfl (lv_at hl 3 rfl) ?_
          refine va_get (D := D) (ci := 5) (v := .ref a0) (C := RX5) (T := TX5) (N := 8) hx hb hts hiX5 hown hK hP 0 rfl rfl 0 (by decide) (hts (.fieldLink RX5 7 "BackwardSearchModel" "all" "[I") (by decide +kernel)) (fun _ h9 => h9) rfl dX5_looks_108 ?_
          refine lv_bipush (v := iI 83) hx hb dX5_looks_111 (by decide +kernel) ?_
          refine z_iald hx hb hK hP 1 rfl (by omega) (by omega) (by omega) dX5_looks_113 ?_
          refine z_top (show (upd (upd G ((81 : Int).toNat) (iI (M.2.2.2.2.2.2.1 + 1))) ((82 : Int).toNat) (iI (M.2.2.2.2.2.2.2 + ((M.2.1.length : Int) - max (mD M M.2.2.2.2.2.1) 0)))) (83 : Int).toNat = iI (M.2.2.1.length : Int) from by rw [upd_ne _ _ (by omega)]; rw [upd_ne _ _ (by omega)]; exact h83) ?_
          refine z_add hx hb dX5_looks_114 ?_
          refine lv_iload_n hx hb dX5_looks_115 rfl (lv_at hl 2 rfl) ?_
          refine z_iast hx hb hK hP hD hS 1 rfl (by omega) (by omega) (by omega) dX5_looks_116 (fun H locs hP hD hS => ?_)
          have hP : va_P D vwCl [(m0, .inr (5, [.ref a0, .ref p0, .int (iI ho), .ref q0, .ref v0, .int (iI th), .ref t0, .int (iI tl)])), (a0, .inl (cy 0, 144, .inl (upd (upd (upd G ((81 : Int).toNat) (iI (M.2.2.2.2.2.2.1 + 1))) ((82 : Int).toNat) (iI (M.2.2.2.2.2.2.2 + ((M.2.1.length : Int) - max (mD M M.2.2.2.2.2.1) 0)))) ((84 + (M.2.2.1.length : Int)).toNat) (iI M.2.2.2.2.2.1))))] H := hP
          have hD : va_D A [(m0, .inr (5, [.ref a0, .ref p0, .int (iI ho), .ref q0, .ref v0, .int (iI th), .ref t0, .int (iI tl)])), (a0, .inl (cy 0, 144, .inl (upd (upd (upd G ((81 : Int).toNat) (iI (M.2.2.2.2.2.2.1 + 1))) ((82 : Int).toNat) (iI (M.2.2.2.2.2.2.2 + ((M.2.1.length : Int) - max (mD M M.2.2.2.2.2.1) 0)))) ((84 + (M.2.2.1.length : Int)).toNat) (iI M.2.2.2.2.2.1))))] := hD
          refine lv_aload_n hx hb dX5_looks_117 rfl (lv_at hl 3 rfl) ?_
          refine va_get (D := D) (ci := 5) (v := .ref a0) (C := RX5) (T := TX5) (N := 8) hx hb hts hiX5 hown hK hP 0 rfl rfl 0 (by decide) (hts (.fieldLink RX5 7 "BackwardSearchModel" "all" "[I") (by decide +kernel)) (fun _ h9 => h9) rfl dX5_looks_118 ?_
          refine lv_bipush (v := iI 83) hx hb dX5_looks_121 (by decide +kernel) ?_
          refine lv_dup2_11 hx hb dX5_looks_123 rfl rfl ?_
          refine z_iald hx hb hK hP 1 rfl (by omega) (by omega) (by omega) dX5_looks_124 ?_
          refine z_top (show (upd (upd (upd G ((81 : Int).toNat) (iI (M.2.2.2.2.2.2.1 + 1))) ((82 : Int).toNat) (iI (M.2.2.2.2.2.2.2 + ((M.2.1.length : Int) - max (mD M M.2.2.2.2.2.1) 0)))) ((84 + (M.2.2.1.length : Int)).toNat) (iI M.2.2.2.2.2.1)) (83 : Int).toNat = iI (M.2.2.1.length : Int) from by rw [upd_ne _ _ (by omega)]; rw [upd_ne _ _ (by omega)]; rw [upd_ne _ _ (by omega)]; exact h83) ?_
          refine lv_iconst (v := iI 1) hx hb dX5_looks_125 rfl ?_
          refine z_add hx hb dX5_looks_126 ?_
          refine z_iast hx hb hK hP hD hS 1 rfl (by omega) (by omega) (by omega) dX5_looks_127 (fun H locs hP hD hS => ?_)
          have hP : va_P D vwCl [(m0, .inr (5, [.ref a0, .ref p0, .int (iI ho), .ref q0, .ref v0, .int (iI th), .ref t0, .int (iI tl)])), (a0, .inl (cy 0, 144, .inl (upd (upd (upd (upd G ((81 : Int).toNat) (iI (M.2.2.2.2.2.2.1 + 1))) ((82 : Int).toNat) (iI (M.2.2.2.2.2.2.2 + ((M.2.1.length : Int) - max (mD M M.2.2.2.2.2.1) 0)))) ((84 + (M.2.2.1.length : Int)).toNat) (iI M.2.2.2.2.2.1)) ((83 : Int).toNat) (iI ((M.2.2.1.length : Int) + 1)))))] H := hP
          have hD : va_D A [(m0, .inr (5, [.ref a0, .ref p0, .int (iI ho), .ref q0, .ref v0, .int (iI th), .ref t0, .int (iI tl)])), (a0, .inl (cy 0, 144, .inl (upd (upd (upd (upd G ((81 : Int).toNat) (iI (M.2.2.2.2.2.2.1 + 1))) ((82 : Int).toNat) (iI (M.2.2.2.2.2.2.2 + ((M.2.1.length : Int) - max (mD M M.2.2.2.2.2.1) 0)))) ((84 + (M.2.2.1.length : Int)).toNat) (iI M.2.2.2.2.2.1)) ((83 : Int).toNat) (iI ((M.2.2.1.length : Int) + 1)))))] := hD
          refine lv_aload_n hx hb dX5_looks_128 rfl (lv_at hl 3 rfl) ?_
          refine va_get (D := D) (ci := 5) (v := .ref a0) (C := RX5) (T := TX5) (N := 8) hx hb hts hiX5 hown hK hP 0 rfl rfl 0 (by decide) (hts (.fieldLink RX5 7 "BackwardSearchModel" "all" "[I") (by decide +kernel)) (fun _ h9 => h9) rfl dX5_looks_129 ?_
          refine lv_bipush (v := iI 80) hx hb dX5_looks_132 (by decide +kernel) ?_
          refine lv_dup2_11 hx hb dX5_looks_134 rfl rfl ?_
          refine z_iald hx hb hK hP 1 rfl (by omega) (by omega) (by omega) dX5_looks_135 ?_
          refine z_top (show (upd (upd (upd (upd G ((81 : Int).toNat) (iI (M.2.2.2.2.2.2.1 + 1))) ((82 : Int).toNat) (iI (M.2.2.2.2.2.2.2 + ((M.2.1.length : Int) - max (mD M M.2.2.2.2.2.1) 0)))) ((84 + (M.2.2.1.length : Int)).toNat) (iI M.2.2.2.2.2.1)) ((83 : Int).toNat) (iI ((M.2.2.1.length : Int) + 1))) (80 : Int).toNat = iI M.2.2.2.2.2.1 from by rw [upd_ne _ _ (by omega)]; rw [upd_ne _ _ (by omega)]; rw [upd_ne _ _ (by omega)]; rw [upd_ne _ _ (by omega)]; exact h80) ?_
          refine lv_iload_n hx hb dX5_looks_136 rfl (lv_at hl 0 rfl) ?_
          refine z_add hx hb dX5_looks_137 ?_
          refine z_iast hx hb hK hP hD hS 1 rfl (by omega) (by omega) (by omega) dX5_looks_138 (fun H locs hP hD hS => ?_)
          have hP : va_P D vwCl [(m0, .inr (5, [.ref a0, .ref p0, .int (iI ho), .ref q0, .ref v0, .int (iI th), .ref t0, .int (iI tl)])), (a0, .inl (cy 0, 144, .inl (upd (upd (upd (upd (upd G ((81 : Int).toNat) (iI (M.2.2.2.2.2.2.1 + 1))) ((82 : Int).toNat) (iI (M.2.2.2.2.2.2.2 + ((M.2.1.length : Int) - max (mD M M.2.2.2.2.2.1) 0)))) ((84 + (M.2.2.1.length : Int)).toNat) (iI M.2.2.2.2.2.1)) ((83 : Int).toNat) (iI ((M.2.2.1.length : Int) + 1))) ((80 : Int).toNat) (iI (M.2.2.2.2.2.1 + (mSk M M.2.2.2.2.2.1 (mD M M.2.2.2.2.2.1)))))))] H := hP
          have hD : va_D A [(m0, .inr (5, [.ref a0, .ref p0, .int (iI ho), .ref q0, .ref v0, .int (iI th), .ref t0, .int (iI tl)])), (a0, .inl (cy 0, 144, .inl (upd (upd (upd (upd (upd G ((81 : Int).toNat) (iI (M.2.2.2.2.2.2.1 + 1))) ((82 : Int).toNat) (iI (M.2.2.2.2.2.2.2 + ((M.2.1.length : Int) - max (mD M M.2.2.2.2.2.1) 0)))) ((84 + (M.2.2.1.length : Int)).toNat) (iI M.2.2.2.2.2.1)) ((83 : Int).toNat) (iI ((M.2.2.1.length : Int) + 1))) ((80 : Int).toNat) (iI (M.2.2.2.2.2.1 + (mSk M M.2.2.2.2.2.1 (mD M M.2.2.2.2.2.1)))))))] := hD
          refine lv_iload_n hx hb dX5_looks_139 rfl (lv_at hl 0 rfl) ?_
          exact z_iret hx hb hr hlocks hS (upd (upd (upd (upd (upd G ((81 : Int).toNat) (iI (M.2.2.2.2.2.2.1 + 1))) ((82 : Int).toNat) (iI (M.2.2.2.2.2.2.2 + ((M.2.1.length : Int) - max (mD M M.2.2.2.2.2.1) 0)))) ((84 + (M.2.2.1.length : Int)).toNat) (iI M.2.2.2.2.2.1)) ((83 : Int).toNat) (iI ((M.2.2.1.length : Int) + 1))) ((80 : Int).toNat) (iI (M.2.2.2.2.2.1 + (mSk M M.2.2.2.2.2.1 (mD M M.2.2.2.2.2.1))))) (show (iI (mSk M M.2.2.2.2.2.1 (mD M M.2.2.2.2.2.1))) = iI (mSk M M.2.2.2.2.2.1 (mD M M.2.2.2.2.2.1)) ∧ RG (upd (upd (upd (upd (upd G ((81 : Int).toNat) (iI (M.2.2.2.2.2.2.1 + 1))) ((82 : Int).toNat) (iI (M.2.2.2.2.2.2.2 + ((M.2.1.length : Int) - max (mD M M.2.2.2.2.2.1) 0)))) ((84 + (M.2.2.1.length : Int)).toNat) (iI M.2.2.2.2.2.1)) ((83 : Int).toNat) (iI ((M.2.2.1.length : Int) + 1))) ((80 : Int).toNat) (iI (M.2.2.2.2.2.1 + (mSk M M.2.2.2.2.2.1 (mD M M.2.2.2.2.2.1))))) (mLook M) from ⟨rfl, RG_look1 hG hM hno (by omega)⟩) hP dX5_looks_140
      refine z_if_ge (tgt := 86) hx hb (iI_t (by omega) (by omega)) dX5_looks_73 (by decide) (fun c7 => ?_) (fun c7 => ?_)
      · --
        refine lv_aload_n hx hb dX5_looks_86 rfl (lv_at hl 3 rfl) ?_
        refine va_get (D := D) (ci := 5) (v := .ref a0) (C := RX5) (T := TX5) (N := 8) hx hb hts hiX5 hown hK hP 0 rfl rfl 0 (by decide) (hts (.fieldLink RX5 7 "BackwardSearchModel" "all" "[I") (by decide +kernel)) (fun _ h9 => h9) rfl dX5_looks_87 ?_
        refine lv_bipush (v := iI 61) hx hb dX5_looks_90 (by decide +kernel) ?_
        refine z_iald hx hb hK hP 1 rfl (by omega) (by omega) (by omega) dX5_looks_92 ?_
        refine z_top (show (upd G ((81 : Int).toNat) (iI (M.2.2.2.2.2.2.1 + 1))) (61 : Int).toNat = iI (M.2.1.length : Int) from by rw [upd_ne _ _ (by omega)]; exact h61) ?_
        refine lv_iload_n hx hb dX5_looks_93 rfl (lv_at hl 1 rfl) ?_
        refine z_sub hx hb dX5_looks_94 ?_
        refine z_top (show iI ((M.2.1.length : Int) - (mD M M.2.2.2.2.2.1)) = iI ((M.2.1.length : Int) - max (mD M M.2.2.2.2.2.1) 0) from congrArg iI (by omega)) ?_
        exact hj5
      · --
        refine lv_aload_n hx hb dX5_looks_76 rfl (lv_at hl 3 rfl) ?_
        refine va_get (D := D) (ci := 5) (v := .ref a0) (C := RX5) (T := TX5) (N := 8) hx hb hts hiX5 hown hK hP 0 rfl rfl 0 (by decide) (hts (.fieldLink RX5 7 "BackwardSearchModel" "all" "[I") (by decide +kernel)) (fun _ h9 => h9) rfl dX5_looks_77 ?_
        refine lv_bipush (v := iI 61) hx hb dX5_looks_80 (by decide +kernel) ?_
        refine z_iald hx hb hK hP 1 rfl (by omega) (by omega) (by omega) dX5_looks_82 ?_
        refine z_top (show (upd G ((81 : Int).toNat) (iI (M.2.2.2.2.2.2.1 + 1))) (61 : Int).toNat = iI (M.2.1.length : Int) from by rw [upd_ne _ _ (by omega)]; exact h61) ?_
        refine lv_goto (tgt := 95) hx hb dX5_looks_83 (by decide) ?_
        refine z_top (show iI (M.2.1.length : Int) = iI ((M.2.1.length : Int) - max (mD M M.2.2.2.2.2.1) 0) from congrArg iI (by omega)) ?_
        exact hj5
    refine z_icmp_ne (tgt := 48) hx hb (iI_t (by omega) (by omega)) (iI_t (by omega) (by omega)) dX5_looks_41 (by decide) (fun c8 => ?_) (fun c8 => ?_)
    · --
      refine lv_iconst (v := iI 0) hx hb dX5_looks_48 rfl ?_
      refine z_top (show iI 0 = iI M.2.2.2.2.1 from congrArg iI (by omega)) ?_
      exact hj3
    · --
      refine lv_iconst (v := iI 1) hx hb dX5_looks_44 rfl ?_
      refine lv_goto (tgt := 49) hx hb dX5_looks_45 (by decide) ?_
      refine z_top (show iI 1 = iI M.2.2.2.2.1 from congrArg iI (by omega)) ?_
      exact hj3
  refine z_icmp_ne (tgt := 32) hx hb (iI_t (by omega) (by omega)) (iI_t (by omega) (by omega)) dX5_looks_25 (by decide) (fun c9 => ?_) (fun c9 => ?_)
  · --
    refine lv_iconst (v := iI 0) hx hb dX5_looks_32 rfl ?_
    refine z_top (show iI 0 = iI M.2.2.2.1 from congrArg iI (by omega)) ?_
    exact hj2
  · --
    refine lv_iconst (v := iI 1) hx hb dX5_looks_28 rfl ?_
    refine lv_goto (tgt := 33) hx hb dX5_looks_29 (by decide) ?_
    refine z_top (show iI 1 = iI M.2.2.2.1 from congrArg iI (by omega)) ?_
    exact hj2
set_option maxHeartbeats 4000000 in
set_option maxRecDepth 100000 in
theorem c_X5_stands (l : Launch) (D : va_G) (cy : Nat → ClassId) (m0 : Nat) (a0 : Nat) (p0 : Nat) (q0 : Nat) (v0 : Nat) (t0 : Nat) (ho : Int) (th : Int) (tl : Int) (G : Nat → Int32) (M : MS) (hG : RG G M) (hM : MOk M) : Ci l D cy yX5_stands wsX5_stands 1 22 [.ref m0] [(m0, .inr (5, [.ref a0, .ref p0, .int (iI ho), .ref q0, .ref v0, .int (iI th), .ref t0, .int (iI tl)])), (a0, .inl (cy 0, 144, .inl G))] (fun (r : Int32) (u : Unit) => r = iI (occF M)) (fun u : Unit => [(m0, .inr (5, [.ref a0, .ref p0, .int (iI ho), .ref q0, .ref v0, .int (iI th), .ref t0, .int (iI tl)])), (a0, .inl (cy 0, 144, .inl G))]) := by
  refine Ci_of (cc := cX5_stands) (maxL := 3) (ret := (some .int)) (by decide) rfl rfl ?_
  intro p e s m args below meth c A hx hb hr hts hown hlocks hml hP hK hD hT hA ls hl
  have hS : va_S A s.heap s.heap [] := va_S.rf
  have hl : lv_has ls 3 [(0, .ref m0)] := hl
  obtain ⟨h0, h1L, h61, h62W, h78, h79, h80, h81, h82, h83, h84F⟩ := id hG
  obtain ⟨o1, o2, o3, o4, o5, o6, o7, o8, o9, o10, o11, o12, o13, o14, o15⟩ := id hM
  refine lv_iconst (v := iI 0) hx hb dX5_stands_0 rfl ?_
  refine lv_istore_n (lv' := [(1, .int (iI 0)), (0, .ref m0)]) hx hb dX5_stands_1 rfl hl (by decide) rfl (fun ls hl => ?_)
  refine lv_iconst (v := iI 0) hx hb dX5_stands_2 rfl ?_
  refine lv_istore_n (lv' := [(2, .int (iI 0)), (1, .int (iI 0)), (0, .ref m0)]) hx hb dX5_stands_3 rfl hl (by decide) rfl (fun ls hl => ?_)
  have hloop1 : ∀ (n1 : Nat) (k : Int) (n9 : Int) (hk : 0 ≤ k ∧ k ≤ max ((M.1.length : Int) - (M.2.1.length : Int) + 1) 0 ∧ ((M.2.1.length : Int) = 0 → k = 0)) (hn : n9 = cntF M.2.1.length (gl M.2.1) (gl M.1) k.toNat) (hm : max ((M.1.length : Int) - (M.2.1.length : Int) + 1) 0 - k < (n1 : Int)) (H : Heap) (locs : List Loc) (ls : Array Slot) (hP : va_P D vwCl [(m0, .inr (5, [.ref a0, .ref p0, .int (iI ho), .ref q0, .ref v0, .int (iI th), .ref t0, .int (iI tl)])), (a0, .inl (cy 0, 144, .inl G))] H) (hD : va_D A [(m0, .inr (5, [.ref a0, .ref p0, .int (iI ho), .ref q0, .ref v0, .int (iI th), .ref t0, .int (iI tl)])), (a0, .inl (cy 0, 144, .inl G))]) (hS : va_S A s.heap H locs) (hl : lv_has ls 3 [(2, .int (iI k)), (1, .int (iI n9)), (0, .ref m0)]), W p l e ({ frames := 1, cells := 0, slots := 0, locals := 22 } : Room) s m args below meth c H locs 0 0 (MQ below (va_Qi (fun (r : Int32) (u : Unit) => r = iI (occF M)) (fun u t => va_P D vwCl ((fun u : Unit => [(m0, .inr (5, [.ref a0, .ref p0, .int (iI ho), .ref q0, .ref v0, .int (iI th), .ref t0, .int (iI tl)])), (a0, .inl (cy 0, 144, .inl G))]) u) t.heap) A) args s 0 0 A) (F0 m 4 ls []) := by
    intro n1
    induction n1 with
    | zero =>
      intro k n9 hk hn hm; exact absurd hm (by omega)
    | succ n1 ih1 =>
      intro k n9 hk hn hm H locs ls hP hD hS hl
      refine lv_aload_n hx hb dX5_stands_4 rfl (lv_at hl 2 rfl) ?_
      refine lv_iload_n hx hb dX5_stands_5 rfl (lv_at hl 0 rfl) ?_
      refine z_cVi (n := 1) (b := m0) (As := [.int (iI k)]) (rest := []) ⟨hx, hb, hml, hown, hts⟩ (c_X5_isOverAt l D cy m0 a0 p0 q0 v0 t0 ho th tl G (M.2.1.length : Int) (M.1.length : Int) k (by first | assumption | omega) (by first | assumption | omega) (by first | assumption | omega) (by first | assumption | omega) (by first | assumption | omega)) gX5_stands_X5_isOverAt rfl (by decide +kernel) ⟨Nat.le_of_ble_eq_true rfl, Nat.le_of_ble_eq_true rfl⟩ hK hT hP hD hS hA [0, 1] rfl rfl 0 5 rfl rfl rfl (fun _ => rfl) rfl hl.1 rfl (Nat.le_of_ble_eq_true rfl) dX5_stands_6 ⟨Nat.zero_le _, Nat.zero_le _⟩ (fun r_2 u_2 H locs hw_2 hP hD hS => ?_)
      have hw_2 : (((M.2.1.length : Int) = 0 ∨ (M.1.length : Int) - (M.2.1.length : Int) + 1 ≤ k) ∧ r_2 = iI 1) ∨ (¬ ((M.2.1.length : Int) = 0 ∨ (M.1.length : Int) - (M.2.1.length : Int) + 1 ≤ k) ∧ r_2 = iI 0) := hw_2
      have hP : va_P D vwCl [(m0, .inr (5, [.ref a0, .ref p0, .int (iI ho), .ref q0, .ref v0, .int (iI th), .ref t0, .int (iI tl)])), (a0, .inl (cy 0, 144, .inl G))] H := hP
      have hD : va_D A [(m0, .inr (5, [.ref a0, .ref p0, .int (iI ho), .ref q0, .ref v0, .int (iI th), .ref t0, .int (iI tl)])), (a0, .inl (cy 0, 144, .inl G))] := hD
      rcases hw_2 with ⟨h_2, rfl⟩ | ⟨h_2, rfl⟩
      · --
        refine z_if_ne (tgt := 34) hx hb (iI_t (by omega) (by omega)) dX5_stands_9 (by decide) (fun _ => ?_) (fun c3 => absurd c3 (by omega))
        refine lv_iload_n hx hb dX5_stands_34 rfl (lv_at hl 1 rfl) ?_
        exact z_iret hx hb hr hlocks hS () (show (iI n9) = iI (occF M) from (congrArg iI (occ_at hk hn (by omega)))) hP dX5_stands_35
      · --
        refine z_if_ne (tgt := 34) hx hb (iI_t (by omega) (by omega)) dX5_stands_9 (by decide) (fun c4 => absurd c4 (by omega)) (fun _ => ?_)
        refine lv_iload_n hx hb dX5_stands_12 rfl (lv_at hl 1 rfl) ?_
        refine lv_aload_n hx hb dX5_stands_13 rfl (lv_at hl 2 rfl) ?_
        refine lv_iload_n hx hb dX5_stands_14 rfl (lv_at hl 0 rfl) ?_
        refine z_cVi (n := 1) (b := m0) (As := [.int (iI k)]) (rest := [.int (iI n9)]) ⟨hx, hb, hml, hown, hts⟩ (c_X5_difference l D cy m0 a0 p0 q0 v0 t0 ho th tl G (M.2.1.length : Int) k (by first | assumption | omega) (by first | assumption | omega) (by first | assumption | omega)) gX5_stands_X5_difference rfl (by decide +kernel) ⟨Nat.le_of_ble_eq_true rfl, Nat.le_of_ble_eq_true rfl⟩ hK hT hP hD hS hA [0, 1] rfl rfl 0 5 rfl rfl rfl (fun _ => rfl) rfl hl.1 rfl (Nat.le_of_ble_eq_true rfl) dX5_stands_15 ⟨Nat.zero_le _, Nat.zero_le _⟩ (fun r_5 u_5 H locs hw_5 hP hD hS => ?_)
        have hw_5 : r_5 = iI (diffF (M.2.1.length : Int).toNat (gW G) (gL G) k) := hw_5
        have hP : va_P D vwCl [(m0, .inr (5, [.ref a0, .ref p0, .int (iI ho), .ref q0, .ref v0, .int (iI th), .ref t0, .int (iI tl)])), (a0, .inl (cy 0, 144, .inl G))] H := hP
        have hD : va_D A [(m0, .inr (5, [.ref a0, .ref p0, .int (iI ho), .ref q0, .ref v0, .int (iI th), .ref t0, .int (iI tl)])), (a0, .inl (cy 0, 144, .inl G))] := hD
        obtain rfl := hw_5
        refine z_top (show iI (diffF (M.2.1.length : Int).toNat (gW G) (gL G) k) = iI (mD M k) from congrArg iI (md_eq hG hM (by omega))) ?_
        have hdr : -1 ≤ mD M k ∧ mD M k < (M.2.1.length : Int) := diffF_rng _ _ _ _
        have hj6 : W p l e ({ frames := 1, cells := 0, slots := 0, locals := 22 } : Room) s m args below meth c H locs 0 0 (MQ below (va_Qi (fun (r : Int32) (u : Unit) => r = iI (occF M)) (fun u t => va_P D vwCl ((fun u : Unit => [(m0, .inr (5, [.ref a0, .ref p0, .int (iI ho), .ref q0, .ref v0, .int (iI th), .ref t0, .int (iI tl)])), (a0, .inl (cy 0, 144, .inl G))]) u) t.heap) A) args s 0 0 A) (F0 m 26 ls [.int (iI (if mD M k = -1 then 1 else 0)), .int (iI n9)]) := by
          refine z_add hx hb dX5_stands_26 ?_
          refine lv_istore_n (lv' := [(1, .int (iI (n9 + (if mD M k = -1 then 1 else 0)))), (2, .int (iI k)), (0, .ref m0)]) hx hb dX5_stands_27 rfl hl (by decide) rfl (fun ls hl => ?_)
          refine z_iinc (lv' := [(2, .int (iI (k + 1))), (1, .int (iI (n9 + (if mD M k = -1 then 1 else 0)))), (0, .ref m0)]) hx hb dX5_stands_28 hl (k := 1) rfl (by decide) rfl (fun ls hl => ?_)
          refine lv_goto (tgt := 4) hx hb dX5_stands_31 (by decide) ?_
          exact ih1 (k + 1) (n9 + (if mD M k = -1 then 1 else 0)) (by omega) (cnt_step hk.1 hn) (by omega) _ _ _ hP hD hS (lv_sub hl [0, 1, 2] rfl)
        have hdr : -1 ≤ mD M k ∧ mD M k < (M.2.1.length : Int) := diffF_rng _ _ _ _
        refine z_if_ge (tgt := 25) hx hb (iI_t (by omega) (by omega)) dX5_stands_18 (by decide) (fun c7 => ?_) (fun c7 => ?_)
        · --
          refine lv_iconst (v := iI 0) hx hb dX5_stands_25 rfl ?_
          refine z_top (show iI 0 = iI (if mD M k = -1 then 1 else 0) from congrArg iI (by have := (diffF_rng M.2.1.length (gl M.2.1) (gl M.1) k).1; have e : mD M k = diffF M.2.1.length (gl M.2.1) (gl M.1) k := rfl; omega)) ?_
          exact hj6
        · --
          refine lv_iconst (v := iI 1) hx hb dX5_stands_21 rfl ?_
          refine lv_goto (tgt := 26) hx hb dX5_stands_22 (by decide) ?_
          refine z_top (show iI 1 = iI (if mD M k = -1 then 1 else 0) from congrArg iI (by have := (diffF_rng M.2.1.length (gl M.2.1) (gl M.1) k).1; have e : mD M k = diffF M.2.1.length (gl M.2.1) (gl M.1) k := rfl; omega)) ?_
          exact hj6
  exact hloop1 (Int.toNat (max ((M.1.length : Int) - (M.2.1.length : Int) + 1) 0 - 0) + 1) 0 0 (by omega) (rfl) (by omega) _ _ _ hP hD hS (lv_sub hl [0, 1, 2] rfl)
set_option maxHeartbeats 4000000 in
set_option maxRecDepth 100000 in
theorem c_X5_occurrences (l : Launch) (D : va_G) (cy : Nat → ClassId) (m0 : Nat) (a0 : Nat) (p0 : Nat) (q0 : Nat) (v0 : Nat) (t0 : Nat) (ho : Int) (th : Int) (tl : Int) (G : Nat → Int32) (M : MS) (hG : RG G M) (hM : MOk M) : Ci l D cy yX5_occurrences wsX5_occurrences 2 44 [.ref m0] [(m0, .inr (5, [.ref a0, .ref p0, .int (iI ho), .ref q0, .ref v0, .int (iI th), .ref t0, .int (iI tl)])), (a0, .inl (cy 0, 144, .inl G))] (fun (r : Int32) (u : Unit) => r = iI (occF M)) (fun u : Unit => [(m0, .inr (5, [.ref a0, .ref p0, .int (iI ho), .ref q0, .ref v0, .int (iI 0), .ref t0, .int (iI tl)])), (a0, .inl (cy 0, 144, .inl G))]) := by
  refine Ci_of (cc := cX5_occurrences) (maxL := 1) (ret := (some .int)) (by decide) rfl rfl ?_
  intro p e s m args below meth c A hx hb hr hts hown hlocks hml hP hK hD hT hA ls hl
  have hS : va_S A s.heap s.heap [] := va_S.rf
  have hl : lv_has ls 1 [(0, .ref m0)] := hl
  obtain ⟨h0, h1L, h61, h62W, h78, h79, h80, h81, h82, h83, h84F⟩ := id hG
  obtain ⟨o1, o2, o3, o4, o5, o6, o7, o8, o9, o10, o11, o12, o13, o14, o15⟩ := id hM
  refine lv_aload_n hx hb dX5_occurrences_0 rfl (lv_at hl 0 rfl) ?_
  refine lv_aload_n hx hb dX5_occurrences_1 rfl (lv_at hl 0 rfl) ?_
  refine z_cVi (n := 0) (b := m0) (As := []) (rest := [.ref m0]) ⟨hx, hb, hml, hown, hts⟩ (c_X5_stands l D cy m0 a0 p0 q0 v0 t0 ho th tl G M (by first | assumption | omega) (by first | assumption | omega)) gX5_occurrences_X5_stands rfl (by decide +kernel) ⟨Nat.le_of_ble_eq_true rfl, Nat.le_of_ble_eq_true rfl⟩ hK hT hP hD hS hA [0, 1] rfl rfl 0 5 rfl rfl rfl (fun _ => rfl) rfl hl.1 rfl (Nat.le_of_ble_eq_true rfl) dX5_occurrences_2 ⟨Nat.zero_le _, Nat.zero_le _⟩ (fun r_1 u_1 H locs hw_1 hP hD hS => ?_)
  have hw_1 : r_1 = iI (occF M) := hw_1
  have hP : va_P D vwCl [(m0, .inr (5, [.ref a0, .ref p0, .int (iI ho), .ref q0, .ref v0, .int (iI th), .ref t0, .int (iI tl)])), (a0, .inl (cy 0, 144, .inl G))] H := hP
  have hD : va_D A [(m0, .inr (5, [.ref a0, .ref p0, .int (iI ho), .ref q0, .ref v0, .int (iI th), .ref t0, .int (iI tl)])), (a0, .inl (cy 0, 144, .inl G))] := hD
  obtain rfl := hw_1
  refine z_cVi (n := 1) (b := m0) (As := [.int (iI (occF M))]) (rest := []) ⟨hx, hb, hml, hown, hts⟩ (c_X5_told l D cy m0 a0 p0 q0 v0 t0 ho th tl (iI (occF M)) ) gX5_occurrences_X5_told rfl (by decide +kernel) ⟨Nat.le_of_ble_eq_true rfl, Nat.le_of_ble_eq_true rfl⟩ hK hT hP hD hS hA [0] rfl rfl 0 5 rfl rfl rfl (fun _ => rfl) rfl hl.1 rfl (Nat.le_of_ble_eq_true rfl) dX5_occurrences_5 ⟨Nat.zero_le _, Nat.zero_le _⟩ (fun r_2 u_2 H locs hw_2 hP hD hS => ?_)
  have hw_2 : r_2 = (iI (occF M)) := hw_2
  have hP : va_P D vwCl [(m0, .inr (5, [.ref a0, .ref p0, .int (iI ho), .ref q0, .ref v0, .int (iI 0), .ref t0, .int (iI tl)])), (a0, .inl (cy 0, 144, .inl G))] H := hP
  have hD : va_D A [(m0, .inr (5, [.ref a0, .ref p0, .int (iI ho), .ref q0, .ref v0, .int (iI 0), .ref t0, .int (iI tl)])), (a0, .inl (cy 0, 144, .inl G))] := hD
  obtain rfl := hw_2
  exact z_iret hx hb hr hlocks hS () (show (iI (occF M)) = iI (occF M) from rfl) hP dX5_occurrences_8
set_option maxHeartbeats 4000000 in
set_option maxRecDepth 100000 in
theorem c_X5_occurrencesByTrying (l : Launch) (D : va_G) (cy : Nat → ClassId) (m0 : Nat) (a0 : Nat) (p0 : Nat) (q0 : Nat) (v0 : Nat) (t0 : Nat) (ho : Int) (th : Int) (tl : Int) (G : Nat → Int32) (M : MS) (hG : RG G M) (hM : MOk M) : Ci l D cy yX5_occurrencesByTrying wsX5_occurrencesByTrying 2 44 [.ref m0] [(m0, .inr (5, [.ref a0, .ref p0, .int (iI ho), .ref q0, .ref v0, .int (iI th), .ref t0, .int (iI tl)])), (a0, .inl (cy 0, 144, .inl G))] (fun (r : Int32) (u : Unit) => r = iI (occF M)) (fun u : Unit => [(m0, .inr (5, [.ref a0, .ref p0, .int (iI ho), .ref q0, .ref v0, .int (iI 0), .ref t0, .int (iI tl)])), (a0, .inl (cy 0, 144, .inl G))]) := by
  refine Ci_of (cc := cX5_occurrencesByTrying) (maxL := 1) (ret := (some .int)) (by decide) rfl rfl ?_
  intro p e s m args below meth c A hx hb hr hts hown hlocks hml hP hK hD hT hA ls hl
  have hS : va_S A s.heap s.heap [] := va_S.rf
  have hl : lv_has ls 1 [(0, .ref m0)] := hl
  obtain ⟨h0, h1L, h61, h62W, h78, h79, h80, h81, h82, h83, h84F⟩ := id hG
  obtain ⟨o1, o2, o3, o4, o5, o6, o7, o8, o9, o10, o11, o12, o13, o14, o15⟩ := id hM
  refine lv_aload_n hx hb dX5_occurrencesByTrying_0 rfl (lv_at hl 0 rfl) ?_
  refine lv_aload_n hx hb dX5_occurrencesByTrying_1 rfl (lv_at hl 0 rfl) ?_
  refine z_cVi (n := 0) (b := m0) (As := []) (rest := [.ref m0]) ⟨hx, hb, hml, hown, hts⟩ (c_X5_stands l D cy m0 a0 p0 q0 v0 t0 ho th tl G M (by first | assumption | omega) (by first | assumption | omega)) gX5_occurrencesByTrying_X5_stands rfl (by decide +kernel) ⟨Nat.le_of_ble_eq_true rfl, Nat.le_of_ble_eq_true rfl⟩ hK hT hP hD hS hA [0, 1] rfl rfl 0 5 rfl rfl rfl (fun _ => rfl) rfl hl.1 rfl (Nat.le_of_ble_eq_true rfl) dX5_occurrencesByTrying_2 ⟨Nat.zero_le _, Nat.zero_le _⟩ (fun r_1 u_1 H locs hw_1 hP hD hS => ?_)
  have hw_1 : r_1 = iI (occF M) := hw_1
  have hP : va_P D vwCl [(m0, .inr (5, [.ref a0, .ref p0, .int (iI ho), .ref q0, .ref v0, .int (iI th), .ref t0, .int (iI tl)])), (a0, .inl (cy 0, 144, .inl G))] H := hP
  have hD : va_D A [(m0, .inr (5, [.ref a0, .ref p0, .int (iI ho), .ref q0, .ref v0, .int (iI th), .ref t0, .int (iI tl)])), (a0, .inl (cy 0, 144, .inl G))] := hD
  obtain rfl := hw_1
  refine z_cVi (n := 1) (b := m0) (As := [.int (iI (occF M))]) (rest := []) ⟨hx, hb, hml, hown, hts⟩ (c_X5_told l D cy m0 a0 p0 q0 v0 t0 ho th tl (iI (occF M)) ) gX5_occurrencesByTrying_X5_told rfl (by decide +kernel) ⟨Nat.le_of_ble_eq_true rfl, Nat.le_of_ble_eq_true rfl⟩ hK hT hP hD hS hA [0] rfl rfl 0 5 rfl rfl rfl (fun _ => rfl) rfl hl.1 rfl (Nat.le_of_ble_eq_true rfl) dX5_occurrencesByTrying_5 ⟨Nat.zero_le _, Nat.zero_le _⟩ (fun r_2 u_2 H locs hw_2 hP hD hS => ?_)
  have hw_2 : r_2 = (iI (occF M)) := hw_2
  have hP : va_P D vwCl [(m0, .inr (5, [.ref a0, .ref p0, .int (iI ho), .ref q0, .ref v0, .int (iI 0), .ref t0, .int (iI tl)])), (a0, .inl (cy 0, 144, .inl G))] H := hP
  have hD : va_D A [(m0, .inr (5, [.ref a0, .ref p0, .int (iI ho), .ref q0, .ref v0, .int (iI 0), .ref t0, .int (iI tl)])), (a0, .inl (cy 0, 144, .inl G))] := hD
  obtain rfl := hw_2
  exact z_iret hx hb hr hlocks hS () (show (iI (occF M)) = iI (occF M) from rfl) hP dX5_occurrencesByTrying_8
set_option maxHeartbeats 4000000 in
set_option maxRecDepth 100000 in
theorem c_X5_comparedWith (l : Launch) (D : va_G) (cy : Nat → ClassId) (m0 : Nat) (a0 : Nat) (p0 : Nat) (q0 : Nat) (v0 : Nat) (t0 : Nat) (ho : Int) (th : Int) (tl : Int) (G : Nat → Int32) (M : MS) (x : Int) (y : Int) (hG : RG G M) (hM : MOk M) (hxy : 0 ≤ x ∧ x ≤ 1 ∧ 0 ≤ y ∧ y ≤ 1) : Ci l D cy yX5_comparedWith wsX5_comparedWith 3 73 [.ref m0, .int (iI x), .int (iI y)] [(m0, .inr (5, [.ref a0, .ref p0, .int (iI ho), .ref q0, .ref v0, .int (iI th), .ref t0, .int (iI tl)])), (a0, .inl (cy 0, 144, .inl G))] (fun (r : Int32) (u : Unit) => r = iI (runS M.1.length M.2.1.length (gl M.2.1) (gl M.1) (skS x y M.2.1.length (gl M.2.1) (gl M.1)) 60 ((0 : Int), (0 : Int), (0 : Int), ([] : List Int32))).1.2.2.1) (fun u : Unit => [(m0, .inr (5, [.ref a0, .ref p0, .int (iI ho), .ref q0, .ref v0, .int (iI 0), .ref t0, .int (iI tl)])), (a0, .inl (cy 0, 144, .inl G))]) := by
  refine Ci_of (cc := cX5_comparedWith) (maxL := 6) (ret := (some .int)) (by decide) rfl rfl ?_
  intro p e s m args below meth c A hx hb hr hts hown hlocks hml hP hK hD hT hA ls hl
  have hS : va_S A s.heap s.heap [] := va_S.rf
  have hl : lv_has ls 6 [(0, .ref m0), (1, .int (iI x)), (2, .int (iI y))] := hl
  have hiX5 : ∀ w ∈ wsX50, w ∈ wsX5_comparedWith := by decide +kernel
  obtain ⟨h0, h1L, h61, h62W, h78, h79, h80, h81, h82, h83, h84F⟩ := id hG
  obtain ⟨o1, o2, o3, o4, o5, o6, o7, o8, o9, o10, o11, o12, o13, o14, o15⟩ := id hM
  refine lv_aload_n hx hb dX5_comparedWith_0 rfl (lv_at hl 0 rfl) ?_
  refine lv_iconst (v := iI 0) hx hb dX5_comparedWith_1 rfl ?_
  refine va_put (D := D) (ci := 5) (v := .int (iI 0)) (ty := .int) (C := RX5) (T := TX5) (N := 8) hx hb hts hiX5 tyX5 tyX5_ok nmX5 hown hK hP hD hS 0 rfl rfl 5 (by decide) (hts (.fieldLink RX5 25 "BackwardSearchModel" "thrown" "I") (by decide +kernel)) (fun _ h9 => h9) rfl (by decide +kernel) rfl rfl (Nat.le_of_ble_eq_true rfl) dX5_comparedWith_2 (fun H locs hP hD hS => ?_)
  have hP : va_P D vwCl [(m0, .inr (5, [.ref a0, .ref p0, .int (iI ho), .ref q0, .ref v0, .int (iI 0), .ref t0, .int (iI tl)])), (a0, .inl (cy 0, 144, .inl G))] H := hP
  have hD : va_D A [(m0, .inr (5, [.ref a0, .ref p0, .int (iI ho), .ref q0, .ref v0, .int (iI 0), .ref t0, .int (iI tl)])), (a0, .inl (cy 0, 144, .inl G))] := hD
  refine lv_iconst (v := iI 0) hx hb dX5_comparedWith_5 rfl ?_
  refine lv_istore_n (lv' := [(3, .int (iI 0)), (0, .ref m0), (1, .int (iI x)), (2, .int (iI y))]) hx hb dX5_comparedWith_6 rfl hl (by decide) rfl (fun ls hl => ?_)
  refine lv_iconst (v := iI 0) hx hb dX5_comparedWith_7 rfl ?_
  refine lv_istore (lv' := [(4, .int (iI 0)), (3, .int (iI 0)), (0, .ref m0), (1, .int (iI x)), (2, .int (iI y))]) hx hb dX5_comparedWith_8 hl (by decide) rfl (fun ls hl => ?_)
  have hloop1 : ∀ (n1 : Nat) (i : Int) (t : LT) (hi : 0 ≤ i ∧ i ≤ 60 ∧ i ≤ t.1 ∧ t.1 ≤ 100 ∧ 0 ≤ t.2.2.1 ∧ t.2.2.1 ≤ 16 * i) (hrun : (runS M.1.length M.2.1.length (gl M.2.1) (gl M.1) (skS x y M.2.1.length (gl M.2.1) (gl M.1)) (60 - i).toNat t).1 = (runS M.1.length M.2.1.length (gl M.2.1) (gl M.1) (skS x y M.2.1.length (gl M.2.1) (gl M.1)) 60 ((0 : Int), (0 : Int), (0 : Int), ([] : List Int32))).1 ∧ i + (runS M.1.length M.2.1.length (gl M.2.1) (gl M.1) (skS x y M.2.1.length (gl M.2.1) (gl M.1)) (60 - i).toNat t).2 = (runS M.1.length M.2.1.length (gl M.2.1) (gl M.1) (skS x y M.2.1.length (gl M.2.1) (gl M.1)) 60 ((0 : Int), (0 : Int), (0 : Int), ([] : List Int32))).2) (hm : 60 - i < (n1 : Int)) (H : Heap) (locs : List Loc) (ls : Array Slot) (hP : va_P D vwCl [(m0, .inr (5, [.ref a0, .ref p0, .int (iI ho), .ref q0, .ref v0, .int (iI 0), .ref t0, .int (iI tl)])), (a0, .inl (cy 0, 144, .inl G))] H) (hD : va_D A [(m0, .inr (5, [.ref a0, .ref p0, .int (iI ho), .ref q0, .ref v0, .int (iI 0), .ref t0, .int (iI tl)])), (a0, .inl (cy 0, 144, .inl G))]) (hS : va_S A s.heap H locs) (hl : lv_has ls 6 [(4, .int (iI t.1)), (3, .int (iI t.2.2.1)), (0, .ref m0), (1, .int (iI x)), (2, .int (iI y))]), W p l e ({ frames := 3, cells := 0, slots := 0, locals := 73 } : Room) s m args below meth c H locs 0 0 (MQ below (va_Qi (fun (r : Int32) (u : Unit) => r = iI (runS M.1.length M.2.1.length (gl M.2.1) (gl M.1) (skS x y M.2.1.length (gl M.2.1) (gl M.1)) 60 ((0 : Int), (0 : Int), (0 : Int), ([] : List Int32))).1.2.2.1) (fun u t => va_P D vwCl ((fun u : Unit => [(m0, .inr (5, [.ref a0, .ref p0, .int (iI ho), .ref q0, .ref v0, .int (iI 0), .ref t0, .int (iI tl)])), (a0, .inl (cy 0, 144, .inl G))]) u) t.heap) A) args s 0 0 A) (F0 m 10 ls []) := by
    intro n1
    induction n1 with
    | zero =>
      intro i t hi hrun hm; exact absurd hm (by omega)
    | succ n1 ih1 =>
      intro i t hi hrun hm H locs ls hP hD hS hl
      refine lv_aload_n hx hb dX5_comparedWith_10 rfl (lv_at hl 2 rfl) ?_
      refine lv_iload hx hb dX5_comparedWith_11 (lv_at hl 0 rfl) ?_
      refine z_cVi (n := 1) (b := m0) (As := [.int (iI t.1)]) (rest := []) ⟨hx, hb, hml, hown, hts⟩ (c_X5_isOverAt l D cy m0 a0 p0 q0 v0 t0 ho 0 tl G (M.2.1.length : Int) (M.1.length : Int) t.1 (by first | assumption | omega) (by first | assumption | omega) (by first | assumption | omega) (by first | assumption | omega) (by first | assumption | omega)) gX5_comparedWith_X5_isOverAt rfl (by decide +kernel) ⟨Nat.le_of_ble_eq_true rfl, Nat.le_of_ble_eq_true rfl⟩ hK hT hP hD hS hA [0, 1] rfl rfl 0 5 rfl rfl rfl (fun _ => rfl) rfl hl.1 rfl (Nat.le_of_ble_eq_true rfl) dX5_comparedWith_13 ⟨Nat.zero_le _, Nat.zero_le _⟩ (fun r_2 u_2 H locs hw_2 hP hD hS => ?_)
      have hw_2 : (((M.2.1.length : Int) = 0 ∨ (M.1.length : Int) - (M.2.1.length : Int) + 1 ≤ t.1) ∧ r_2 = iI 1) ∨ (¬ ((M.2.1.length : Int) = 0 ∨ (M.1.length : Int) - (M.2.1.length : Int) + 1 ≤ t.1) ∧ r_2 = iI 0) := hw_2
      have hP : va_P D vwCl [(m0, .inr (5, [.ref a0, .ref p0, .int (iI ho), .ref q0, .ref v0, .int (iI 0), .ref t0, .int (iI tl)])), (a0, .inl (cy 0, 144, .inl G))] H := hP
      have hD : va_D A [(m0, .inr (5, [.ref a0, .ref p0, .int (iI ho), .ref q0, .ref v0, .int (iI 0), .ref t0, .int (iI tl)])), (a0, .inl (cy 0, 144, .inl G))] := hD
      rcases hw_2 with ⟨h_2, rfl⟩ | ⟨h_2, rfl⟩
      · --
        refine z_if_ne (tgt := 73) hx hb (iI_t (by omega) (by omega)) dX5_comparedWith_16 (by decide) (fun _ => ?_) (fun c3 => absurd c3 (by omega))
        refine lv_iload_n hx hb dX5_comparedWith_73 rfl (lv_at hl 1 rfl) ?_
        exact z_iret hx hb hr hlocks hS () (show (iI t.2.2.1) = iI (runS M.1.length M.2.1.length (gl M.2.1) (gl M.1) (skS x y M.2.1.length (gl M.2.1) (gl M.1)) 60 ((0 : Int), (0 : Int), (0 : Int), ([] : List Int32))).1.2.2.1 from (by
              have hz : (runS M.1.length M.2.1.length (gl M.2.1) (gl M.1) (skS x y M.2.1.length (gl M.2.1) (gl M.1)) (60 - i).toNat t) = (t, 0) := runS_over (by assumption) _
              rw [hz] at hrun
              rw [← hrun.1])) hP dX5_comparedWith_74
      · --
        refine z_if_ne (tgt := 73) hx hb (iI_t (by omega) (by omega)) dX5_comparedWith_16 (by decide) (fun c4 => absurd c4 (by omega)) (fun _ => ?_)
        refine lv_aload_n hx hb dX5_comparedWith_19 rfl (lv_at hl 2 rfl) ?_
        refine lv_iload hx hb dX5_comparedWith_20 (lv_at hl 0 rfl) ?_
        refine z_cVi (n := 1) (b := m0) (As := [.int (iI t.1)]) (rest := []) ⟨hx, hb, hml, hown, hts⟩ (c_X5_difference l D cy m0 a0 p0 q0 v0 t0 ho 0 tl G (M.2.1.length : Int) t.1 (by first | assumption | omega) (by first | assumption | omega) (by first | assumption | omega)) gX5_comparedWith_X5_difference rfl (by decide +kernel) ⟨Nat.le_of_ble_eq_true rfl, Nat.le_of_ble_eq_true rfl⟩ hK hT hP hD hS hA [0, 1] rfl rfl 0 5 rfl rfl rfl (fun _ => rfl) rfl hl.1 rfl (Nat.le_of_ble_eq_true rfl) dX5_comparedWith_22 ⟨Nat.zero_le _, Nat.zero_le _⟩ (fun r_5 u_5 H locs hw_5 hP hD hS => ?_)
        have hw_5 : r_5 = iI (diffF (M.2.1.length : Int).toNat (gW G) (gL G) t.1) := hw_5
        have hP : va_P D vwCl [(m0, .inr (5, [.ref a0, .ref p0, .int (iI ho), .ref q0, .ref v0, .int (iI 0), .ref t0, .int (iI tl)])), (a0, .inl (cy 0, 144, .inl G))] H := hP
        have hD : va_D A [(m0, .inr (5, [.ref a0, .ref p0, .int (iI ho), .ref q0, .ref v0, .int (iI 0), .ref t0, .int (iI tl)])), (a0, .inl (cy 0, 144, .inl G))] := hD
        obtain rfl := hw_5
        refine z_top (show iI (diffF (M.2.1.length : Int).toNat (gW G) (gL G) t.1) = iI (mD M t.1) from congrArg iI (md_eq hG hM (by omega))) ?_
        have hdr : -1 ≤ mD M t.1 ∧ mD M t.1 < (M.2.1.length : Int) := diffF_rng _ _ _ _
        have hsr : 1 ≤ (skS x y M.2.1.length (gl M.2.1) (gl M.1) t.1 (mD M t.1)) ∧ (skS x y M.2.1.length (gl M.2.1) (gl M.1) t.1 (mD M t.1)) ≤ 17 := skS_rng (by omega) hdr.1 hdr.2
        refine lv_istore (lv' := [(5, .int (iI (mD M t.1))), (4, .int (iI t.1)), (3, .int (iI t.2.2.1)), (0, .ref m0), (1, .int (iI x)), (2, .int (iI y))]) hx hb dX5_comparedWith_25 hl (by decide) rfl (fun ls hl => ?_)
        refine lv_iload_n hx hb dX5_comparedWith_27 rfl (lv_at hl 2 rfl) ?_
        refine lv_iload hx hb dX5_comparedWith_28 (lv_at hl 0 rfl) ?_
        have hj6 : W p l e ({ frames := 3, cells := 0, slots := 0, locals := 73 } : Room) s m args below meth c H locs 0 0 (MQ below (va_Qi (fun (r : Int32) (u : Unit) => r = iI (runS M.1.length M.2.1.length (gl M.2.1) (gl M.1) (skS x y M.2.1.length (gl M.2.1) (gl M.1)) 60 ((0 : Int), (0 : Int), (0 : Int), ([] : List Int32))).1.2.2.1) (fun u t => va_P D vwCl ((fun u : Unit => [(m0, .inr (5, [.ref a0, .ref p0, .int (iI ho), .ref q0, .ref v0, .int (iI 0), .ref t0, .int (iI tl)])), (a0, .inl (cy 0, 144, .inl G))]) u) t.heap) A) args s 0 0 A) (F0 m 53 ls [.int (iI ((M.2.1.length : Int) - max (mD M t.1) 0)), .int (iI t.2.2.1)]) := by
          refine z_add hx hb dX5_comparedWith_53 ?_
          refine lv_istore_n (lv' := [(3, .int (iI (t.2.2.1 + ((M.2.1.length : Int) - max (mD M t.1) 0)))), (5, .int (iI (mD M t.1))), (4, .int (iI t.1)), (0, .ref m0), (1, .int (iI x)), (2, .int (iI y))]) hx hb dX5_comparedWith_54 rfl hl (by decide) rfl (fun ls hl => ?_)
          refine lv_iload hx hb dX5_comparedWith_55 (lv_at hl 2 rfl) ?_
          refine lv_aload_n hx hb dX5_comparedWith_57 rfl (lv_at hl 3 rfl) ?_
          refine lv_iload hx hb dX5_comparedWith_58 (lv_at hl 2 rfl) ?_
          refine lv_iload hx hb dX5_comparedWith_60 (lv_at hl 1 rfl) ?_
          refine lv_iload_n hx hb dX5_comparedWith_62 rfl (lv_at hl 4 rfl) ?_
          refine lv_iload_n hx hb dX5_comparedWith_63 rfl (lv_at hl 5 rfl) ?_
          refine z_cVi (n := 4) (b := m0) (As := [.int (iI t.1), .int (iI (mD M t.1)), .int (iI x), .int (iI y)]) (rest := [.int (iI t.1)]) ⟨hx, hb, hml, hown, hts⟩ (c_X5_skipBy l D cy m0 a0 p0 q0 v0 t0 ho 0 tl G (M.2.1.length : Int) t.1 (mD M t.1) x y (by first | assumption | omega) (by first | assumption | omega) (by first | assumption | omega) (by first | assumption | omega)) gX5_comparedWith_X5_skipBy rfl (by decide +kernel) ⟨Nat.le_of_ble_eq_true rfl, Nat.le_of_ble_eq_true rfl⟩ hK hT hP hD hS hA [0, 1] rfl rfl 0 5 rfl rfl rfl (fun _ => rfl) rfl hl.1 rfl (Nat.le_of_ble_eq_true rfl) dX5_comparedWith_64 ⟨Nat.zero_le _, Nat.zero_le _⟩ (fun r_7 u_7 H locs hw_7 hP hD hS => ?_)
          have hw_7 : r_7 = iI (skS x y (M.2.1.length : Int).toNat (gW G) (gL G) t.1 (mD M t.1)) := hw_7
          have hP : va_P D vwCl [(m0, .inr (5, [.ref a0, .ref p0, .int (iI ho), .ref q0, .ref v0, .int (iI 0), .ref t0, .int (iI tl)])), (a0, .inl (cy 0, 144, .inl G))] H := hP
          have hD : va_D A [(m0, .inr (5, [.ref a0, .ref p0, .int (iI ho), .ref q0, .ref v0, .int (iI 0), .ref t0, .int (iI tl)])), (a0, .inl (cy 0, 144, .inl G))] := hD
          obtain rfl := hw_7
          refine z_top (show iI (skS x y (M.2.1.length : Int).toNat (gW G) (gL G) t.1 (mD M t.1)) = iI (skS x y M.2.1.length (gl M.2.1) (gl M.1) t.1 (mD M t.1)) from congrArg iI (skS_eq2 hG hM (by omega))) ?_
          refine z_add hx hb dX5_comparedWith_67 ?_
          refine lv_istore (lv' := [(4, .int (iI (t.1 + (skS x y M.2.1.length (gl M.2.1) (gl M.1) t.1 (mD M t.1))))), (3, .int (iI (t.2.2.1 + ((M.2.1.length : Int) - max (mD M t.1) 0)))), (5, .int (iI (mD M t.1))), (0, .ref m0), (1, .int (iI x)), (2, .int (iI y))]) hx hb dX5_comparedWith_68 hl (by decide) rfl (fun ls hl => ?_)
          refine lv_goto (tgt := 10) hx hb dX5_comparedWith_70 (by decide) ?_
          have hl1 : (lookS M.2.1.length (gl M.2.1) (gl M.1) (skS x y M.2.1.length (gl M.2.1) (gl M.1)) t).1 = t.1 + (skS x y M.2.1.length (gl M.2.1) (gl M.1) t.1 (mD M t.1)) := rfl
          have hl2 : (lookS M.2.1.length (gl M.2.1) (gl M.1) (skS x y M.2.1.length (gl M.2.1) (gl M.1)) t).2.2.1 = t.2.2.1 + ((M.2.1.length : Int) - max (mD M t.1) 0) := rfl
          exact ih1 (i + 1) (lookS M.2.1.length (gl M.2.1) (gl M.1) (skS x y M.2.1.length (gl M.2.1) (gl M.1)) t) (by omega) (run_step2 (by omega) (by omega) (by omega) hrun) (by omega) _ _ _ hP hD hS (lv_sub hl [0, 1, 3, 4, 5] rfl)
        refine z_if_ge (tgt := 43) hx hb (iI_t (by omega) (by omega)) dX5_comparedWith_30 (by decide) (fun c8 => ?_) (fun c8 => ?_)
        · --
          refine lv_aload_n hx hb dX5_comparedWith_43 rfl (lv_at hl 3 rfl) ?_
          refine va_get (D := D) (ci := 5) (v := .ref a0) (C := RX5) (T := TX5) (N := 8) hx hb hts hiX5 hown hK hP 0 rfl rfl 0 (by decide) (hts (.fieldLink RX5 7 "BackwardSearchModel" "all" "[I") (by decide +kernel)) (fun _ h9 => h9) rfl dX5_comparedWith_44 ?_
          refine lv_bipush (v := iI 61) hx hb dX5_comparedWith_47 (by decide +kernel) ?_
          refine z_iald hx hb hK hP 1 rfl (by omega) (by omega) (by omega) dX5_comparedWith_49 ?_
          refine z_top (show G (61 : Int).toNat = iI (M.2.1.length : Int) from by exact h61) ?_
          refine lv_iload hx hb dX5_comparedWith_50 (lv_at hl 0 rfl) ?_
          refine z_sub hx hb dX5_comparedWith_52 ?_
          refine z_top (show iI ((M.2.1.length : Int) - (mD M t.1)) = iI ((M.2.1.length : Int) - max (mD M t.1) 0) from congrArg iI (by omega)) ?_
          exact hj6
        · --
          refine lv_aload_n hx hb dX5_comparedWith_33 rfl (lv_at hl 3 rfl) ?_
          refine va_get (D := D) (ci := 5) (v := .ref a0) (C := RX5) (T := TX5) (N := 8) hx hb hts hiX5 hown hK hP 0 rfl rfl 0 (by decide) (hts (.fieldLink RX5 7 "BackwardSearchModel" "all" "[I") (by decide +kernel)) (fun _ h9 => h9) rfl dX5_comparedWith_34 ?_
          refine lv_bipush (v := iI 61) hx hb dX5_comparedWith_37 (by decide +kernel) ?_
          refine z_iald hx hb hK hP 1 rfl (by omega) (by omega) (by omega) dX5_comparedWith_39 ?_
          refine z_top (show G (61 : Int).toNat = iI (M.2.1.length : Int) from by exact h61) ?_
          refine lv_goto (tgt := 53) hx hb dX5_comparedWith_40 (by decide) ?_
          refine z_top (show iI (M.2.1.length : Int) = iI ((M.2.1.length : Int) - max (mD M t.1) 0) from congrArg iI (by omega)) ?_
          exact hj6
  exact hloop1 (Int.toNat (60 - 0) + 1) 0 ((0 : Int), (0 : Int), (0 : Int), ([] : List Int32)) (by refine ⟨?_, ?_, ?_, ?_, ?_, ?_⟩ <;> decide) (⟨rfl, by rw [Int.zero_add]; rfl⟩) (by omega) _ _ _ hP hD hS (lv_sub hl [0, 1, 2, 3, 4] rfl)
set_option maxHeartbeats 4000000 in
set_option maxRecDepth 100000 in
theorem c_X5_differenceAt (l : Launch) (D : va_G) (cy : Nat → ClassId) (m0 : Nat) (a0 : Nat) (p0 : Nat) (q0 : Nat) (v0 : Nat) (t0 : Nat) (ho : Int) (th : Int) (tl : Int) (G : Nat → Int32) (M : MS) (x : Int) (hG : RG G M) (hM : MOk M) (hx1 : -2147483648 ≤ x ∧ x < 2147483648) : Ci l D cy yX5_differenceAt wsX5_differenceAt 1 22 [.ref m0, .int (iI x)] [(m0, .inr (5, [.ref a0, .ref p0, .int (iI ho), .ref q0, .ref v0, .int (iI th), .ref t0, .int (iI tl)])), (a0, .inl (cy 0, 144, .inl G))] (fun (r : Int32) (u : Int) => ((x < 0 ∨ (M.1.length : Int) < x + (M.2.1.length : Int)) ∧ r = iI 0 ∧ u = 1) ∨ (¬ (x < 0 ∨ (M.1.length : Int) < x + (M.2.1.length : Int)) ∧ (M.2.1.length : Int) = 0 ∧ r = iI 0 ∧ u = 2) ∨ (¬ (x < 0 ∨ (M.1.length : Int) < x + (M.2.1.length : Int)) ∧ ¬ (M.2.1.length : Int) = 0 ∧ r = iI (mD M x) ∧ u = 0)) (fun u : Int => [(m0, .inr (5, [.ref a0, .ref p0, .int (iI ho), .ref q0, .ref v0, .int (iI u), .ref t0, .int (iI tl)])), (a0, .inl (cy 0, 144, .inl G))]) := by
  refine Ci_of (cc := cX5_differenceAt) (maxL := 2) (ret := (some .int)) (by decide) rfl rfl ?_
  intro p e s m args below meth c A hx hb hr hts hown hlocks hml hP hK hD hT hA ls hl
  have hS : va_S A s.heap s.heap [] := va_S.rf
  have hl : lv_has ls 2 [(0, .ref m0), (1, .int (iI x))] := hl
  have hiX5 : ∀ w ∈ wsX50, w ∈ wsX5_differenceAt := by decide +kernel
  obtain ⟨h0, h1L, h61, h62W, h78, h79, h80, h81, h82, h83, h84F⟩ := id hG
  obtain ⟨o1, o2, o3, o4, o5, o6, o7, o8, o9, o10, o11, o12, o13, o14, o15⟩ := id hM
  refine lv_iload_n hx hb dX5_differenceAt_0 rfl (lv_at hl 1 rfl) ?_
  refine z_if_lt (tgt := 26) hx hb (iI_t (by omega) (by omega)) dX5_differenceAt_1 (by decide) (fun c1 => ?_) (fun c1 => ?_)
  · --
    refine lv_aload_n hx hb dX5_differenceAt_26 rfl (lv_at hl 0 rfl) ?_
    refine lv_iconst (v := iI 1) hx hb dX5_differenceAt_27 rfl ?_
    refine z_cVi (n := 1) (b := m0) (As := [.int (iI 1)]) (rest := []) ⟨hx, hb, hml, hown, hts⟩ (c_X5_fails l D cy m0 a0 p0 q0 v0 t0 ho th tl 1 ) gX5_differenceAt_X5_fails rfl (by decide +kernel) ⟨Nat.le_of_ble_eq_true rfl, Nat.le_of_ble_eq_true rfl⟩ hK hT hP hD hS hA [0] rfl rfl 0 5 rfl rfl rfl (fun _ => rfl) rfl hl.1 rfl (Nat.le_of_ble_eq_true rfl) dX5_differenceAt_28 ⟨Nat.zero_le _, Nat.zero_le _⟩ (fun r_2 u_2 H locs hw_2 hP hD hS => ?_)
    have hw_2 : r_2 = iI 0 := hw_2
    have hP : va_P D vwCl [(m0, .inr (5, [.ref a0, .ref p0, .int (iI ho), .ref q0, .ref v0, .int (iI 1), .ref t0, .int (iI tl)])), (a0, .inl (cy 0, 144, .inl G))] H := hP
    have hD : va_D A [(m0, .inr (5, [.ref a0, .ref p0, .int (iI ho), .ref q0, .ref v0, .int (iI 1), .ref t0, .int (iI tl)])), (a0, .inl (cy 0, 144, .inl G))] := hD
    obtain rfl := hw_2
    exact z_iret hx hb hr hlocks hS (1) (show ((x < 0 ∨ (M.1.length : Int) < x + (M.2.1.length : Int)) ∧ (iI 0) = iI 0 ∧ 1 = 1) ∨ (¬ (x < 0 ∨ (M.1.length : Int) < x + (M.2.1.length : Int)) ∧ (M.2.1.length : Int) = 0 ∧ (iI 0) = iI 0 ∧ 1 = 2) ∨ (¬ (x < 0 ∨ (M.1.length : Int) < x + (M.2.1.length : Int)) ∧ ¬ (M.2.1.length : Int) = 0 ∧ (iI 0) = iI (mD M x) ∧ 1 = 0) from (by first | exact Or.inl ⟨by omega, rfl, rfl⟩ | exact Or.inr (Or.inl ⟨by omega, by omega, rfl, rfl⟩) | exact Or.inr (Or.inr ⟨by omega, by omega, rfl, rfl⟩))) hP dX5_differenceAt_31
  · --
    refine lv_iload_n hx hb dX5_differenceAt_4 rfl (lv_at hl 1 rfl) ?_
    refine z_i2l hx hb (iI_l (by omega) (by omega)) dX5_differenceAt_5 ?_
    refine lv_aload_n hx hb dX5_differenceAt_6 rfl (lv_at hl 0 rfl) ?_
    refine va_get (D := D) (ci := 5) (v := .ref a0) (C := RX5) (T := TX5) (N := 8) hx hb hts hiX5 hown hK hP 0 rfl rfl 0 (by decide) (hts (.fieldLink RX5 7 "BackwardSearchModel" "all" "[I") (by decide +kernel)) (fun _ h9 => h9) rfl dX5_differenceAt_7 ?_
    refine lv_bipush (v := iI 61) hx hb dX5_differenceAt_10 (by decide +kernel) ?_
    refine z_iald hx hb hK hP 1 rfl (by omega) (by omega) (by omega) dX5_differenceAt_12 ?_
    refine z_top (show G (61 : Int).toNat = iI (M.2.1.length : Int) from by exact h61) ?_
    refine z_i2l hx hb (iI_l (by omega) (by omega)) dX5_differenceAt_13 ?_
    refine z_ladd hx hb dX5_differenceAt_14 ?_
    refine lv_aload_n hx hb dX5_differenceAt_15 rfl (lv_at hl 0 rfl) ?_
    refine va_get (D := D) (ci := 5) (v := .ref a0) (C := RX5) (T := TX5) (N := 8) hx hb hts hiX5 hown hK hP 0 rfl rfl 0 (by decide) (hts (.fieldLink RX5 7 "BackwardSearchModel" "all" "[I") (by decide +kernel)) (fun _ h9 => h9) rfl dX5_differenceAt_16 ?_
    refine lv_iconst (v := iI 0) hx hb dX5_differenceAt_19 rfl ?_
    refine z_iald hx hb hK hP 1 rfl (by omega) (by omega) (by omega) dX5_differenceAt_20 ?_
    refine z_top (show G (0 : Int).toNat = iI (M.1.length : Int) from by exact h0) ?_
    refine z_i2l hx hb (iI_l (by omega) (by omega)) dX5_differenceAt_21 ?_
    refine z_lcmp_le (tgt := 32) hx hb (lI_t (by omega) (by omega)) (lI_t (by omega) (by omega)) dX5_differenceAt_22 dX5_differenceAt_23 (by decide) (fun c3 => ?_) (fun c3 => ?_)
    · --
      refine lv_aload_n hx hb dX5_differenceAt_32 rfl (lv_at hl 0 rfl) ?_
      refine va_get (D := D) (ci := 5) (v := .ref a0) (C := RX5) (T := TX5) (N := 8) hx hb hts hiX5 hown hK hP 0 rfl rfl 0 (by decide) (hts (.fieldLink RX5 7 "BackwardSearchModel" "all" "[I") (by decide +kernel)) (fun _ h9 => h9) rfl dX5_differenceAt_33 ?_
      refine lv_bipush (v := iI 61) hx hb dX5_differenceAt_36 (by decide +kernel) ?_
      refine z_iald hx hb hK hP 1 rfl (by omega) (by omega) (by omega) dX5_differenceAt_38 ?_
      refine z_top (show G (61 : Int).toNat = iI (M.2.1.length : Int) from by exact h61) ?_
      refine z_if_ne (tgt := 50) hx hb (iI_t (by omega) (by omega)) dX5_differenceAt_39 (by decide) (fun c4 => ?_) (fun c4 => ?_)
      · --
        refine lv_aload_n hx hb dX5_differenceAt_50 rfl (lv_at hl 0 rfl) ?_
        refine lv_aload_n hx hb dX5_differenceAt_51 rfl (lv_at hl 0 rfl) ?_
        refine lv_iload_n hx hb dX5_differenceAt_52 rfl (lv_at hl 1 rfl) ?_
        refine z_cVi (n := 1) (b := m0) (As := [.int (iI x)]) (rest := [.ref m0]) ⟨hx, hb, hml, hown, hts⟩ (c_X5_difference l D cy m0 a0 p0 q0 v0 t0 ho th tl G (M.2.1.length : Int) x (by first | assumption | omega) (by first | assumption | omega) (by first | assumption | omega)) gX5_differenceAt_X5_difference rfl (by decide +kernel) ⟨Nat.le_of_ble_eq_true rfl, Nat.le_of_ble_eq_true rfl⟩ hK hT hP hD hS hA [0, 1] rfl rfl 0 5 rfl rfl rfl (fun _ => rfl) rfl hl.1 rfl (Nat.le_of_ble_eq_true rfl) dX5_differenceAt_53 ⟨Nat.zero_le _, Nat.zero_le _⟩ (fun r_5 u_5 H locs hw_5 hP hD hS => ?_)
        have hw_5 : r_5 = iI (diffF (M.2.1.length : Int).toNat (gW G) (gL G) x) := hw_5
        have hP : va_P D vwCl [(m0, .inr (5, [.ref a0, .ref p0, .int (iI ho), .ref q0, .ref v0, .int (iI th), .ref t0, .int (iI tl)])), (a0, .inl (cy 0, 144, .inl G))] H := hP
        have hD : va_D A [(m0, .inr (5, [.ref a0, .ref p0, .int (iI ho), .ref q0, .ref v0, .int (iI th), .ref t0, .int (iI tl)])), (a0, .inl (cy 0, 144, .inl G))] := hD
        obtain rfl := hw_5
        refine z_top (show iI (diffF (M.2.1.length : Int).toNat (gW G) (gL G) x) = iI (mD M x) from congrArg iI (md_eq hG hM (by omega))) ?_
        refine z_cVi (n := 1) (b := m0) (As := [.int (iI (mD M x))]) (rest := []) ⟨hx, hb, hml, hown, hts⟩ (c_X5_told l D cy m0 a0 p0 q0 v0 t0 ho th tl (iI (mD M x)) ) gX5_differenceAt_X5_told rfl (by decide +kernel) ⟨Nat.le_of_ble_eq_true rfl, Nat.le_of_ble_eq_true rfl⟩ hK hT hP hD hS hA [0] rfl rfl 0 5 rfl rfl rfl (fun _ => rfl) rfl hl.1 rfl (Nat.le_of_ble_eq_true rfl) dX5_differenceAt_56 ⟨Nat.zero_le _, Nat.zero_le _⟩ (fun r_6 u_6 H locs hw_6 hP hD hS => ?_)
        have hw_6 : r_6 = (iI (mD M x)) := hw_6
        have hP : va_P D vwCl [(m0, .inr (5, [.ref a0, .ref p0, .int (iI ho), .ref q0, .ref v0, .int (iI 0), .ref t0, .int (iI tl)])), (a0, .inl (cy 0, 144, .inl G))] H := hP
        have hD : va_D A [(m0, .inr (5, [.ref a0, .ref p0, .int (iI ho), .ref q0, .ref v0, .int (iI 0), .ref t0, .int (iI tl)])), (a0, .inl (cy 0, 144, .inl G))] := hD
        obtain rfl := hw_6
        exact z_iret hx hb hr hlocks hS (0) (show ((x < 0 ∨ (M.1.length : Int) < x + (M.2.1.length : Int)) ∧ (iI (mD M x)) = iI 0 ∧ 0 = 1) ∨ (¬ (x < 0 ∨ (M.1.length : Int) < x + (M.2.1.length : Int)) ∧ (M.2.1.length : Int) = 0 ∧ (iI (mD M x)) = iI 0 ∧ 0 = 2) ∨ (¬ (x < 0 ∨ (M.1.length : Int) < x + (M.2.1.length : Int)) ∧ ¬ (M.2.1.length : Int) = 0 ∧ (iI (mD M x)) = iI (mD M x) ∧ 0 = 0) from (by first | exact Or.inl ⟨by omega, rfl, rfl⟩ | exact Or.inr (Or.inl ⟨by omega, by omega, rfl, rfl⟩) | exact Or.inr (Or.inr ⟨by omega, by omega, rfl, rfl⟩))) hP dX5_differenceAt_59
      · --
        refine lv_aload_n hx hb dX5_differenceAt_42 rfl (lv_at hl 0 rfl) ?_
        refine lv_iconst (v := iI 2) hx hb dX5_differenceAt_43 rfl ?_
        refine z_cVi (n := 1) (b := m0) (As := [.int (iI 2)]) (rest := []) ⟨hx, hb, hml, hown, hts⟩ (c_X5_fails l D cy m0 a0 p0 q0 v0 t0 ho th tl 2 ) gX5_differenceAt_X5_fails rfl (by decide +kernel) ⟨Nat.le_of_ble_eq_true rfl, Nat.le_of_ble_eq_true rfl⟩ hK hT hP hD hS hA [0] rfl rfl 0 5 rfl rfl rfl (fun _ => rfl) rfl hl.1 rfl (Nat.le_of_ble_eq_true rfl) dX5_differenceAt_44 ⟨Nat.zero_le _, Nat.zero_le _⟩ (fun r_7 u_7 H locs hw_7 hP hD hS => ?_)
        have hw_7 : r_7 = iI 0 := hw_7
        have hP : va_P D vwCl [(m0, .inr (5, [.ref a0, .ref p0, .int (iI ho), .ref q0, .ref v0, .int (iI 2), .ref t0, .int (iI tl)])), (a0, .inl (cy 0, 144, .inl G))] H := hP
        have hD : va_D A [(m0, .inr (5, [.ref a0, .ref p0, .int (iI ho), .ref q0, .ref v0, .int (iI 2), .ref t0, .int (iI tl)])), (a0, .inl (cy 0, 144, .inl G))] := hD
        obtain rfl := hw_7
        refine lv_goto (tgt := 59) hx hb dX5_differenceAt_47 (by decide) ?_
        exact z_iret hx hb hr hlocks hS (2) (show ((x < 0 ∨ (M.1.length : Int) < x + (M.2.1.length : Int)) ∧ (iI 0) = iI 0 ∧ 2 = 1) ∨ (¬ (x < 0 ∨ (M.1.length : Int) < x + (M.2.1.length : Int)) ∧ (M.2.1.length : Int) = 0 ∧ (iI 0) = iI 0 ∧ 2 = 2) ∨ (¬ (x < 0 ∨ (M.1.length : Int) < x + (M.2.1.length : Int)) ∧ ¬ (M.2.1.length : Int) = 0 ∧ (iI 0) = iI (mD M x) ∧ 2 = 0) from (by first | exact Or.inl ⟨by omega, rfl, rfl⟩ | exact Or.inr (Or.inl ⟨by omega, by omega, rfl, rfl⟩) | exact Or.inr (Or.inr ⟨by omega, by omega, rfl, rfl⟩))) hP dX5_differenceAt_59
    · --
      refine lv_aload_n hx hb dX5_differenceAt_26 rfl (lv_at hl 0 rfl) ?_
      refine lv_iconst (v := iI 1) hx hb dX5_differenceAt_27 rfl ?_
      refine z_cVi (n := 1) (b := m0) (As := [.int (iI 1)]) (rest := []) ⟨hx, hb, hml, hown, hts⟩ (c_X5_fails l D cy m0 a0 p0 q0 v0 t0 ho th tl 1 ) gX5_differenceAt_X5_fails rfl (by decide +kernel) ⟨Nat.le_of_ble_eq_true rfl, Nat.le_of_ble_eq_true rfl⟩ hK hT hP hD hS hA [0] rfl rfl 0 5 rfl rfl rfl (fun _ => rfl) rfl hl.1 rfl (Nat.le_of_ble_eq_true rfl) dX5_differenceAt_28 ⟨Nat.zero_le _, Nat.zero_le _⟩ (fun r_8 u_8 H locs hw_8 hP hD hS => ?_)
      have hw_8 : r_8 = iI 0 := hw_8
      have hP : va_P D vwCl [(m0, .inr (5, [.ref a0, .ref p0, .int (iI ho), .ref q0, .ref v0, .int (iI 1), .ref t0, .int (iI tl)])), (a0, .inl (cy 0, 144, .inl G))] H := hP
      have hD : va_D A [(m0, .inr (5, [.ref a0, .ref p0, .int (iI ho), .ref q0, .ref v0, .int (iI 1), .ref t0, .int (iI tl)])), (a0, .inl (cy 0, 144, .inl G))] := hD
      obtain rfl := hw_8
      exact z_iret hx hb hr hlocks hS (1) (show ((x < 0 ∨ (M.1.length : Int) < x + (M.2.1.length : Int)) ∧ (iI 0) = iI 0 ∧ 1 = 1) ∨ (¬ (x < 0 ∨ (M.1.length : Int) < x + (M.2.1.length : Int)) ∧ (M.2.1.length : Int) = 0 ∧ (iI 0) = iI 0 ∧ 1 = 2) ∨ (¬ (x < 0 ∨ (M.1.length : Int) < x + (M.2.1.length : Int)) ∧ ¬ (M.2.1.length : Int) = 0 ∧ (iI 0) = iI (mD M x) ∧ 1 = 0) from (by first | exact Or.inl ⟨by omega, rfl, rfl⟩ | exact Or.inr (Or.inl ⟨by omega, by omega, rfl, rfl⟩) | exact Or.inr (Or.inr ⟨by omega, by omega, rfl, rfl⟩))) hP dX5_differenceAt_31
set_option maxHeartbeats 4000000 in
set_option maxRecDepth 100000 in
theorem c_X5_textError (l : Launch) (D : va_G) (cy : Nat → ClassId) (m0 : Nat) (a0 : Nat) (p0 : Nat) (q0 : Nat) (v0 : Nat) (t0 : Nat) (ho : Int) (th : Int) (tl : Int) (Tx : Nat → Int32) (tx : List Int32) (hT1 : Rep tl Tx tx) (hT2 : tx.length ≤ 80) : Ci l D cy yX5_textError wsX5_textError 2 46 [.ref m0] [(m0, .inr (5, [.ref a0, .ref p0, .int (iI ho), .ref q0, .ref v0, .int (iI th), .ref t0, .int (iI tl)])), (t0, .inl (cy 0, 80, .inl Tx))] (fun (r : Int32) (u : Unit) => r = iI (errF tx 0)) (fun u : Unit => [(m0, .inr (5, [.ref a0, .ref p0, .int (iI ho), .ref q0, .ref v0, .int (iI 0), .ref t0, .int (iI tl)])), (t0, .inl (cy 0, 80, .inl Tx))]) := by
  refine Ci_of (cc := cX5_textError) (maxL := 1) (ret := (some .int)) (by decide) rfl rfl ?_
  intro p e s m args below meth c A hx hb hr hts hown hlocks hml hP hK hD hT hA ls hl
  have hS : va_S A s.heap s.heap [] := va_S.rf
  have hl : lv_has ls 1 [(0, .ref m0)] := hl
  refine lv_aload_n hx hb dX5_textError_0 rfl (lv_at hl 0 rfl) ?_
  refine lv_aload_n hx hb dX5_textError_1 rfl (lv_at hl 0 rfl) ?_
  refine z_cVi (n := 0) (b := m0) (As := []) (rest := [.ref m0]) ⟨hx, hb, hml, hown, hts⟩ (c_X5_errorOfText l D cy m0 a0 p0 q0 v0 t0 ho th tl Tx tx (by first | assumption | omega) (by first | assumption | omega)) gX5_textError_X5_errorOfText rfl (by decide +kernel) ⟨Nat.le_of_ble_eq_true rfl, Nat.le_of_ble_eq_true rfl⟩ hK hT hP hD hS hA [0, 1] rfl rfl 0 5 rfl rfl rfl (fun _ => rfl) rfl hl.1 rfl (Nat.le_of_ble_eq_true rfl) dX5_textError_2 ⟨Nat.zero_le _, Nat.zero_le _⟩ (fun r_1 u_1 H locs hw_1 hP hD hS => ?_)
  have hw_1 : r_1 = iI (errF tx 0) := hw_1
  have hP : va_P D vwCl [(m0, .inr (5, [.ref a0, .ref p0, .int (iI ho), .ref q0, .ref v0, .int (iI th), .ref t0, .int (iI tl)])), (t0, .inl (cy 0, 80, .inl Tx))] H := hP
  have hD : va_D A [(m0, .inr (5, [.ref a0, .ref p0, .int (iI ho), .ref q0, .ref v0, .int (iI th), .ref t0, .int (iI tl)])), (t0, .inl (cy 0, 80, .inl Tx))] := hD
  obtain rfl := hw_1
  refine z_cVi (n := 1) (b := m0) (As := [.int (iI (errF tx 0))]) (rest := []) ⟨hx, hb, hml, hown, hts⟩ (c_X5_told l D cy m0 a0 p0 q0 v0 t0 ho th tl (iI (errF tx 0)) ) gX5_textError_X5_told rfl (by decide +kernel) ⟨Nat.le_of_ble_eq_true rfl, Nat.le_of_ble_eq_true rfl⟩ hK hT hP hD hS hA [0] rfl rfl 0 5 rfl rfl rfl (fun _ => rfl) rfl hl.1 rfl (Nat.le_of_ble_eq_true rfl) dX5_textError_5 ⟨Nat.zero_le _, Nat.zero_le _⟩ (fun r_2 u_2 H locs hw_2 hP hD hS => ?_)
  have hw_2 : r_2 = (iI (errF tx 0)) := hw_2
  have hP : va_P D vwCl [(m0, .inr (5, [.ref a0, .ref p0, .int (iI ho), .ref q0, .ref v0, .int (iI 0), .ref t0, .int (iI tl)])), (t0, .inl (cy 0, 80, .inl Tx))] H := hP
  have hD : va_D A [(m0, .inr (5, [.ref a0, .ref p0, .int (iI ho), .ref q0, .ref v0, .int (iI 0), .ref t0, .int (iI tl)])), (t0, .inl (cy 0, 80, .inl Tx))] := hD
  obtain rfl := hw_2
  exact z_iret hx hb hr hlocks hS () (show (iI (errF tx 0)) = iI (errF tx 0) from rfl) hP dX5_textError_8
set_option maxHeartbeats 4000000 in
set_option maxRecDepth 100000 in
theorem c_X5_textLength (l : Launch) (D : va_G) (cy : Nat → ClassId) (m0 : Nat) (a0 : Nat) (p0 : Nat) (q0 : Nat) (v0 : Nat) (t0 : Nat) (ho : Int) (th : Int) (tl : Int) : Ci l D cy yX5_textLength wsX5_textLength 1 21 [.ref m0] [(m0, .inr (5, [.ref a0, .ref p0, .int (iI ho), .ref q0, .ref v0, .int (iI th), .ref t0, .int (iI tl)]))] (fun (r : Int32) (u : Unit) => r = iI tl) (fun u : Unit => [(m0, .inr (5, [.ref a0, .ref p0, .int (iI ho), .ref q0, .ref v0, .int (iI 0), .ref t0, .int (iI tl)]))]) := by
  refine Ci_of (cc := cX5_textLength) (maxL := 1) (ret := (some .int)) (by decide) rfl rfl ?_
  intro p e s m args below meth c A hx hb hr hts hown hlocks hml hP hK hD hT hA ls hl
  have hS : va_S A s.heap s.heap [] := va_S.rf
  have hl : lv_has ls 1 [(0, .ref m0)] := hl
  have hiX5 : ∀ w ∈ wsX50, w ∈ wsX5_textLength := by decide +kernel
  refine lv_aload_n hx hb dX5_textLength_0 rfl (lv_at hl 0 rfl) ?_
  refine lv_aload_n hx hb dX5_textLength_1 rfl (lv_at hl 0 rfl) ?_
  refine va_get (D := D) (ci := 5) (v := .int (iI tl)) (C := RX5) (T := TX5) (N := 8) hx hb hts hiX5 hown hK hP 0 rfl rfl 7 (by decide) (hts (.fieldLink RX5 56 "BackwardSearchModel" "textLong" "I") (by decide +kernel)) (fun _ h9 => h9) rfl dX5_textLength_2 ?_
  refine z_cVi (n := 1) (b := m0) (As := [.int (iI tl)]) (rest := []) ⟨hx, hb, hml, hown, hts⟩ (c_X5_told l D cy m0 a0 p0 q0 v0 t0 ho th tl (iI tl) ) gX5_textLength_X5_told rfl (by decide +kernel) ⟨Nat.le_of_ble_eq_true rfl, Nat.le_of_ble_eq_true rfl⟩ hK hT hP hD hS hA [0] rfl rfl 0 5 rfl rfl rfl (fun _ => rfl) rfl hl.1 rfl (Nat.le_of_ble_eq_true rfl) dX5_textLength_5 ⟨Nat.zero_le _, Nat.zero_le _⟩ (fun r_1 u_1 H locs hw_1 hP hD hS => ?_)
  have hw_1 : r_1 = (iI tl) := hw_1
  have hP : va_P D vwCl [(m0, .inr (5, [.ref a0, .ref p0, .int (iI ho), .ref q0, .ref v0, .int (iI 0), .ref t0, .int (iI tl)]))] H := hP
  have hD : va_D A [(m0, .inr (5, [.ref a0, .ref p0, .int (iI ho), .ref q0, .ref v0, .int (iI 0), .ref t0, .int (iI tl)]))] := hD
  obtain rfl := hw_1
  exact z_iret hx hb hr hlocks hS () (show (iI tl) = iI tl from rfl) hP dX5_textLength_8
set_option maxHeartbeats 4000000 in
set_option maxRecDepth 100000 in
theorem c_X5_undoCount (l : Launch) (D : va_G) (cy : Nat → ClassId) (m0 : Nat) (a0 : Nat) (p0 : Nat) (q0 : Nat) (v0 : Nat) (t0 : Nat) (ho : Int) (th : Int) (tl : Int) : Ci l D cy yX5_undoCount wsX5_undoCount 1 21 [.ref m0] [(m0, .inr (5, [.ref a0, .ref p0, .int (iI ho), .ref q0, .ref v0, .int (iI th), .ref t0, .int (iI tl)]))] (fun (r : Int32) (u : Unit) => r = iI ho) (fun u : Unit => [(m0, .inr (5, [.ref a0, .ref p0, .int (iI ho), .ref q0, .ref v0, .int (iI 0), .ref t0, .int (iI tl)]))]) := by
  refine Ci_of (cc := cX5_undoCount) (maxL := 1) (ret := (some .int)) (by decide) rfl rfl ?_
  intro p e s m args below meth c A hx hb hr hts hown hlocks hml hP hK hD hT hA ls hl
  have hS : va_S A s.heap s.heap [] := va_S.rf
  have hl : lv_has ls 1 [(0, .ref m0)] := hl
  have hiX5 : ∀ w ∈ wsX50, w ∈ wsX5_undoCount := by decide +kernel
  refine lv_aload_n hx hb dX5_undoCount_0 rfl (lv_at hl 0 rfl) ?_
  refine lv_aload_n hx hb dX5_undoCount_1 rfl (lv_at hl 0 rfl) ?_
  refine va_get (D := D) (ci := 5) (v := .int (iI ho)) (C := RX5) (T := TX5) (N := 8) hx hb hts hiX5 hown hK hP 0 rfl rfl 2 (by decide) (hts (.fieldLink RX5 29 "BackwardSearchModel" "historyLong" "I") (by decide +kernel)) (fun _ h9 => h9) rfl dX5_undoCount_2 ?_
  refine z_cVi (n := 1) (b := m0) (As := [.int (iI ho)]) (rest := []) ⟨hx, hb, hml, hown, hts⟩ (c_X5_told l D cy m0 a0 p0 q0 v0 t0 ho th tl (iI ho) ) gX5_undoCount_X5_told rfl (by decide +kernel) ⟨Nat.le_of_ble_eq_true rfl, Nat.le_of_ble_eq_true rfl⟩ hK hT hP hD hS hA [0] rfl rfl 0 5 rfl rfl rfl (fun _ => rfl) rfl hl.1 rfl (Nat.le_of_ble_eq_true rfl) dX5_undoCount_5 ⟨Nat.zero_le _, Nat.zero_le _⟩ (fun r_1 u_1 H locs hw_1 hP hD hS => ?_)
  have hw_1 : r_1 = (iI ho) := hw_1
  have hP : va_P D vwCl [(m0, .inr (5, [.ref a0, .ref p0, .int (iI ho), .ref q0, .ref v0, .int (iI 0), .ref t0, .int (iI tl)]))] H := hP
  have hD : va_D A [(m0, .inr (5, [.ref a0, .ref p0, .int (iI ho), .ref q0, .ref v0, .int (iI 0), .ref t0, .int (iI tl)]))] := hD
  obtain rfl := hw_1
  exact z_iret hx hb hr hlocks hS () (show (iI ho) = iI ho from rfl) hP dX5_undoCount_8
set_option maxHeartbeats 4000000 in
set_option maxRecDepth 100000 in
theorem c_X5_clearText (l : Launch) (D : va_G) (cy : Nat → ClassId) (m0 : Nat) (a0 : Nat) (p0 : Nat) (q0 : Nat) (v0 : Nat) (t0 : Nat) (ho : Int) (th : Int) (tl : Int) : Ci l D cy yX5_clearText wsX5_clearText 0 0 [.ref m0] [(m0, .inr (5, [.ref a0, .ref p0, .int (iI ho), .ref q0, .ref v0, .int (iI th), .ref t0, .int (iI tl)]))] (fun (r : Int32) (u : Unit) => r = iI tl) (fun u : Unit => [(m0, .inr (5, [.ref a0, .ref p0, .int (iI ho), .ref q0, .ref v0, .int (iI 0), .ref t0, .int (iI 0)]))]) := by
  refine Ci_of (cc := cX5_clearText) (maxL := 2) (ret := (some .int)) (by decide) rfl rfl ?_
  intro p e s m args below meth c A hx hb hr hts hown hlocks hml hP hK hD hT hA ls hl
  have hS : va_S A s.heap s.heap [] := va_S.rf
  have hl : lv_has ls 2 [(0, .ref m0)] := hl
  have hiX5 : ∀ w ∈ wsX50, w ∈ wsX5_clearText := by decide +kernel
  refine lv_aload_n hx hb dX5_clearText_0 rfl (lv_at hl 0 rfl) ?_
  refine lv_iconst (v := iI 0) hx hb dX5_clearText_1 rfl ?_
  refine va_put (D := D) (ci := 5) (v := .int (iI 0)) (ty := .int) (C := RX5) (T := TX5) (N := 8) hx hb hts hiX5 tyX5 tyX5_ok nmX5 hown hK hP hD hS 0 rfl rfl 5 (by decide) (hts (.fieldLink RX5 25 "BackwardSearchModel" "thrown" "I") (by decide +kernel)) (fun _ h9 => h9) rfl (by decide +kernel) rfl rfl (Nat.le_of_ble_eq_true rfl) dX5_clearText_2 (fun H locs hP hD hS => ?_)
  have hP : va_P D vwCl [(m0, .inr (5, [.ref a0, .ref p0, .int (iI ho), .ref q0, .ref v0, .int (iI 0), .ref t0, .int (iI tl)]))] H := hP
  have hD : va_D A [(m0, .inr (5, [.ref a0, .ref p0, .int (iI ho), .ref q0, .ref v0, .int (iI 0), .ref t0, .int (iI tl)]))] := hD
  refine lv_aload_n hx hb dX5_clearText_5 rfl (lv_at hl 0 rfl) ?_
  refine va_get (D := D) (ci := 5) (v := .int (iI tl)) (C := RX5) (T := TX5) (N := 8) hx hb hts hiX5 hown hK hP 0 rfl rfl 7 (by decide) (hts (.fieldLink RX5 56 "BackwardSearchModel" "textLong" "I") (by decide +kernel)) (fun _ h9 => h9) rfl dX5_clearText_6 ?_
  refine lv_istore_n (lv' := [(1, .int (iI tl)), (0, .ref m0)]) hx hb dX5_clearText_9 rfl hl (by decide) rfl (fun ls hl => ?_)
  refine lv_aload_n hx hb dX5_clearText_10 rfl (lv_at hl 1 rfl) ?_
  refine lv_iconst (v := iI 0) hx hb dX5_clearText_11 rfl ?_
  refine va_put (D := D) (ci := 5) (v := .int (iI 0)) (ty := .int) (C := RX5) (T := TX5) (N := 8) hx hb hts hiX5 tyX5 tyX5_ok nmX5 hown hK hP hD hS 0 rfl rfl 7 (by decide) (hts (.fieldLink RX5 56 "BackwardSearchModel" "textLong" "I") (by decide +kernel)) (fun _ h9 => h9) rfl (by decide +kernel) rfl rfl (Nat.le_of_ble_eq_true rfl) dX5_clearText_12 (fun H locs hP hD hS => ?_)
  have hP : va_P D vwCl [(m0, .inr (5, [.ref a0, .ref p0, .int (iI ho), .ref q0, .ref v0, .int (iI 0), .ref t0, .int (iI 0)]))] H := hP
  have hD : va_D A [(m0, .inr (5, [.ref a0, .ref p0, .int (iI ho), .ref q0, .ref v0, .int (iI 0), .ref t0, .int (iI 0)]))] := hD
  refine lv_iload_n hx hb dX5_clearText_15 rfl (lv_at hl 0 rfl) ?_
  exact z_iret hx hb hr hlocks hS () (show (iI tl) = iI tl from rfl) hP dX5_clearText_16
set_option maxHeartbeats 4000000 in
set_option maxRecDepth 100000 in
theorem c_X5_isSlot (l : Launch) (D : va_G) (cy : Nat → ClassId) (x : Int) (hx1 : -2147483648 ≤ x ∧ x < 2147483648) : Ci l D cy yX5_isSlot wsX5_isSlot 0 0 [.int (iI x)] [] (fun (r : Int32) (u : Unit) => ((x = 0 ∨ x = 1) ∧ r = iI 1) ∨ (¬ (x = 0 ∨ x = 1) ∧ r = iI 0)) (fun u : Unit => []) := by
  refine Ci_of (cc := cX5_isSlot) (maxL := 1) (ret := (some .boolean)) (by decide) rfl rfl ?_
  intro p e s m args below meth c A hx hb hr hts hown hlocks hml hP hK hD hT hA ls hl
  have hS : va_S A s.heap s.heap [] := va_S.rf
  have hl : lv_has ls 1 [(0, .int (iI x))] := hl
  refine lv_iload_n hx hb dX5_isSlot_0 rfl (lv_at hl 0 rfl) ?_
  refine z_if_eq (tgt := 9) hx hb (iI_t (by omega) (by omega)) dX5_isSlot_1 (by decide) (fun c1 => ?_) (fun c1 => ?_)
  · --
    refine lv_iconst (v := iI 1) hx hb dX5_isSlot_9 rfl ?_
    refine lv_goto (tgt := 14) hx hb dX5_isSlot_10 (by decide) ?_
    exact z_zret hx hb hr hlocks (by decide +kernel) hS () (show ((x = 0 ∨ x = 1) ∧ (iI 1) = iI 1) ∨ (¬ (x = 0 ∨ x = 1) ∧ (iI 1) = iI 0) from (by first | exact Or.inl ⟨by omega, rfl⟩ | exact Or.inr ⟨by omega, rfl⟩)) hP dX5_isSlot_14
  · --
    refine lv_iload_n hx hb dX5_isSlot_4 rfl (lv_at hl 0 rfl) ?_
    refine lv_iconst (v := iI 1) hx hb dX5_isSlot_5 rfl ?_
    refine z_icmp_ne (tgt := 13) hx hb (iI_t (by omega) (by omega)) (iI_t (by omega) (by omega)) dX5_isSlot_6 (by decide) (fun c2 => ?_) (fun c2 => ?_)
    · --
      refine lv_iconst (v := iI 0) hx hb dX5_isSlot_13 rfl ?_
      exact z_zret hx hb hr hlocks (by decide +kernel) hS () (show ((x = 0 ∨ x = 1) ∧ (iI 0) = iI 1) ∨ (¬ (x = 0 ∨ x = 1) ∧ (iI 0) = iI 0) from (by first | exact Or.inl ⟨by omega, rfl⟩ | exact Or.inr ⟨by omega, rfl⟩)) hP dX5_isSlot_14
    · --
      refine lv_iconst (v := iI 1) hx hb dX5_isSlot_9 rfl ?_
      refine lv_goto (tgt := 14) hx hb dX5_isSlot_10 (by decide) ?_
      exact z_zret hx hb hr hlocks (by decide +kernel) hS () (show ((x = 0 ∨ x = 1) ∧ (iI 1) = iI 1) ∨ (¬ (x = 0 ∨ x = 1) ∧ (iI 1) = iI 0) from (by first | exact Or.inl ⟨by omega, rfl⟩ | exact Or.inr ⟨by omega, rfl⟩)) hP dX5_isSlot_14

theorem dX5_thrown_0 : decode cX5_thrown 0 = .ok (.aload_n 0, 1) := by decide +kernel
theorem dX5_thrown_1 : decode cX5_thrown 1 = .ok (.getfield 25, 3) := by decide +kernel
theorem dX5_thrown_4 : decode cX5_thrown 4 = .ok (.ireturn, 1) := by decide +kernel
theorem dX5_fails_0 : decode cX5_fails 0 = .ok (.aload_n 0, 1) := by decide +kernel
theorem dX5_fails_1 : decode cX5_fails 1 = .ok (.iload_n 1, 1) := by decide +kernel
theorem dX5_fails_2 : decode cX5_fails 2 = .ok (.putfield 25, 3) := by decide +kernel
theorem dX5_fails_5 : decode cX5_fails 5 = .ok (.iconst 0, 1) := by decide +kernel
theorem dX5_fails_6 : decode cX5_fails 6 = .ok (.ireturn, 1) := by decide +kernel
theorem dX5_told_0 : decode cX5_told 0 = .ok (.aload_n 0, 1) := by decide +kernel
theorem dX5_told_1 : decode cX5_told 1 = .ok (.iconst 0, 1) := by decide +kernel
theorem dX5_told_2 : decode cX5_told 2 = .ok (.putfield 25, 3) := by decide +kernel
theorem dX5_told_5 : decode cX5_told 5 = .ok (.iload_n 1, 1) := by decide +kernel
theorem dX5_told_6 : decode cX5_told 6 = .ok (.ireturn, 1) := by decide +kernel
theorem dX5_in_0 : decode cX5_in 0 = .ok (.lload_n 0, 1) := by decide +kernel
theorem dX5_in_1 : decode cX5_in 1 = .ok (.lload_n 2, 1) := by decide +kernel
theorem dX5_in_2 : decode cX5_in 2 = .ok (.lcmp, 1) := by decide +kernel
theorem dX5_in_3 : decode cX5_in 3 = .ok (.ifCond .lt 14, 3) := by decide +kernel
theorem dX5_in_6 : decode cX5_in 6 = .ok (.lload_n 0, 1) := by decide +kernel
theorem dX5_in_7 : decode cX5_in 7 = .ok (.lload 4, 2) := by decide +kernel
theorem dX5_in_9 : decode cX5_in 9 = .ok (.lcmp, 1) := by decide +kernel
theorem dX5_in_10 : decode cX5_in 10 = .ok (.ifCond .gt 7, 3) := by decide +kernel
theorem dX5_in_13 : decode cX5_in 13 = .ok (.iconst 1, 1) := by decide +kernel
theorem dX5_in_14 : decode cX5_in 14 = .ok (.goto 4, 3) := by decide +kernel
theorem dX5_in_17 : decode cX5_in 17 = .ok (.iconst 0, 1) := by decide +kernel
theorem dX5_in_18 : decode cX5_in 18 = .ok (.ireturn, 1) := by decide +kernel
theorem dX5_isLetter_0 : decode cX5_isLetter 0 = .ok (.iload_n 0, 1) := by decide +kernel
theorem dX5_isLetter_1 : decode cX5_isLetter 1 = .ok (.i2l, 1) := by decide +kernel
theorem dX5_isLetter_2 : decode cX5_isLetter 2 = .ok (.lconst 0, 1) := by decide +kernel
theorem dX5_isLetter_3 : decode cX5_isLetter 3 = .ok (.ldc2_w 32, 3) := by decide +kernel
theorem dX5_isLetter_6 : decode cX5_isLetter 6 = .ok (.invokestatic 34, 3) := by decide +kernel
theorem dX5_isLetter_9 : decode cX5_isLetter 9 = .ok (.ireturn, 1) := by decide +kernel
set_option maxRecDepth 20000 in
theorem ggX5_isLetter_X5_in : GoodIn wsX5_isLetter wsX5_in := goodIn_r _ [5] (by decide +kernel) (by decide +kernel)
set_option maxRecDepth 20000 in
theorem gX5_isLetter_X5_in : GoodIn wsX5_isLetter (va_wsS RX5 34 yX5_in wsX5_in) := goodIn_app (goodIn_of _ (by decide +kernel)) ggX5_isLetter_X5_in
theorem dX5_isInWord_0 : decode cX5_isInWord 0 = .ok (.iload_n 1, 1) := by decide +kernel
theorem dX5_isInWord_1 : decode cX5_isInWord 1 = .ok (.i2l, 1) := by decide +kernel
theorem dX5_isInWord_2 : decode cX5_isInWord 2 = .ok (.lconst 0, 1) := by decide +kernel
theorem dX5_isInWord_3 : decode cX5_isInWord 3 = .ok (.aload_n 0, 1) := by decide +kernel
theorem dX5_isInWord_4 : decode cX5_isInWord 4 = .ok (.getfield 7, 3) := by decide +kernel
theorem dX5_isInWord_7 : decode cX5_isInWord 7 = .ok (.bipush 61, 2) := by decide +kernel
theorem dX5_isInWord_9 : decode cX5_isInWord 9 = .ok (.iaload, 1) := by decide +kernel
theorem dX5_isInWord_10 : decode cX5_isInWord 10 = .ok (.i2l, 1) := by decide +kernel
theorem dX5_isInWord_11 : decode cX5_isInWord 11 = .ok (.lconst 1, 1) := by decide +kernel
theorem dX5_isInWord_12 : decode cX5_isInWord 12 = .ok (.lsub, 1) := by decide +kernel
theorem dX5_isInWord_13 : decode cX5_isInWord 13 = .ok (.invokestatic 34, 3) := by decide +kernel
theorem dX5_isInWord_16 : decode cX5_isInWord 16 = .ok (.ireturn, 1) := by decide +kernel
set_option maxRecDepth 20000 in
theorem ggX5_isInWord_X5_in : GoodIn wsX5_isInWord wsX5_in := goodIn_r _ [5] (by decide +kernel) (by decide +kernel)
set_option maxRecDepth 20000 in
theorem gX5_isInWord_X5_in : GoodIn wsX5_isInWord (va_wsS RX5 34 yX5_in wsX5_in) := goodIn_app (goodIn_of _ (by decide +kernel)) ggX5_isInWord_X5_in
theorem dX5_isInLine_0 : decode cX5_isInLine 0 = .ok (.iload_n 1, 1) := by decide +kernel
theorem dX5_isInLine_1 : decode cX5_isInLine 1 = .ok (.i2l, 1) := by decide +kernel
theorem dX5_isInLine_2 : decode cX5_isInLine 2 = .ok (.lconst 0, 1) := by decide +kernel
theorem dX5_isInLine_3 : decode cX5_isInLine 3 = .ok (.aload_n 0, 1) := by decide +kernel
theorem dX5_isInLine_4 : decode cX5_isInLine 4 = .ok (.getfield 7, 3) := by decide +kernel
theorem dX5_isInLine_7 : decode cX5_isInLine 7 = .ok (.iconst 0, 1) := by decide +kernel
theorem dX5_isInLine_8 : decode cX5_isInLine 8 = .ok (.iaload, 1) := by decide +kernel
theorem dX5_isInLine_9 : decode cX5_isInLine 9 = .ok (.i2l, 1) := by decide +kernel
theorem dX5_isInLine_10 : decode cX5_isInLine 10 = .ok (.lconst 1, 1) := by decide +kernel
theorem dX5_isInLine_11 : decode cX5_isInLine 11 = .ok (.lsub, 1) := by decide +kernel
theorem dX5_isInLine_12 : decode cX5_isInLine 12 = .ok (.invokestatic 34, 3) := by decide +kernel
theorem dX5_isInLine_15 : decode cX5_isInLine 15 = .ok (.ireturn, 1) := by decide +kernel
set_option maxRecDepth 20000 in
theorem ggX5_isInLine_X5_in : GoodIn wsX5_isInLine wsX5_in := goodIn_r _ [5] (by decide +kernel) (by decide +kernel)
set_option maxRecDepth 20000 in
theorem gX5_isInLine_X5_in : GoodIn wsX5_isInLine (va_wsS RX5 34 yX5_in wsX5_in) := goodIn_app (goodIn_of _ (by decide +kernel)) ggX5_isInLine_X5_in
theorem dX5_lastOf_0 : decode cX5_lastOf 0 = .ok (.iconst (-1), 1) := by decide +kernel
theorem dX5_lastOf_1 : decode cX5_lastOf 1 = .ok (.istore_n 2, 1) := by decide +kernel
theorem dX5_lastOf_2 : decode cX5_lastOf 2 = .ok (.iconst 0, 1) := by decide +kernel
theorem dX5_lastOf_3 : decode cX5_lastOf 3 = .ok (.istore_n 3, 1) := by decide +kernel
theorem dX5_lastOf_4 : decode cX5_lastOf 4 = .ok (.iload_n 3, 1) := by decide +kernel
theorem dX5_lastOf_5 : decode cX5_lastOf 5 = .ok (.aload_n 0, 1) := by decide +kernel
theorem dX5_lastOf_6 : decode cX5_lastOf 6 = .ok (.getfield 7, 3) := by decide +kernel
theorem dX5_lastOf_9 : decode cX5_lastOf 9 = .ok (.bipush 61, 2) := by decide +kernel
theorem dX5_lastOf_11 : decode cX5_lastOf 11 = .ok (.iaload, 1) := by decide +kernel
theorem dX5_lastOf_12 : decode cX5_lastOf 12 = .ok (.if_icmp .ge 28, 3) := by decide +kernel
theorem dX5_lastOf_15 : decode cX5_lastOf 15 = .ok (.aload_n 0, 1) := by decide +kernel
theorem dX5_lastOf_16 : decode cX5_lastOf 16 = .ok (.getfield 7, 3) := by decide +kernel
theorem dX5_lastOf_19 : decode cX5_lastOf 19 = .ok (.bipush 62, 2) := by decide +kernel
theorem dX5_lastOf_21 : decode cX5_lastOf 21 = .ok (.iload_n 3, 1) := by decide +kernel
theorem dX5_lastOf_22 : decode cX5_lastOf 22 = .ok (.iadd, 1) := by decide +kernel
theorem dX5_lastOf_23 : decode cX5_lastOf 23 = .ok (.iaload, 1) := by decide +kernel
theorem dX5_lastOf_24 : decode cX5_lastOf 24 = .ok (.iload_n 1, 1) := by decide +kernel
theorem dX5_lastOf_25 : decode cX5_lastOf 25 = .ok (.if_icmp .ne 7, 3) := by decide +kernel
theorem dX5_lastOf_28 : decode cX5_lastOf 28 = .ok (.iload_n 3, 1) := by decide +kernel
theorem dX5_lastOf_29 : decode cX5_lastOf 29 = .ok (.goto 4, 3) := by decide +kernel
theorem dX5_lastOf_32 : decode cX5_lastOf 32 = .ok (.iload_n 2, 1) := by decide +kernel
theorem dX5_lastOf_33 : decode cX5_lastOf 33 = .ok (.istore_n 2, 1) := by decide +kernel
theorem dX5_lastOf_34 : decode cX5_lastOf 34 = .ok (.iinc 3 1, 3) := by decide +kernel
theorem dX5_lastOf_37 : decode cX5_lastOf 37 = .ok (.goto (-33), 3) := by decide +kernel
theorem dX5_lastOf_40 : decode cX5_lastOf 40 = .ok (.iload_n 2, 1) := by decide +kernel
theorem dX5_lastOf_41 : decode cX5_lastOf 41 = .ok (.ireturn, 1) := by decide +kernel
theorem dX5_fits_0 : decode cX5_fits 0 = .ok (.iload_n 1, 1) := by decide +kernel
theorem dX5_fits_1 : decode cX5_fits 1 = .ok (.iload_n 2, 1) := by decide +kernel
theorem dX5_fits_2 : decode cX5_fits 2 = .ok (.if_icmp .lt 26, 3) := by decide +kernel
theorem dX5_fits_5 : decode cX5_fits 5 = .ok (.aload_n 0, 1) := by decide +kernel
theorem dX5_fits_6 : decode cX5_fits 6 = .ok (.getfield 7, 3) := by decide +kernel
theorem dX5_fits_9 : decode cX5_fits 9 = .ok (.bipush 62, 2) := by decide +kernel
theorem dX5_fits_11 : decode cX5_fits 11 = .ok (.iload_n 1, 1) := by decide +kernel
theorem dX5_fits_12 : decode cX5_fits 12 = .ok (.iadd, 1) := by decide +kernel
theorem dX5_fits_13 : decode cX5_fits 13 = .ok (.iaload, 1) := by decide +kernel
theorem dX5_fits_14 : decode cX5_fits 14 = .ok (.aload_n 0, 1) := by decide +kernel
theorem dX5_fits_15 : decode cX5_fits 15 = .ok (.getfield 7, 3) := by decide +kernel
theorem dX5_fits_18 : decode cX5_fits 18 = .ok (.bipush 62, 2) := by decide +kernel
theorem dX5_fits_20 : decode cX5_fits 20 = .ok (.iload_n 1, 1) := by decide +kernel
theorem dX5_fits_21 : decode cX5_fits 21 = .ok (.iadd, 1) := by decide +kernel
theorem dX5_fits_22 : decode cX5_fits 22 = .ok (.iload_n 2, 1) := by decide +kernel
theorem dX5_fits_23 : decode cX5_fits 23 = .ok (.isub, 1) := by decide +kernel
theorem dX5_fits_24 : decode cX5_fits 24 = .ok (.iaload, 1) := by decide +kernel
theorem dX5_fits_25 : decode cX5_fits 25 = .ok (.if_icmp .eq 7, 3) := by decide +kernel
theorem dX5_fits_28 : decode cX5_fits 28 = .ok (.iconst 1, 1) := by decide +kernel
theorem dX5_fits_29 : decode cX5_fits 29 = .ok (.goto 4, 3) := by decide +kernel
theorem dX5_fits_32 : decode cX5_fits 32 = .ok (.iconst 0, 1) := by decide +kernel
theorem dX5_fits_33 : decode cX5_fits 33 = .ok (.istore_n 3, 1) := by decide +kernel
theorem dX5_fits_34 : decode cX5_fits 34 = .ok (.iload_n 1, 1) := by decide +kernel
theorem dX5_fits_35 : decode cX5_fits 35 = .ok (.iconst 1, 1) := by decide +kernel
theorem dX5_fits_36 : decode cX5_fits 36 = .ok (.iadd, 1) := by decide +kernel
theorem dX5_fits_37 : decode cX5_fits 37 = .ok (.istore 4, 2) := by decide +kernel
theorem dX5_fits_39 : decode cX5_fits 39 = .ok (.iload 4, 2) := by decide +kernel
theorem dX5_fits_41 : decode cX5_fits 41 = .ok (.aload_n 0, 1) := by decide +kernel
theorem dX5_fits_42 : decode cX5_fits 42 = .ok (.getfield 7, 3) := by decide +kernel
theorem dX5_fits_45 : decode cX5_fits 45 = .ok (.bipush 61, 2) := by decide +kernel
theorem dX5_fits_47 : decode cX5_fits 47 = .ok (.iaload, 1) := by decide +kernel
theorem dX5_fits_48 : decode cX5_fits 48 = .ok (.if_icmp .ge 50, 3) := by decide +kernel
theorem dX5_fits_51 : decode cX5_fits 51 = .ok (.iload_n 3, 1) := by decide +kernel
theorem dX5_fits_52 : decode cX5_fits 52 = .ok (.ifCond .eq 38, 3) := by decide +kernel
theorem dX5_fits_55 : decode cX5_fits 55 = .ok (.iload 4, 2) := by decide +kernel
theorem dX5_fits_57 : decode cX5_fits 57 = .ok (.iload_n 2, 1) := by decide +kernel
theorem dX5_fits_58 : decode cX5_fits 58 = .ok (.if_icmp .lt 28, 3) := by decide +kernel
theorem dX5_fits_61 : decode cX5_fits 61 = .ok (.aload_n 0, 1) := by decide +kernel
theorem dX5_fits_62 : decode cX5_fits 62 = .ok (.getfield 7, 3) := by decide +kernel
theorem dX5_fits_65 : decode cX5_fits 65 = .ok (.bipush 62, 2) := by decide +kernel
theorem dX5_fits_67 : decode cX5_fits 67 = .ok (.iload 4, 2) := by decide +kernel
theorem dX5_fits_69 : decode cX5_fits 69 = .ok (.iadd, 1) := by decide +kernel
theorem dX5_fits_70 : decode cX5_fits 70 = .ok (.iaload, 1) := by decide +kernel
theorem dX5_fits_71 : decode cX5_fits 71 = .ok (.aload_n 0, 1) := by decide +kernel
theorem dX5_fits_72 : decode cX5_fits 72 = .ok (.getfield 7, 3) := by decide +kernel
theorem dX5_fits_75 : decode cX5_fits 75 = .ok (.bipush 62, 2) := by decide +kernel
theorem dX5_fits_77 : decode cX5_fits 77 = .ok (.iload 4, 2) := by decide +kernel
theorem dX5_fits_79 : decode cX5_fits 79 = .ok (.iadd, 1) := by decide +kernel
theorem dX5_fits_80 : decode cX5_fits 80 = .ok (.iload_n 2, 1) := by decide +kernel
theorem dX5_fits_81 : decode cX5_fits 81 = .ok (.isub, 1) := by decide +kernel
theorem dX5_fits_82 : decode cX5_fits 82 = .ok (.iaload, 1) := by decide +kernel
theorem dX5_fits_83 : decode cX5_fits 83 = .ok (.if_icmp .ne 7, 3) := by decide +kernel
theorem dX5_fits_86 : decode cX5_fits 86 = .ok (.iconst 1, 1) := by decide +kernel
theorem dX5_fits_87 : decode cX5_fits 87 = .ok (.goto 4, 3) := by decide +kernel
theorem dX5_fits_90 : decode cX5_fits 90 = .ok (.iconst 0, 1) := by decide +kernel
theorem dX5_fits_91 : decode cX5_fits 91 = .ok (.istore_n 3, 1) := by decide +kernel
theorem dX5_fits_92 : decode cX5_fits 92 = .ok (.iinc 4 1, 3) := by decide +kernel
theorem dX5_fits_95 : decode cX5_fits 95 = .ok (.goto (-56), 3) := by decide +kernel
theorem dX5_fits_98 : decode cX5_fits 98 = .ok (.iload_n 3, 1) := by decide +kernel
theorem dX5_fits_99 : decode cX5_fits 99 = .ok (.ireturn, 1) := by decide +kernel
theorem dX5_endSkipOf_0 : decode cX5_endSkipOf 0 = .ok (.iconst 1, 1) := by decide +kernel
theorem dX5_endSkipOf_1 : decode cX5_endSkipOf 1 = .ok (.istore_n 2, 1) := by decide +kernel
theorem dX5_endSkipOf_2 : decode cX5_endSkipOf 2 = .ok (.aload_n 0, 1) := by decide +kernel
theorem dX5_endSkipOf_3 : decode cX5_endSkipOf 3 = .ok (.iload_n 1, 1) := by decide +kernel
theorem dX5_endSkipOf_4 : decode cX5_endSkipOf 4 = .ok (.iload_n 2, 1) := by decide +kernel
theorem dX5_endSkipOf_5 : decode cX5_endSkipOf 5 = .ok (.invokevirtual 38, 3) := by decide +kernel
theorem dX5_endSkipOf_8 : decode cX5_endSkipOf 8 = .ok (.ifCond .ne 9, 3) := by decide +kernel
theorem dX5_endSkipOf_11 : decode cX5_endSkipOf 11 = .ok (.iinc 2 1, 3) := by decide +kernel
theorem dX5_endSkipOf_14 : decode cX5_endSkipOf 14 = .ok (.goto (-12), 3) := by decide +kernel
theorem dX5_endSkipOf_17 : decode cX5_endSkipOf 17 = .ok (.iload_n 2, 1) := by decide +kernel
theorem dX5_endSkipOf_18 : decode cX5_endSkipOf 18 = .ok (.ireturn, 1) := by decide +kernel
set_option maxRecDepth 20000 in
theorem ggX5_endSkipOf_X5_fits : GoodIn wsX5_endSkipOf wsX5_fits := goodIn_r _ [5, 6, 7, 8, 9, 10, 11, 12, 13, 14] (by decide +kernel) (by decide +kernel)
set_option maxRecDepth 20000 in
theorem gX5_endSkipOf_X5_fits : GoodIn wsX5_endSkipOf (wsV RX5 38 RX5 yX5_fits wsX5_fits) := goodIn_app (goodIn_of _ (by decide +kernel)) ggX5_endSkipOf_X5_fits
theorem dX5_periodNow_0 : decode cX5_periodNow 0 = .ok (.aload_n 0, 1) := by decide +kernel
theorem dX5_periodNow_1 : decode cX5_periodNow 1 = .ok (.getfield 7, 3) := by decide +kernel
theorem dX5_periodNow_4 : decode cX5_periodNow 4 = .ok (.bipush 61, 2) := by decide +kernel
theorem dX5_periodNow_6 : decode cX5_periodNow 6 = .ok (.iaload, 1) := by decide +kernel
theorem dX5_periodNow_7 : decode cX5_periodNow 7 = .ok (.istore_n 1, 1) := by decide +kernel
theorem dX5_periodNow_8 : decode cX5_periodNow 8 = .ok (.iload_n 1, 1) := by decide +kernel
theorem dX5_periodNow_9 : decode cX5_periodNow 9 = .ok (.ifCond .ne 7, 3) := by decide +kernel
theorem dX5_periodNow_12 : decode cX5_periodNow 12 = .ok (.iconst 0, 1) := by decide +kernel
theorem dX5_periodNow_13 : decode cX5_periodNow 13 = .ok (.goto 4, 3) := by decide +kernel
theorem dX5_periodNow_16 : decode cX5_periodNow 16 = .ok (.iconst 1, 1) := by decide +kernel
theorem dX5_periodNow_17 : decode cX5_periodNow 17 = .ok (.istore_n 2, 1) := by decide +kernel
theorem dX5_periodNow_18 : decode cX5_periodNow 18 = .ok (.iload_n 1, 1) := by decide +kernel
theorem dX5_periodNow_19 : decode cX5_periodNow 19 = .ok (.ifCond .ne 7, 3) := by decide +kernel
theorem dX5_periodNow_22 : decode cX5_periodNow 22 = .ok (.iconst 1, 1) := by decide +kernel
theorem dX5_periodNow_23 : decode cX5_periodNow 23 = .ok (.goto 4, 3) := by decide +kernel
theorem dX5_periodNow_26 : decode cX5_periodNow 26 = .ok (.iconst 0, 1) := by decide +kernel
theorem dX5_periodNow_27 : decode cX5_periodNow 27 = .ok (.istore_n 3, 1) := by decide +kernel
theorem dX5_periodNow_28 : decode cX5_periodNow 28 = .ok (.iload_n 3, 1) := by decide +kernel
theorem dX5_periodNow_29 : decode cX5_periodNow 29 = .ok (.ifCond .ne 70, 3) := by decide +kernel
theorem dX5_periodNow_32 : decode cX5_periodNow 32 = .ok (.iconst 1, 1) := by decide +kernel
theorem dX5_periodNow_33 : decode cX5_periodNow 33 = .ok (.istore_n 3, 1) := by decide +kernel
theorem dX5_periodNow_34 : decode cX5_periodNow 34 = .ok (.iload_n 2, 1) := by decide +kernel
theorem dX5_periodNow_35 : decode cX5_periodNow 35 = .ok (.istore 4, 2) := by decide +kernel
theorem dX5_periodNow_37 : decode cX5_periodNow 37 = .ok (.iload 4, 2) := by decide +kernel
theorem dX5_periodNow_39 : decode cX5_periodNow 39 = .ok (.iload_n 1, 1) := by decide +kernel
theorem dX5_periodNow_40 : decode cX5_periodNow 40 = .ok (.if_icmp .ge 44, 3) := by decide +kernel
theorem dX5_periodNow_43 : decode cX5_periodNow 43 = .ok (.iload_n 3, 1) := by decide +kernel
theorem dX5_periodNow_44 : decode cX5_periodNow 44 = .ok (.ifCond .eq 32, 3) := by decide +kernel
theorem dX5_periodNow_47 : decode cX5_periodNow 47 = .ok (.aload_n 0, 1) := by decide +kernel
theorem dX5_periodNow_48 : decode cX5_periodNow 48 = .ok (.getfield 7, 3) := by decide +kernel
theorem dX5_periodNow_51 : decode cX5_periodNow 51 = .ok (.bipush 62, 2) := by decide +kernel
theorem dX5_periodNow_53 : decode cX5_periodNow 53 = .ok (.iload 4, 2) := by decide +kernel
theorem dX5_periodNow_55 : decode cX5_periodNow 55 = .ok (.iadd, 1) := by decide +kernel
theorem dX5_periodNow_56 : decode cX5_periodNow 56 = .ok (.iaload, 1) := by decide +kernel
theorem dX5_periodNow_57 : decode cX5_periodNow 57 = .ok (.aload_n 0, 1) := by decide +kernel
theorem dX5_periodNow_58 : decode cX5_periodNow 58 = .ok (.getfield 7, 3) := by decide +kernel
theorem dX5_periodNow_61 : decode cX5_periodNow 61 = .ok (.bipush 62, 2) := by decide +kernel
theorem dX5_periodNow_63 : decode cX5_periodNow 63 = .ok (.iload 4, 2) := by decide +kernel
theorem dX5_periodNow_65 : decode cX5_periodNow 65 = .ok (.iadd, 1) := by decide +kernel
theorem dX5_periodNow_66 : decode cX5_periodNow 66 = .ok (.iload_n 2, 1) := by decide +kernel
theorem dX5_periodNow_67 : decode cX5_periodNow 67 = .ok (.isub, 1) := by decide +kernel
theorem dX5_periodNow_68 : decode cX5_periodNow 68 = .ok (.iaload, 1) := by decide +kernel
theorem dX5_periodNow_69 : decode cX5_periodNow 69 = .ok (.if_icmp .ne 7, 3) := by decide +kernel
theorem dX5_periodNow_72 : decode cX5_periodNow 72 = .ok (.iconst 1, 1) := by decide +kernel
theorem dX5_periodNow_73 : decode cX5_periodNow 73 = .ok (.goto 4, 3) := by decide +kernel
theorem dX5_periodNow_76 : decode cX5_periodNow 76 = .ok (.iconst 0, 1) := by decide +kernel
theorem dX5_periodNow_77 : decode cX5_periodNow 77 = .ok (.istore_n 3, 1) := by decide +kernel
theorem dX5_periodNow_78 : decode cX5_periodNow 78 = .ok (.iinc 4 1, 3) := by decide +kernel
theorem dX5_periodNow_81 : decode cX5_periodNow 81 = .ok (.goto (-44), 3) := by decide +kernel
theorem dX5_periodNow_84 : decode cX5_periodNow 84 = .ok (.iload_n 2, 1) := by decide +kernel
theorem dX5_periodNow_85 : decode cX5_periodNow 85 = .ok (.iload_n 3, 1) := by decide +kernel
theorem dX5_periodNow_86 : decode cX5_periodNow 86 = .ok (.ifCond .eq 7, 3) := by decide +kernel
theorem dX5_periodNow_89 : decode cX5_periodNow 89 = .ok (.iconst 0, 1) := by decide +kernel
theorem dX5_periodNow_90 : decode cX5_periodNow 90 = .ok (.goto 4, 3) := by decide +kernel
theorem dX5_periodNow_93 : decode cX5_periodNow 93 = .ok (.iconst 1, 1) := by decide +kernel
theorem dX5_periodNow_94 : decode cX5_periodNow 94 = .ok (.iadd, 1) := by decide +kernel
theorem dX5_periodNow_95 : decode cX5_periodNow 95 = .ok (.istore_n 2, 1) := by decide +kernel
theorem dX5_periodNow_96 : decode cX5_periodNow 96 = .ok (.goto (-68), 3) := by decide +kernel
theorem dX5_periodNow_99 : decode cX5_periodNow 99 = .ok (.iload_n 2, 1) := by decide +kernel
theorem dX5_periodNow_100 : decode cX5_periodNow 100 = .ok (.ireturn, 1) := by decide +kernel
theorem dX5_difference_0 : decode cX5_difference 0 = .ok (.aload_n 0, 1) := by decide +kernel
theorem dX5_difference_1 : decode cX5_difference 1 = .ok (.getfield 7, 3) := by decide +kernel
theorem dX5_difference_4 : decode cX5_difference 4 = .ok (.bipush 61, 2) := by decide +kernel
theorem dX5_difference_6 : decode cX5_difference 6 = .ok (.iaload, 1) := by decide +kernel
theorem dX5_difference_7 : decode cX5_difference 7 = .ok (.iconst 1, 1) := by decide +kernel
theorem dX5_difference_8 : decode cX5_difference 8 = .ok (.isub, 1) := by decide +kernel
theorem dX5_difference_9 : decode cX5_difference 9 = .ok (.istore_n 2, 1) := by decide +kernel
theorem dX5_difference_10 : decode cX5_difference 10 = .ok (.iload_n 2, 1) := by decide +kernel
theorem dX5_difference_11 : decode cX5_difference 11 = .ok (.ifCond .lt 31, 3) := by decide +kernel
theorem dX5_difference_14 : decode cX5_difference 14 = .ok (.aload_n 0, 1) := by decide +kernel
theorem dX5_difference_15 : decode cX5_difference 15 = .ok (.getfield 7, 3) := by decide +kernel
theorem dX5_difference_18 : decode cX5_difference 18 = .ok (.bipush 62, 2) := by decide +kernel
theorem dX5_difference_20 : decode cX5_difference 20 = .ok (.iload_n 2, 1) := by decide +kernel
theorem dX5_difference_21 : decode cX5_difference 21 = .ok (.iadd, 1) := by decide +kernel
theorem dX5_difference_22 : decode cX5_difference 22 = .ok (.iaload, 1) := by decide +kernel
theorem dX5_difference_23 : decode cX5_difference 23 = .ok (.aload_n 0, 1) := by decide +kernel
theorem dX5_difference_24 : decode cX5_difference 24 = .ok (.getfield 7, 3) := by decide +kernel
theorem dX5_difference_27 : decode cX5_difference 27 = .ok (.iconst 1, 1) := by decide +kernel
theorem dX5_difference_28 : decode cX5_difference 28 = .ok (.iload_n 1, 1) := by decide +kernel
theorem dX5_difference_29 : decode cX5_difference 29 = .ok (.iadd, 1) := by decide +kernel
theorem dX5_difference_30 : decode cX5_difference 30 = .ok (.iload_n 2, 1) := by decide +kernel
theorem dX5_difference_31 : decode cX5_difference 31 = .ok (.iadd, 1) := by decide +kernel
theorem dX5_difference_32 : decode cX5_difference 32 = .ok (.iaload, 1) := by decide +kernel
theorem dX5_difference_33 : decode cX5_difference 33 = .ok (.if_icmp .ne 9, 3) := by decide +kernel
theorem dX5_difference_36 : decode cX5_difference 36 = .ok (.iinc 2 (-1), 3) := by decide +kernel
theorem dX5_difference_39 : decode cX5_difference 39 = .ok (.goto (-29), 3) := by decide +kernel
theorem dX5_difference_42 : decode cX5_difference 42 = .ok (.iload_n 2, 1) := by decide +kernel
theorem dX5_difference_43 : decode cX5_difference 43 = .ok (.ireturn, 1) := by decide +kernel
theorem dX5_skipBy_0 : decode cX5_skipBy 0 = .ok (.iload_n 2, 1) := by decide +kernel
theorem dX5_skipBy_1 : decode cX5_skipBy 1 = .ok (.ifCond .ge 8, 3) := by decide +kernel
theorem dX5_skipBy_4 : decode cX5_skipBy 4 = .ok (.aload_n 0, 1) := by decide +kernel
theorem dX5_skipBy_5 : decode cX5_skipBy 5 = .ok (.invokevirtual 42, 3) := by decide +kernel
theorem dX5_skipBy_8 : decode cX5_skipBy 8 = .ok (.ireturn, 1) := by decide +kernel
theorem dX5_skipBy_9 : decode cX5_skipBy 9 = .ok (.iconst 1, 1) := by decide +kernel
theorem dX5_skipBy_10 : decode cX5_skipBy 10 = .ok (.istore 5, 2) := by decide +kernel
theorem dX5_skipBy_12 : decode cX5_skipBy 12 = .ok (.iload_n 3, 1) := by decide +kernel
theorem dX5_skipBy_13 : decode cX5_skipBy 13 = .ok (.ifCond .eq 22, 3) := by decide +kernel
theorem dX5_skipBy_16 : decode cX5_skipBy 16 = .ok (.iload_n 2, 1) := by decide +kernel
theorem dX5_skipBy_17 : decode cX5_skipBy 17 = .ok (.aload_n 0, 1) := by decide +kernel
theorem dX5_skipBy_18 : decode cX5_skipBy 18 = .ok (.aload_n 0, 1) := by decide +kernel
theorem dX5_skipBy_19 : decode cX5_skipBy 19 = .ok (.getfield 7, 3) := by decide +kernel
theorem dX5_skipBy_22 : decode cX5_skipBy 22 = .ok (.iconst 1, 1) := by decide +kernel
theorem dX5_skipBy_23 : decode cX5_skipBy 23 = .ok (.iload_n 1, 1) := by decide +kernel
theorem dX5_skipBy_24 : decode cX5_skipBy 24 = .ok (.iadd, 1) := by decide +kernel
theorem dX5_skipBy_25 : decode cX5_skipBy 25 = .ok (.iload_n 2, 1) := by decide +kernel
theorem dX5_skipBy_26 : decode cX5_skipBy 26 = .ok (.iadd, 1) := by decide +kernel
theorem dX5_skipBy_27 : decode cX5_skipBy 27 = .ok (.iaload, 1) := by decide +kernel
theorem dX5_skipBy_28 : decode cX5_skipBy 28 = .ok (.invokevirtual 46, 3) := by decide +kernel
theorem dX5_skipBy_31 : decode cX5_skipBy 31 = .ok (.isub, 1) := by decide +kernel
theorem dX5_skipBy_32 : decode cX5_skipBy 32 = .ok (.goto 4, 3) := by decide +kernel
theorem dX5_skipBy_35 : decode cX5_skipBy 35 = .ok (.iconst 1, 1) := by decide +kernel
theorem dX5_skipBy_36 : decode cX5_skipBy 36 = .ok (.istore 6, 2) := by decide +kernel
theorem dX5_skipBy_38 : decode cX5_skipBy 38 = .ok (.iload 4, 2) := by decide +kernel
theorem dX5_skipBy_40 : decode cX5_skipBy 40 = .ok (.ifCond .eq 11, 3) := by decide +kernel
theorem dX5_skipBy_43 : decode cX5_skipBy 43 = .ok (.aload_n 0, 1) := by decide +kernel
theorem dX5_skipBy_44 : decode cX5_skipBy 44 = .ok (.iload_n 2, 1) := by decide +kernel
theorem dX5_skipBy_45 : decode cX5_skipBy 45 = .ok (.invokevirtual 50, 3) := by decide +kernel
theorem dX5_skipBy_48 : decode cX5_skipBy 48 = .ok (.goto 4, 3) := by decide +kernel
theorem dX5_skipBy_51 : decode cX5_skipBy 51 = .ok (.iconst 1, 1) := by decide +kernel
theorem dX5_skipBy_52 : decode cX5_skipBy 52 = .ok (.istore 7, 2) := by decide +kernel
theorem dX5_skipBy_54 : decode cX5_skipBy 54 = .ok (.iload 6, 2) := by decide +kernel
theorem dX5_skipBy_56 : decode cX5_skipBy 56 = .ok (.iload 5, 2) := by decide +kernel
theorem dX5_skipBy_58 : decode cX5_skipBy 58 = .ok (.if_icmp .le 8, 3) := by decide +kernel
theorem dX5_skipBy_61 : decode cX5_skipBy 61 = .ok (.iload 6, 2) := by decide +kernel
theorem dX5_skipBy_63 : decode cX5_skipBy 63 = .ok (.goto 5, 3) := by decide +kernel
theorem dX5_skipBy_66 : decode cX5_skipBy 66 = .ok (.iload 5, 2) := by decide +kernel
theorem dX5_skipBy_68 : decode cX5_skipBy 68 = .ok (.istore 5, 2) := by decide +kernel
theorem dX5_skipBy_70 : decode cX5_skipBy 70 = .ok (.iload 7, 2) := by decide +kernel
theorem dX5_skipBy_72 : decode cX5_skipBy 72 = .ok (.iload 5, 2) := by decide +kernel
theorem dX5_skipBy_74 : decode cX5_skipBy 74 = .ok (.if_icmp .le 8, 3) := by decide +kernel
theorem dX5_skipBy_77 : decode cX5_skipBy 77 = .ok (.iload 7, 2) := by decide +kernel
theorem dX5_skipBy_79 : decode cX5_skipBy 79 = .ok (.goto 5, 3) := by decide +kernel
theorem dX5_skipBy_82 : decode cX5_skipBy 82 = .ok (.iload 5, 2) := by decide +kernel
theorem dX5_skipBy_84 : decode cX5_skipBy 84 = .ok (.ireturn, 1) := by decide +kernel
set_option maxRecDepth 20000 in
theorem ggX5_skipBy_X5_periodNow : GoodIn wsX5_skipBy wsX5_periodNow := goodIn_r _ [6, 1, 19, 20, 21, 22, 23, 24, 25, 26] (by decide +kernel) (by decide +kernel)
set_option maxRecDepth 20000 in
theorem gX5_skipBy_X5_periodNow : GoodIn wsX5_skipBy (wsV RX5 42 RX5 yX5_periodNow wsX5_periodNow) := goodIn_app (goodIn_of _ (by decide +kernel)) ggX5_skipBy_X5_periodNow
set_option maxRecDepth 20000 in
theorem ggX5_skipBy_X5_lastOf : GoodIn wsX5_skipBy wsX5_lastOf := goodIn_r _ [10, 1, 19, 20, 21, 22, 23, 24, 25, 26] (by decide +kernel) (by decide +kernel)
set_option maxRecDepth 20000 in
theorem gX5_skipBy_X5_lastOf : GoodIn wsX5_skipBy (wsV RX5 46 RX5 yX5_lastOf wsX5_lastOf) := goodIn_app (goodIn_of _ (by decide +kernel)) ggX5_skipBy_X5_lastOf
set_option maxRecDepth 20000 in
theorem ggX5_skipBy_X5_endSkipOf : GoodIn wsX5_skipBy wsX5_endSkipOf := goodIn_r _ [14, 15, 16, 17, 5, 18, 1, 19, 20, 21, 22, 23, 24, 25, 26] (by decide +kernel) (by decide +kernel)
set_option maxRecDepth 20000 in
theorem gX5_skipBy_X5_endSkipOf : GoodIn wsX5_skipBy (wsV RX5 50 RX5 yX5_endSkipOf wsX5_endSkipOf) := goodIn_app (goodIn_of _ (by decide +kernel)) ggX5_skipBy_X5_endSkipOf
theorem dX5_isOverAt_0 : decode cX5_isOverAt 0 = .ok (.aload_n 0, 1) := by decide +kernel
theorem dX5_isOverAt_1 : decode cX5_isOverAt 1 = .ok (.getfield 7, 3) := by decide +kernel
theorem dX5_isOverAt_4 : decode cX5_isOverAt 4 = .ok (.bipush 61, 2) := by decide +kernel
theorem dX5_isOverAt_6 : decode cX5_isOverAt 6 = .ok (.iaload, 1) := by decide +kernel
theorem dX5_isOverAt_7 : decode cX5_isOverAt 7 = .ok (.ifCond .eq 21, 3) := by decide +kernel
theorem dX5_isOverAt_10 : decode cX5_isOverAt 10 = .ok (.iload_n 1, 1) := by decide +kernel
theorem dX5_isOverAt_11 : decode cX5_isOverAt 11 = .ok (.aload_n 0, 1) := by decide +kernel
theorem dX5_isOverAt_12 : decode cX5_isOverAt 12 = .ok (.getfield 7, 3) := by decide +kernel
theorem dX5_isOverAt_15 : decode cX5_isOverAt 15 = .ok (.bipush 61, 2) := by decide +kernel
theorem dX5_isOverAt_17 : decode cX5_isOverAt 17 = .ok (.iaload, 1) := by decide +kernel
theorem dX5_isOverAt_18 : decode cX5_isOverAt 18 = .ok (.iadd, 1) := by decide +kernel
theorem dX5_isOverAt_19 : decode cX5_isOverAt 19 = .ok (.aload_n 0, 1) := by decide +kernel
theorem dX5_isOverAt_20 : decode cX5_isOverAt 20 = .ok (.getfield 7, 3) := by decide +kernel
theorem dX5_isOverAt_23 : decode cX5_isOverAt 23 = .ok (.iconst 0, 1) := by decide +kernel
theorem dX5_isOverAt_24 : decode cX5_isOverAt 24 = .ok (.iaload, 1) := by decide +kernel
theorem dX5_isOverAt_25 : decode cX5_isOverAt 25 = .ok (.if_icmp .le 7, 3) := by decide +kernel
theorem dX5_isOverAt_28 : decode cX5_isOverAt 28 = .ok (.iconst 1, 1) := by decide +kernel
theorem dX5_isOverAt_29 : decode cX5_isOverAt 29 = .ok (.goto 4, 3) := by decide +kernel
theorem dX5_isOverAt_32 : decode cX5_isOverAt 32 = .ok (.iconst 0, 1) := by decide +kernel
theorem dX5_isOverAt_33 : decode cX5_isOverAt 33 = .ok (.ireturn, 1) := by decide +kernel
def gW (G : Nat → Int32) : Nat → Int32 := fun j => G (62 + j)
def gL (G : Nat → Int32) : Nat → Int32 := fun j => G (1 + j)
def gF (G : Nat → Int32) : Nat → Int32 := fun j => G (84 + j)
theorem last_up {f : Nat → Int32} {x : Int32} {i k : Int} (h0 : 0 ≤ i) (h : k = lastF i.toNat f x) : (f i.toNat = x → i = lastF (i + 1).toNat f x) ∧ (¬ f i.toNat = x → k = lastF (i + 1).toNat f x) := by
  have e : (i + 1).toNat = i.toNat + 1 := by omega
  rw [e]
  simp only [lastF]
  exact ⟨fun q => by rw [if_pos q]; omega, fun q => by rw [if_neg q]; exact h⟩
/-- what fits has seen, with i letters gone through -/
def FitP (W : Nat → Int32) (p q i : Int) : Prop := (q ≤ p → ¬ W p.toNat = W (p.toNat - q.toNat)) ∧ ∀ x : Nat, (x : Int) < i → p < x → q ≤ x → W x = W (x - q.toNat)
theorem FitP_all {W : Nat → Int32} {m p q : Int} (h : 0 ≤ p ∧ 0 ≤ q ∧ 0 ≤ m) : FitP W p q m ↔ endP m.toNat W p.toNat q.toNat := by
  constructor
  · rintro ⟨h1, h2⟩
    exact ⟨fun a => h1 (by omega), fun i a b c => h2 i (by omega) (by omega) (by omega)⟩
  · rintro ⟨h1, h2⟩
    exact ⟨fun a => h1 (by omega), fun i a b c => h2 i (by omega) (by omega) (by omega)⟩
theorem FitP_0 {W : Nat → Int32} {p q : Int} : FitP W p q (p + 1) ↔ (q ≤ p → ¬ W p.toNat = W (p.toNat - q.toNat)) := ⟨fun h => h.1, fun h => ⟨h, fun x a b => by omega⟩⟩
theorem FitP_s {W : Nat → Int32} {p q i : Int} (h0 : 0 ≤ p ∧ p < i) : FitP W p q (i + 1) ↔ FitP W p q i ∧ (q ≤ i → W i.toNat = W (i.toNat - q.toNat)) := by
  constructor
  · rintro ⟨h1, h2⟩
    exact ⟨⟨h1, fun x a b c => h2 x (by omega) b c⟩, fun a => h2 i.toNat (by omega) (by omega) (by omega)⟩
  · rintro ⟨⟨h1, h2⟩, h3⟩
    refine ⟨h1, fun x a b c => ?_⟩
    by_cases e : x = i.toNat
    · rw [e]; exact h3 (by omega)
    · exact h2 x (by omega) b c
def PerQ (W : Nat → Int32) (p i : Int) : Prop := ∀ x : Nat, (x : Int) < i → p ≤ x → W x = W (x - p.toNat)
theorem PerQ_all {W : Nat → Int32} {m p : Int} (h : 0 ≤ p ∧ 0 ≤ m) : PerQ W p m ↔ perP m.toNat W p.toNat := ⟨fun h i a b => h i (by omega) (by omega), fun h i a b => h i (by omega) (by omega)⟩
theorem PerQ_0 {W : Nat → Int32} {p : Int} : PerQ W p p := fun x a b => by omega
theorem PerQ_s {W : Nat → Int32} {p i : Int} (h0 : 0 ≤ p ∧ p ≤ i) : PerQ W p (i + 1) ↔ PerQ W p i ∧ W i.toNat = W (i.toNat - p.toNat) := by
  constructor
  · intro h
    exact ⟨fun x a b => h x (by omega) b, h i.toNat (by omega) (by omega)⟩
  · rintro ⟨h2, h3⟩ x a b
    by_cases e : x = i.toNat
    · rw [e]; exact h3
    · exact h2 x (by omega) b
theorem end_at {m : Int} {W : Nat → Int32} {p q : Int} (hp : 0 ≤ p ∧ p < m) (h1 : 1 ≤ q) (h : endP m.toNat W p.toNat q.toNat) (hmin : ∀ k : Nat, 1 ≤ k → (k : Int) < q → ¬ endP m.toNat W p.toNat k) : q = (endF m.toNat W p.toNat : Int) := by
  have := endF_uniq (W := W) (j := p.toNat) (k := q.toNat) (m := m.toNat) (by omega) (by omega) h (fun k a b => hmin k a (by omega))
  omega
theorem per_at {m : Int} {W : Nat → Int32} {q : Int} (h1 : 1 ≤ q ∧ q ≤ m) (h : perP m.toNat W q.toNat) (hmin : ∀ k : Nat, 1 ≤ k → (k : Int) < q → ¬ perP m.toNat W k) : q = (perF m.toNat W : Int) := by
  have := perF_uniq (W := W) (p := q.toNat) (m := m.toNat) (by omega) (by omega) h (fun k a b => hmin k a (by omega))
  omega
def skS (lr er : Int) (m : Nat) (W L : Nat → Int32) (pl d : Int) : Int := if d = -1 then (perF m W : Int) else max (max 1 (if lr = 0 then 1 else d - lastF m W (L (pl + d).toNat))) (if er = 0 then 1 else (endF m W d.toNat : Int))

set_option maxHeartbeats 4000000 in
set_option maxRecDepth 100000 in
theorem c_X5_thrown (l : Launch) (D : va_G) (cy : Nat → ClassId) (m0 : Nat) (a0 : Nat) (p0 : Nat) (q0 : Nat) (v0 : Nat) (t0 : Nat) (ho : Int) (th : Int) (tl : Int) : Ci l D cy yX5_thrown wsX5_thrown 0 0 [.ref m0] [(m0, .inr (5, [.ref a0, .ref p0, .int (iI ho), .ref q0, .ref v0, .int (iI th), .ref t0, .int (iI tl)]))] (fun (r : Int32) (u : Unit) => r = iI th) (fun u : Unit => [(m0, .inr (5, [.ref a0, .ref p0, .int (iI ho), .ref q0, .ref v0, .int (iI th), .ref t0, .int (iI tl)]))]) := by
  refine Ci_of (cc := cX5_thrown) (maxL := 1) (ret := (some .int)) (by decide) rfl rfl ?_
  intro p e s m args below meth c A hx hb hr hts hown hlocks hml hP hK hD hT hA ls hl
  have hS : va_S A s.heap s.heap [] := va_S.rf
  have hl : lv_has ls 1 [(0, .ref m0)] := hl
  have hiX5 : ∀ w ∈ wsX50, w ∈ wsX5_thrown := by decide +kernel
  refine lv_aload_n hx hb dX5_thrown_0 rfl (lv_at hl 0 rfl) ?_
  refine va_get (D := D) (ci := 5) (v := .int (iI th)) (C := RX5) (T := TX5) (N := 8) hx hb hts hiX5 hown hK hP 0 rfl rfl 5 (by decide) (hts (.fieldLink RX5 25 "BackwardSearchModel" "thrown" "I") (by decide +kernel)) (fun _ h9 => h9) rfl dX5_thrown_1 ?_
  exact z_iret hx hb hr hlocks hS () (show (iI th) = iI th from rfl) hP dX5_thrown_4
set_option maxHeartbeats 4000000 in
set_option maxRecDepth 100000 in
theorem c_X5_fails (l : Launch) (D : va_G) (cy : Nat → ClassId) (m0 : Nat) (a0 : Nat) (p0 : Nat) (q0 : Nat) (v0 : Nat) (t0 : Nat) (ho : Int) (th : Int) (tl : Int) (x : Int) : Ci l D cy yX5_fails wsX5_fails 0 0 [.ref m0, .int (iI x)] [(m0, .inr (5, [.ref a0, .ref p0, .int (iI ho), .ref q0, .ref v0, .int (iI th), .ref t0, .int (iI tl)]))] (fun (r : Int32) (u : Unit) => r = iI 0) (fun u : Unit => [(m0, .inr (5, [.ref a0, .ref p0, .int (iI ho), .ref q0, .ref v0, .int (iI x), .ref t0, .int (iI tl)]))]) := by
  refine Ci_of (cc := cX5_fails) (maxL := 2) (ret := (some .int)) (by decide) rfl rfl ?_
  intro p e s m args below meth c A hx hb hr hts hown hlocks hml hP hK hD hT hA ls hl
  have hS : va_S A s.heap s.heap [] := va_S.rf
  have hl : lv_has ls 2 [(0, .ref m0), (1, .int (iI x))] := hl
  have hiX5 : ∀ w ∈ wsX50, w ∈ wsX5_fails := by decide +kernel
  refine lv_aload_n hx hb dX5_fails_0 rfl (lv_at hl 0 rfl) ?_
  refine lv_iload_n hx hb dX5_fails_1 rfl (lv_at hl 1 rfl) ?_
  refine va_put (D := D) (ci := 5) (v := .int (iI x)) (ty := .int) (C := RX5) (T := TX5) (N := 8) hx hb hts hiX5 tyX5 tyX5_ok nmX5 hown hK hP hD hS 0 rfl rfl 5 (by decide) (hts (.fieldLink RX5 25 "BackwardSearchModel" "thrown" "I") (by decide +kernel)) (fun _ h9 => h9) rfl (by decide +kernel) rfl rfl (Nat.le_of_ble_eq_true rfl) dX5_fails_2 (fun H locs hP hD hS => ?_)
  have hP : va_P D vwCl [(m0, .inr (5, [.ref a0, .ref p0, .int (iI ho), .ref q0, .ref v0, .int (iI x), .ref t0, .int (iI tl)]))] H := hP
  have hD : va_D A [(m0, .inr (5, [.ref a0, .ref p0, .int (iI ho), .ref q0, .ref v0, .int (iI x), .ref t0, .int (iI tl)]))] := hD
  refine lv_iconst (v := iI 0) hx hb dX5_fails_5 rfl ?_
  exact z_iret hx hb hr hlocks hS () (show (iI 0) = iI 0 from rfl) hP dX5_fails_6
set_option maxHeartbeats 4000000 in
set_option maxRecDepth 100000 in
theorem c_X5_told (l : Launch) (D : va_G) (cy : Nat → ClassId) (m0 : Nat) (a0 : Nat) (p0 : Nat) (q0 : Nat) (v0 : Nat) (t0 : Nat) (ho : Int) (th : Int) (tl : Int) (x : Int32) : Ci l D cy yX5_told wsX5_told 0 0 [.ref m0, .int x] [(m0, .inr (5, [.ref a0, .ref p0, .int (iI ho), .ref q0, .ref v0, .int (iI th), .ref t0, .int (iI tl)]))] (fun (r : Int32) (u : Unit) => r = x) (fun u : Unit => [(m0, .inr (5, [.ref a0, .ref p0, .int (iI ho), .ref q0, .ref v0, .int (iI 0), .ref t0, .int (iI tl)]))]) := by
  refine Ci_of (cc := cX5_told) (maxL := 2) (ret := (some .int)) (by decide) rfl rfl ?_
  intro p e s m args below meth c A hx hb hr hts hown hlocks hml hP hK hD hT hA ls hl
  have hS : va_S A s.heap s.heap [] := va_S.rf
  have hl : lv_has ls 2 [(0, .ref m0), (1, .int x)] := hl
  have hiX5 : ∀ w ∈ wsX50, w ∈ wsX5_told := by decide +kernel
  refine lv_aload_n hx hb dX5_told_0 rfl (lv_at hl 0 rfl) ?_
  refine lv_iconst (v := iI 0) hx hb dX5_told_1 rfl ?_
  refine va_put (D := D) (ci := 5) (v := .int (iI 0)) (ty := .int) (C := RX5) (T := TX5) (N := 8) hx hb hts hiX5 tyX5 tyX5_ok nmX5 hown hK hP hD hS 0 rfl rfl 5 (by decide) (hts (.fieldLink RX5 25 "BackwardSearchModel" "thrown" "I") (by decide +kernel)) (fun _ h9 => h9) rfl (by decide +kernel) rfl rfl (Nat.le_of_ble_eq_true rfl) dX5_told_2 (fun H locs hP hD hS => ?_)
  have hP : va_P D vwCl [(m0, .inr (5, [.ref a0, .ref p0, .int (iI ho), .ref q0, .ref v0, .int (iI 0), .ref t0, .int (iI tl)]))] H := hP
  have hD : va_D A [(m0, .inr (5, [.ref a0, .ref p0, .int (iI ho), .ref q0, .ref v0, .int (iI 0), .ref t0, .int (iI tl)]))] := hD
  refine lv_iload_n hx hb dX5_told_5 rfl (lv_at hl 1 rfl) ?_
  exact z_iret hx hb hr hlocks hS () (show x = x from rfl) hP dX5_told_6
set_option maxHeartbeats 4000000 in
set_option maxRecDepth 100000 in
theorem c_X5_in (l : Launch) (D : va_G) (cy : Nat → ClassId) (x : Int) (y : Int) (w : Int) (hb3 : -9223372036854775808 ≤ x ∧ x < 9223372036854775808 ∧ -9223372036854775808 ≤ y ∧ y < 9223372036854775808 ∧ -9223372036854775808 ≤ w ∧ w < 9223372036854775808) : Ci l D cy yX5_in wsX5_in 0 0 [.long (lI x), .long (lI y), .long (lI w)] [] (fun (r : Int32) (u : Unit) => ((y ≤ x ∧ x ≤ w) ∧ r = iI 1) ∨ (¬ (y ≤ x ∧ x ≤ w) ∧ r = iI 0)) (fun u : Unit => []) := by
  refine Ci_of (cc := cX5_in) (maxL := 6) (ret := (some .boolean)) (by decide) rfl rfl ?_
  intro p e s m args below meth c A hx hb hr hts hown hlocks hml hP hK hD hT hA ls hl
  have hS : va_S A s.heap s.heap [] := va_S.rf
  have hl : lv_has ls 6 [(0, .long (lI x)), (2, .long (lI y)), (4, .long (lI w))] := hl
  refine lv_lload_n hx hb dX5_in_0 rfl (lv_at hl 0 rfl) ?_
  refine lv_lload_n hx hb dX5_in_1 rfl (lv_at hl 1 rfl) ?_
  refine z_lcmp_lt (tgt := 17) hx hb (lI_t (by omega) (by omega)) (lI_t (by omega) (by omega)) dX5_in_2 dX5_in_3 (by decide) (fun c1 => ?_) (fun c1 => ?_)
  · --
    refine lv_iconst (v := iI 0) hx hb dX5_in_17 rfl ?_
    exact z_zret hx hb hr hlocks (by decide +kernel) hS () (show ((y ≤ x ∧ x ≤ w) ∧ (iI 0) = iI 1) ∨ (¬ (y ≤ x ∧ x ≤ w) ∧ (iI 0) = iI 0) from (by first | exact Or.inl ⟨by omega, rfl⟩ | exact Or.inr ⟨by omega, rfl⟩)) hP dX5_in_18
  · --
    refine lv_lload_n hx hb dX5_in_6 rfl (lv_at hl 0 rfl) ?_
    refine lv_lload hx hb dX5_in_7 (lv_at hl 2 rfl) ?_
    refine z_lcmp_gt (tgt := 17) hx hb (lI_t (by omega) (by omega)) (lI_t (by omega) (by omega)) dX5_in_9 dX5_in_10 (by decide) (fun c2 => ?_) (fun c2 => ?_)
    · --
      refine lv_iconst (v := iI 0) hx hb dX5_in_17 rfl ?_
      exact z_zret hx hb hr hlocks (by decide +kernel) hS () (show ((y ≤ x ∧ x ≤ w) ∧ (iI 0) = iI 1) ∨ (¬ (y ≤ x ∧ x ≤ w) ∧ (iI 0) = iI 0) from (by first | exact Or.inl ⟨by omega, rfl⟩ | exact Or.inr ⟨by omega, rfl⟩)) hP dX5_in_18
    · --
      refine lv_iconst (v := iI 1) hx hb dX5_in_13 rfl ?_
      refine lv_goto (tgt := 18) hx hb dX5_in_14 (by decide) ?_
      exact z_zret hx hb hr hlocks (by decide +kernel) hS () (show ((y ≤ x ∧ x ≤ w) ∧ (iI 1) = iI 1) ∨ (¬ (y ≤ x ∧ x ≤ w) ∧ (iI 1) = iI 0) from (by first | exact Or.inl ⟨by omega, rfl⟩ | exact Or.inr ⟨by omega, rfl⟩)) hP dX5_in_18
set_option maxHeartbeats 4000000 in
set_option maxRecDepth 100000 in
theorem c_X5_isLetter (l : Launch) (D : va_G) (cy : Nat → ClassId) (x : Int) (hx1 : -2147483648 ≤ x ∧ x < 2147483648) : Ci l D cy yX5_isLetter wsX5_isLetter 1 25 [.int (iI x)] [] (fun (r : Int32) (u : Unit) => ((0 ≤ x ∧ x ≤ 25) ∧ r = iI 1) ∨ (¬ (0 ≤ x ∧ x ≤ 25) ∧ r = iI 0)) (fun u : Unit => []) := by
  refine Ci_of (cc := cX5_isLetter) (maxL := 1) (ret := (some .boolean)) (by decide) rfl rfl ?_
  intro p e s m args below meth c A hx hb hr hts hown hlocks hml hP hK hD hT hA ls hl
  have hS : va_S A s.heap s.heap [] := va_S.rf
  have hl : lv_has ls 1 [(0, .int (iI x))] := hl
  refine lv_iload_n hx hb dX5_isLetter_0 rfl (lv_at hl 0 rfl) ?_
  refine z_i2l hx hb (iI_l (by omega) (by omega)) dX5_isLetter_1 ?_
  refine lv_lconst (v := lI 0) hx hb dX5_isLetter_2 rfl ?_
  refine z_ldc2 (z := 25) hx hb (by decide +kernel) hown (hts (.constantLong RX5 32 (25)) (by decide +kernel)) dX5_isLetter_3 ?_
  refine z_cSi (n := 3) (As := [.long (lI x), .long (lI 0), .long (lI 25)]) (rest := []) ⟨hx, hb, hml, hown, hts⟩ (c_X5_in l D cy x 0 25 (by omega)) gX5_isLetter_X5_in rfl (by decide +kernel) ⟨Nat.le_of_ble_eq_true rfl, Nat.le_of_ble_eq_true rfl⟩ hK hT hP hD hS hA [] rfl rfl (fun _ => rfl) rfl hl.1 rfl (Nat.le_of_ble_eq_true rfl) dX5_isLetter_6 ⟨Nat.zero_le _, Nat.zero_le _⟩ (fun r_1 u_1 H locs hw_1 hP hD hS => ?_)
  have hw_1 : ((0 ≤ x ∧ x ≤ 25) ∧ r_1 = iI 1) ∨ (¬ (0 ≤ x ∧ x ≤ 25) ∧ r_1 = iI 0) := hw_1
  have hP : va_P D vwCl [] H := hP
  have hD : va_D A [] := hD
  rcases hw_1 with ⟨h_1, rfl⟩ | ⟨h_1, rfl⟩
  · --
    exact z_zret hx hb hr hlocks (by decide +kernel) hS () (show ((0 ≤ x ∧ x ≤ 25) ∧ (iI 1) = iI 1) ∨ (¬ (0 ≤ x ∧ x ≤ 25) ∧ (iI 1) = iI 0) from (by first | exact Or.inl ⟨by omega, rfl⟩ | exact Or.inr ⟨by omega, rfl⟩)) hP dX5_isLetter_9
  · --
    exact z_zret hx hb hr hlocks (by decide +kernel) hS () (show ((0 ≤ x ∧ x ≤ 25) ∧ (iI 0) = iI 1) ∨ (¬ (0 ≤ x ∧ x ≤ 25) ∧ (iI 0) = iI 0) from (by first | exact Or.inl ⟨by omega, rfl⟩ | exact Or.inr ⟨by omega, rfl⟩)) hP dX5_isLetter_9
set_option maxHeartbeats 4000000 in
set_option maxRecDepth 100000 in
theorem c_X5_isInWord (l : Launch) (D : va_G) (cy : Nat → ClassId) (m0 : Nat) (a0 : Nat) (p0 : Nat) (q0 : Nat) (v0 : Nat) (t0 : Nat) (ho : Int) (th : Int) (tl : Int) (G : Nat → Int32) (nw : Int) (x : Int) (h61 : G 61 = iI nw) (hnw : 0 ≤ nw ∧ nw ≤ 16) (hx1 : -2147483648 ≤ x ∧ x < 2147483648) : Ci l D cy yX5_isInWord wsX5_isInWord 1 25 [.ref m0, .int (iI x)] [(m0, .inr (5, [.ref a0, .ref p0, .int (iI ho), .ref q0, .ref v0, .int (iI th), .ref t0, .int (iI tl)])), (a0, .inl (cy 0, 144, .inl G))] (fun (r : Int32) (u : Unit) => ((0 ≤ x ∧ x < nw) ∧ r = iI 1) ∨ (¬ (0 ≤ x ∧ x < nw) ∧ r = iI 0)) (fun u : Unit => [(m0, .inr (5, [.ref a0, .ref p0, .int (iI ho), .ref q0, .ref v0, .int (iI th), .ref t0, .int (iI tl)])), (a0, .inl (cy 0, 144, .inl G))]) := by
  refine Ci_of (cc := cX5_isInWord) (maxL := 2) (ret := (some .boolean)) (by decide) rfl rfl ?_
  intro p e s m args below meth c A hx hb hr hts hown hlocks hml hP hK hD hT hA ls hl
  have hS : va_S A s.heap s.heap [] := va_S.rf
  have hl : lv_has ls 2 [(0, .ref m0), (1, .int (iI x))] := hl
  have hiX5 : ∀ w ∈ wsX50, w ∈ wsX5_isInWord := by decide +kernel
  refine lv_iload_n hx hb dX5_isInWord_0 rfl (lv_at hl 1 rfl) ?_
  refine z_i2l hx hb (iI_l (by omega) (by omega)) dX5_isInWord_1 ?_
  refine lv_lconst (v := lI 0) hx hb dX5_isInWord_2 rfl ?_
  refine lv_aload_n hx hb dX5_isInWord_3 rfl (lv_at hl 0 rfl) ?_
  refine va_get (D := D) (ci := 5) (v := .ref a0) (C := RX5) (T := TX5) (N := 8) hx hb hts hiX5 hown hK hP 0 rfl rfl 0 (by decide) (hts (.fieldLink RX5 7 "BackwardSearchModel" "all" "[I") (by decide +kernel)) (fun _ h9 => h9) rfl dX5_isInWord_4 ?_
  refine lv_bipush (v := iI 61) hx hb dX5_isInWord_7 (by decide +kernel) ?_
  refine z_iald hx hb hK hP 1 rfl (by omega) (by omega) (by omega) dX5_isInWord_9 ?_
  refine z_top (show G (61 : Int).toNat = iI nw from h61) ?_
  refine z_i2l hx hb (iI_l (by omega) (by omega)) dX5_isInWord_10 ?_
  refine lv_lconst (v := lI 1) hx hb dX5_isInWord_11 rfl ?_
  refine z_lsub hx hb dX5_isInWord_12 ?_
  refine z_cSi (n := 3) (As := [.long (lI x), .long (lI 0), .long (lI (nw - 1))]) (rest := []) ⟨hx, hb, hml, hown, hts⟩ (c_X5_in l D cy x 0 (nw - 1) (by omega)) gX5_isInWord_X5_in rfl (by decide +kernel) ⟨Nat.le_of_ble_eq_true rfl, Nat.le_of_ble_eq_true rfl⟩ hK hT hP hD hS hA [] rfl rfl (fun _ => rfl) rfl hl.1 rfl (Nat.le_of_ble_eq_true rfl) dX5_isInWord_13 ⟨Nat.zero_le _, Nat.zero_le _⟩ (fun r_1 u_1 H locs hw_1 hP hD hS => ?_)
  have hw_1 : ((0 ≤ x ∧ x ≤ (nw - 1)) ∧ r_1 = iI 1) ∨ (¬ (0 ≤ x ∧ x ≤ (nw - 1)) ∧ r_1 = iI 0) := hw_1
  have hP : va_P D vwCl [(m0, .inr (5, [.ref a0, .ref p0, .int (iI ho), .ref q0, .ref v0, .int (iI th), .ref t0, .int (iI tl)])), (a0, .inl (cy 0, 144, .inl G))] H := hP
  have hD : va_D A [(m0, .inr (5, [.ref a0, .ref p0, .int (iI ho), .ref q0, .ref v0, .int (iI th), .ref t0, .int (iI tl)])), (a0, .inl (cy 0, 144, .inl G))] := hD
  rcases hw_1 with ⟨h_1, rfl⟩ | ⟨h_1, rfl⟩
  · --
    exact z_zret hx hb hr hlocks (by decide +kernel) hS () (show ((0 ≤ x ∧ x < nw) ∧ (iI 1) = iI 1) ∨ (¬ (0 ≤ x ∧ x < nw) ∧ (iI 1) = iI 0) from (by first | exact Or.inl ⟨by omega, rfl⟩ | exact Or.inr ⟨by omega, rfl⟩)) hP dX5_isInWord_16
  · --
    exact z_zret hx hb hr hlocks (by decide +kernel) hS () (show ((0 ≤ x ∧ x < nw) ∧ (iI 0) = iI 1) ∨ (¬ (0 ≤ x ∧ x < nw) ∧ (iI 0) = iI 0) from (by first | exact Or.inl ⟨by omega, rfl⟩ | exact Or.inr ⟨by omega, rfl⟩)) hP dX5_isInWord_16
set_option maxHeartbeats 4000000 in
set_option maxRecDepth 100000 in
theorem c_X5_isInLine (l : Launch) (D : va_G) (cy : Nat → ClassId) (m0 : Nat) (a0 : Nat) (p0 : Nat) (q0 : Nat) (v0 : Nat) (t0 : Nat) (ho : Int) (th : Int) (tl : Int) (G : Nat → Int32) (nl : Int) (x : Int) (h0 : G 0 = iI nl) (hnl : 0 ≤ nl ∧ nl ≤ 60) (hx1 : -2147483648 ≤ x ∧ x < 2147483648) : Ci l D cy yX5_isInLine wsX5_isInLine 1 25 [.ref m0, .int (iI x)] [(m0, .inr (5, [.ref a0, .ref p0, .int (iI ho), .ref q0, .ref v0, .int (iI th), .ref t0, .int (iI tl)])), (a0, .inl (cy 0, 144, .inl G))] (fun (r : Int32) (u : Unit) => ((0 ≤ x ∧ x < nl) ∧ r = iI 1) ∨ (¬ (0 ≤ x ∧ x < nl) ∧ r = iI 0)) (fun u : Unit => [(m0, .inr (5, [.ref a0, .ref p0, .int (iI ho), .ref q0, .ref v0, .int (iI th), .ref t0, .int (iI tl)])), (a0, .inl (cy 0, 144, .inl G))]) := by
  refine Ci_of (cc := cX5_isInLine) (maxL := 2) (ret := (some .boolean)) (by decide) rfl rfl ?_
  intro p e s m args below meth c A hx hb hr hts hown hlocks hml hP hK hD hT hA ls hl
  have hS : va_S A s.heap s.heap [] := va_S.rf
  have hl : lv_has ls 2 [(0, .ref m0), (1, .int (iI x))] := hl
  have hiX5 : ∀ w ∈ wsX50, w ∈ wsX5_isInLine := by decide +kernel
  refine lv_iload_n hx hb dX5_isInLine_0 rfl (lv_at hl 1 rfl) ?_
  refine z_i2l hx hb (iI_l (by omega) (by omega)) dX5_isInLine_1 ?_
  refine lv_lconst (v := lI 0) hx hb dX5_isInLine_2 rfl ?_
  refine lv_aload_n hx hb dX5_isInLine_3 rfl (lv_at hl 0 rfl) ?_
  refine va_get (D := D) (ci := 5) (v := .ref a0) (C := RX5) (T := TX5) (N := 8) hx hb hts hiX5 hown hK hP 0 rfl rfl 0 (by decide) (hts (.fieldLink RX5 7 "BackwardSearchModel" "all" "[I") (by decide +kernel)) (fun _ h9 => h9) rfl dX5_isInLine_4 ?_
  refine lv_iconst (v := iI 0) hx hb dX5_isInLine_7 rfl ?_
  refine z_iald hx hb hK hP 1 rfl (by omega) (by omega) (by omega) dX5_isInLine_8 ?_
  refine z_top (show G (0 : Int).toNat = iI nl from h0) ?_
  refine z_i2l hx hb (iI_l (by omega) (by omega)) dX5_isInLine_9 ?_
  refine lv_lconst (v := lI 1) hx hb dX5_isInLine_10 rfl ?_
  refine z_lsub hx hb dX5_isInLine_11 ?_
  refine z_cSi (n := 3) (As := [.long (lI x), .long (lI 0), .long (lI (nl - 1))]) (rest := []) ⟨hx, hb, hml, hown, hts⟩ (c_X5_in l D cy x 0 (nl - 1) (by omega)) gX5_isInLine_X5_in rfl (by decide +kernel) ⟨Nat.le_of_ble_eq_true rfl, Nat.le_of_ble_eq_true rfl⟩ hK hT hP hD hS hA [] rfl rfl (fun _ => rfl) rfl hl.1 rfl (Nat.le_of_ble_eq_true rfl) dX5_isInLine_12 ⟨Nat.zero_le _, Nat.zero_le _⟩ (fun r_1 u_1 H locs hw_1 hP hD hS => ?_)
  have hw_1 : ((0 ≤ x ∧ x ≤ (nl - 1)) ∧ r_1 = iI 1) ∨ (¬ (0 ≤ x ∧ x ≤ (nl - 1)) ∧ r_1 = iI 0) := hw_1
  have hP : va_P D vwCl [(m0, .inr (5, [.ref a0, .ref p0, .int (iI ho), .ref q0, .ref v0, .int (iI th), .ref t0, .int (iI tl)])), (a0, .inl (cy 0, 144, .inl G))] H := hP
  have hD : va_D A [(m0, .inr (5, [.ref a0, .ref p0, .int (iI ho), .ref q0, .ref v0, .int (iI th), .ref t0, .int (iI tl)])), (a0, .inl (cy 0, 144, .inl G))] := hD
  rcases hw_1 with ⟨h_1, rfl⟩ | ⟨h_1, rfl⟩
  · --
    exact z_zret hx hb hr hlocks (by decide +kernel) hS () (show ((0 ≤ x ∧ x < nl) ∧ (iI 1) = iI 1) ∨ (¬ (0 ≤ x ∧ x < nl) ∧ (iI 1) = iI 0) from (by first | exact Or.inl ⟨by omega, rfl⟩ | exact Or.inr ⟨by omega, rfl⟩)) hP dX5_isInLine_15
  · --
    exact z_zret hx hb hr hlocks (by decide +kernel) hS () (show ((0 ≤ x ∧ x < nl) ∧ (iI 0) = iI 1) ∨ (¬ (0 ≤ x ∧ x < nl) ∧ (iI 0) = iI 0) from (by first | exact Or.inl ⟨by omega, rfl⟩ | exact Or.inr ⟨by omega, rfl⟩)) hP dX5_isInLine_15
set_option maxHeartbeats 4000000 in
set_option maxRecDepth 100000 in
theorem c_X5_lastOf (l : Launch) (D : va_G) (cy : Nat → ClassId) (m0 : Nat) (a0 : Nat) (p0 : Nat) (q0 : Nat) (v0 : Nat) (t0 : Nat) (ho : Int) (th : Int) (tl : Int) (G : Nat → Int32) (nw : Int) (x : Int32) (h61 : G 61 = iI nw) (hnw : 0 ≤ nw ∧ nw ≤ 16) : Ci l D cy yX5_lastOf wsX5_lastOf 0 0 [.ref m0, .int x] [(m0, .inr (5, [.ref a0, .ref p0, .int (iI ho), .ref q0, .ref v0, .int (iI th), .ref t0, .int (iI tl)])), (a0, .inl (cy 0, 144, .inl G))] (fun (r : Int32) (u : Unit) => r = iI (lastF nw.toNat (gW G) x)) (fun u : Unit => [(m0, .inr (5, [.ref a0, .ref p0, .int (iI ho), .ref q0, .ref v0, .int (iI th), .ref t0, .int (iI tl)])), (a0, .inl (cy 0, 144, .inl G))]) := by
  refine Ci_of (cc := cX5_lastOf) (maxL := 4) (ret := (some .int)) (by decide) rfl rfl ?_
  intro p e s m args below meth c A hx hb hr hts hown hlocks hml hP hK hD hT hA ls hl
  have hS : va_S A s.heap s.heap [] := va_S.rf
  have hl : lv_has ls 4 [(0, .ref m0), (1, .int x)] := hl
  have hiX5 : ∀ w ∈ wsX50, w ∈ wsX5_lastOf := by decide +kernel
  refine lv_iconst (v := iI (-1)) hx hb dX5_lastOf_0 rfl ?_
  refine lv_istore_n (lv' := [(2, .int (iI (-1))), (0, .ref m0), (1, .int x)]) hx hb dX5_lastOf_1 rfl hl (by decide) rfl (fun ls hl => ?_)
  refine lv_iconst (v := iI 0) hx hb dX5_lastOf_2 rfl ?_
  refine lv_istore_n (lv' := [(3, .int (iI 0)), (2, .int (iI (-1))), (0, .ref m0), (1, .int x)]) hx hb dX5_lastOf_3 rfl hl (by decide) rfl (fun ls hl => ?_)
  have hloop1 : ∀ (n1 : Nat) (k : Int) (i : Int) (hi : 0 ≤ i ∧ i ≤ nw) (hk : k = lastF i.toNat (gW G) x) (hm : nw - i < (n1 : Int)) (H : Heap) (locs : List Loc) (ls : Array Slot) (hP : va_P D vwCl [(m0, .inr (5, [.ref a0, .ref p0, .int (iI ho), .ref q0, .ref v0, .int (iI th), .ref t0, .int (iI tl)])), (a0, .inl (cy 0, 144, .inl G))] H) (hD : va_D A [(m0, .inr (5, [.ref a0, .ref p0, .int (iI ho), .ref q0, .ref v0, .int (iI th), .ref t0, .int (iI tl)])), (a0, .inl (cy 0, 144, .inl G))]) (hS : va_S A s.heap H locs) (hl : lv_has ls 4 [(3, .int (iI i)), (2, .int (iI k)), (0, .ref m0), (1, .int x)]), W p l e ({ frames := 0, cells := 0, slots := 0, locals := 0 } : Room) s m args below meth c H locs 0 0 (MQ below (va_Qi (fun (r : Int32) (u : Unit) => r = iI (lastF nw.toNat (gW G) x)) (fun u t => va_P D vwCl ((fun u : Unit => [(m0, .inr (5, [.ref a0, .ref p0, .int (iI ho), .ref q0, .ref v0, .int (iI th), .ref t0, .int (iI tl)])), (a0, .inl (cy 0, 144, .inl G))]) u) t.heap) A) args s 0 0 A) (F0 m 4 ls []) := by
    intro n1
    induction n1 with
    | zero =>
      intro k i hi hk hm; exact absurd hm (by omega)
    | succ n1 ih1 =>
      intro k i hi hk hm H locs ls hP hD hS hl
      refine lv_iload_n hx hb dX5_lastOf_4 rfl (lv_at hl 0 rfl) ?_
      refine lv_aload_n hx hb dX5_lastOf_5 rfl (lv_at hl 2 rfl) ?_
      refine va_get (D := D) (ci := 5) (v := .ref a0) (C := RX5) (T := TX5) (N := 8) hx hb hts hiX5 hown hK hP 0 rfl rfl 0 (by decide) (hts (.fieldLink RX5 7 "BackwardSearchModel" "all" "[I") (by decide +kernel)) (fun _ h9 => h9) rfl dX5_lastOf_6 ?_
      refine lv_bipush (v := iI 61) hx hb dX5_lastOf_9 (by decide +kernel) ?_
      refine z_iald hx hb hK hP 1 rfl (by omega) (by omega) (by omega) dX5_lastOf_11 ?_
      refine z_top (show G (61 : Int).toNat = iI nw from h61) ?_
      refine z_icmp_ge (tgt := 40) hx hb (iI_t (by omega) (by omega)) (iI_t (by omega) (by omega)) dX5_lastOf_12 (by decide) (fun c2 => ?_) (fun c2 => ?_)
      · --
        refine lv_iload_n hx hb dX5_lastOf_40 rfl (lv_at hl 1 rfl) ?_
        exact z_iret hx hb hr hlocks hS () (show (iI k) = iI (lastF nw.toNat (gW G) x) from (by rw [hk, show i = nw by omega])) hP dX5_lastOf_41
      · --
        refine lv_aload_n hx hb dX5_lastOf_15 rfl (lv_at hl 2 rfl) ?_
        refine va_get (D := D) (ci := 5) (v := .ref a0) (C := RX5) (T := TX5) (N := 8) hx hb hts hiX5 hown hK hP 0 rfl rfl 0 (by decide) (hts (.fieldLink RX5 7 "BackwardSearchModel" "all" "[I") (by decide +kernel)) (fun _ h9 => h9) rfl dX5_lastOf_16 ?_
        refine lv_bipush (v := iI 62) hx hb dX5_lastOf_19 (by decide +kernel) ?_
        refine lv_iload_n hx hb dX5_lastOf_21 rfl (lv_at hl 0 rfl) ?_
        refine z_add hx hb dX5_lastOf_22 ?_
        refine z_iald hx hb hK hP 1 rfl (by omega) (by omega) (by omega) dX5_lastOf_23 ?_
        refine z_top (show G (62 + i).toNat = gW G i.toNat from congrArg G (by omega)) ?_
        refine lv_iload_n hx hb dX5_lastOf_24 rfl (lv_at hl 3 rfl) ?_
        refine lv_icmp_ne (tgt := 32) hx hb dX5_lastOf_25 (by decide) (fun c3 => ?_) (fun c3 => ?_)
        · --
          refine lv_iload_n hx hb dX5_lastOf_32 rfl (lv_at hl 1 rfl) ?_
          refine lv_istore_n (lv' := [(2, .int (iI k)), (3, .int (iI i)), (0, .ref m0), (1, .int x)]) hx hb dX5_lastOf_33 rfl hl (by decide) rfl (fun ls hl => ?_)
          refine z_iinc (lv' := [(3, .int (iI (i + 1))), (2, .int (iI k)), (0, .ref m0), (1, .int x)]) hx hb dX5_lastOf_34 hl (k := 1) rfl (by decide) rfl (fun ls hl => ?_)
          refine lv_goto (tgt := 4) hx hb dX5_lastOf_37 (by decide) ?_
          exact ih1 k (i + 1) (by omega) (by first | exact (last_up hi.1 hk).1 (by assumption) | exact (last_up hi.1 hk).2 (by assumption)) (by omega) _ _ _ hP hD hS (lv_sub hl [0, 1, 2, 3] rfl)
        · --
          refine lv_iload_n hx hb dX5_lastOf_28 rfl (lv_at hl 0 rfl) ?_
          refine lv_goto (tgt := 33) hx hb dX5_lastOf_29 (by decide) ?_
          refine lv_istore_n (lv' := [(2, .int (iI i)), (3, .int (iI i)), (0, .ref m0), (1, .int x)]) hx hb dX5_lastOf_33 rfl hl (by decide) rfl (fun ls hl => ?_)
          refine z_iinc (lv' := [(3, .int (iI (i + 1))), (2, .int (iI i)), (0, .ref m0), (1, .int x)]) hx hb dX5_lastOf_34 hl (k := 1) rfl (by decide) rfl (fun ls hl => ?_)
          refine lv_goto (tgt := 4) hx hb dX5_lastOf_37 (by decide) ?_
          exact ih1 i (i + 1) (by omega) (by first | exact (last_up hi.1 hk).1 (by assumption) | exact (last_up hi.1 hk).2 (by assumption)) (by omega) _ _ _ hP hD hS (lv_sub hl [0, 1, 2, 3] rfl)
  exact hloop1 (Int.toNat (nw - 0) + 1) (-1) 0 (by omega) (rfl) (by omega) _ _ _ hP hD hS (lv_sub hl [0, 1, 2, 3] rfl)
set_option maxHeartbeats 4000000 in
set_option maxRecDepth 100000 in
theorem c_X5_fits (l : Launch) (D : va_G) (cy : Nat → ClassId) (m0 : Nat) (a0 : Nat) (p0 : Nat) (q0 : Nat) (v0 : Nat) (t0 : Nat) (ho : Int) (th : Int) (tl : Int) (G : Nat → Int32) (nw : Int) (pp : Int) (q : Int) (h61 : G 61 = iI nw) (hnw : 0 ≤ nw ∧ nw ≤ 16) (hp1 : 0 ≤ pp ∧ pp < nw ∧ 1 ≤ q ∧ q ≤ 100) : Ci l D cy yX5_fits wsX5_fits 0 0 [.ref m0, .int (iI pp), .int (iI q)] [(m0, .inr (5, [.ref a0, .ref p0, .int (iI ho), .ref q0, .ref v0, .int (iI th), .ref t0, .int (iI tl)])), (a0, .inl (cy 0, 144, .inl G))] (fun (r : Int32) (u : Unit) => ((endP nw.toNat (gW G) pp.toNat q.toNat) ∧ r = iI 1) ∨ (¬ (endP nw.toNat (gW G) pp.toNat q.toNat) ∧ r = iI 0)) (fun u : Unit => [(m0, .inr (5, [.ref a0, .ref p0, .int (iI ho), .ref q0, .ref v0, .int (iI th), .ref t0, .int (iI tl)])), (a0, .inl (cy 0, 144, .inl G))]) := by
  refine Ci_of (cc := cX5_fits) (maxL := 5) (ret := (some .boolean)) (by decide) rfl rfl ?_
  intro p e s m args below meth c A hx hb hr hts hown hlocks hml hP hK hD hT hA ls hl
  have hS : va_S A s.heap s.heap [] := va_S.rf
  have hl : lv_has ls 5 [(0, .ref m0), (1, .int (iI pp)), (2, .int (iI q))] := hl
  have hiX5 : ∀ w ∈ wsX50, w ∈ wsX5_fits := by decide +kernel
  refine lv_iload_n hx hb dX5_fits_0 rfl (lv_at hl 1 rfl) ?_
  refine lv_iload_n hx hb dX5_fits_1 rfl (lv_at hl 2 rfl) ?_
  refine z_icmp_lt (tgt := 28) hx hb (iI_t (by omega) (by omega)) (iI_t (by omega) (by omega)) dX5_fits_2 (by decide) (fun c1 => ?_) (fun c1 => ?_)
  · --
    refine lv_iconst (v := iI 1) hx hb dX5_fits_28 rfl ?_
    refine lv_goto (tgt := 33) hx hb dX5_fits_29 (by decide) ?_
    refine lv_istore_n (lv' := [(3, .int (iI 1)), (0, .ref m0), (1, .int (iI pp)), (2, .int (iI q))]) hx hb dX5_fits_33 rfl hl (by decide) rfl (fun ls hl => ?_)
    refine lv_iload_n hx hb dX5_fits_34 rfl (lv_at hl 2 rfl) ?_
    refine lv_iconst (v := iI 1) hx hb dX5_fits_35 rfl ?_
    refine z_add hx hb dX5_fits_36 ?_
    refine lv_istore (lv' := [(4, .int (iI (pp + 1))), (3, .int (iI 1)), (0, .ref m0), (1, .int (iI pp)), (2, .int (iI q))]) hx hb dX5_fits_37 hl (by decide) rfl (fun ls hl => ?_)
    have hloop2 : ∀ (n2 : Nat) (k : Int) (i : Int) (hi : pp < i ∧ i ≤ nw) (hk : (k = 1 ∧ FitP (gW G) pp q i) ∨ (k = 0 ∧ ¬ FitP (gW G) pp q i)) (hm : nw - i < (n2 : Int)) (H : Heap) (locs : List Loc) (ls : Array Slot) (hP : va_P D vwCl [(m0, .inr (5, [.ref a0, .ref p0, .int (iI ho), .ref q0, .ref v0, .int (iI th), .ref t0, .int (iI tl)])), (a0, .inl (cy 0, 144, .inl G))] H) (hD : va_D A [(m0, .inr (5, [.ref a0, .ref p0, .int (iI ho), .ref q0, .ref v0, .int (iI th), .ref t0, .int (iI tl)])), (a0, .inl (cy 0, 144, .inl G))]) (hS : va_S A s.heap H locs) (hl : lv_has ls 5 [(4, .int (iI i)), (3, .int (iI k)), (0, .ref m0), (1, .int (iI pp)), (2, .int (iI q))]), W p l e ({ frames := 0, cells := 0, slots := 0, locals := 0 } : Room) s m args below meth c H locs 0 0 (MQ below (va_Qi (fun (r : Int32) (u : Unit) => ((endP nw.toNat (gW G) pp.toNat q.toNat) ∧ r = iI 1) ∨ (¬ (endP nw.toNat (gW G) pp.toNat q.toNat) ∧ r = iI 0)) (fun u t => va_P D vwCl ((fun u : Unit => [(m0, .inr (5, [.ref a0, .ref p0, .int (iI ho), .ref q0, .ref v0, .int (iI th), .ref t0, .int (iI tl)])), (a0, .inl (cy 0, 144, .inl G))]) u) t.heap) A) args s 0 0 A) (F0 m 39 ls []) := by
      intro n2
      induction n2 with
      | zero =>
        intro k i hi hk hm; exact absurd hm (by omega)
      | succ n2 ih2 =>
        intro k i hi hk hm H locs ls hP hD hS hl
        refine lv_iload hx hb dX5_fits_39 (lv_at hl 0 rfl) ?_
        refine lv_aload_n hx hb dX5_fits_41 rfl (lv_at hl 2 rfl) ?_
        refine va_get (D := D) (ci := 5) (v := .ref a0) (C := RX5) (T := TX5) (N := 8) hx hb hts hiX5 hown hK hP 0 rfl rfl 0 (by decide) (hts (.fieldLink RX5 7 "BackwardSearchModel" "all" "[I") (by decide +kernel)) (fun _ h9 => h9) rfl dX5_fits_42 ?_
        refine lv_bipush (v := iI 61) hx hb dX5_fits_45 (by decide +kernel) ?_
        refine z_iald hx hb hK hP 1 rfl (by omega) (by omega) (by omega) dX5_fits_47 ?_
        refine z_top (show G (61 : Int).toNat = iI nw from h61) ?_
        refine z_icmp_ge (tgt := 98) hx hb (iI_t (by omega) (by omega)) (iI_t (by omega) (by omega)) dX5_fits_48 (by decide) (fun c3 => ?_) (fun c3 => ?_)
        · --
          refine lv_iload_n hx hb dX5_fits_98 rfl (lv_at hl 1 rfl) ?_
          exact z_zret hx hb hr hlocks (z_nb (by omega) (by omega)) hS () (show ((endP nw.toNat (gW G) pp.toNat q.toNat) ∧ (iI k) = iI 1) ∨ (¬ (endP nw.toNat (gW G) pp.toNat q.toNat) ∧ (iI k) = iI 0) from (by
                have hz : i = nw := by omega
                rw [hz, FitP_all (by omega)] at hk
                rcases hk with ⟨k1, k2⟩ | ⟨k1, k2⟩
                · exact Or.inl ⟨k2, congrArg iI k1⟩
                · exact Or.inr ⟨k2, congrArg iI k1⟩)) hP dX5_fits_99
        · --
          refine lv_iload_n hx hb dX5_fits_51 rfl (lv_at hl 1 rfl) ?_
          refine z_if_eq (tgt := 90) hx hb (iI_t (by omega) (by omega)) dX5_fits_52 (by decide) (fun c4 => ?_) (fun c4 => ?_)
          · --
            refine lv_iconst (v := iI 0) hx hb dX5_fits_90 rfl ?_
            refine lv_istore_n (lv' := [(3, .int (iI 0)), (4, .int (iI i)), (0, .ref m0), (1, .int (iI pp)), (2, .int (iI q))]) hx hb dX5_fits_91 rfl hl (by decide) rfl (fun ls hl => ?_)
            refine z_iinc (lv' := [(4, .int (iI (i + 1))), (3, .int (iI 0)), (0, .ref m0), (1, .int (iI pp)), (2, .int (iI q))]) hx hb dX5_fits_92 hl (k := 1) rfl (by decide) rfl (fun ls hl => ?_)
            refine lv_goto (tgt := 39) hx hb dX5_fits_95 (by decide) ?_
            exact ih2 0 (i + 1) (by omega) (by
                    rcases hk with ⟨k1, k2⟩ | ⟨k1, k2⟩
                    · first
                        | exact absurd k1 (by omega)
                        | exact Or.inl ⟨rfl, (FitP_s (by omega)).mpr ⟨k2, fun h => absurd h (by omega)⟩⟩
                        | exact Or.inl ⟨rfl, (FitP_s (by omega)).mpr ⟨k2, fun _ => by assumption⟩⟩
                        | exact Or.inr ⟨rfl, fun h => absurd (((FitP_s (by omega)).mp h).2 (by omega)) (by assumption)⟩
                    · first
                        | exact absurd k1 (by omega)
                        | exact Or.inr ⟨rfl, fun h => k2 ((FitP_s (by omega)).mp h).1⟩) (by omega) _ _ _ hP hD hS (lv_sub hl [0, 1, 2, 3, 4] rfl)
          · --
            refine lv_iload hx hb dX5_fits_55 (lv_at hl 0 rfl) ?_
            refine lv_iload_n hx hb dX5_fits_57 rfl (lv_at hl 4 rfl) ?_
            refine z_icmp_lt (tgt := 86) hx hb (iI_t (by omega) (by omega)) (iI_t (by omega) (by omega)) dX5_fits_58 (by decide) (fun c5 => ?_) (fun c5 => ?_)
            · --
              refine lv_iconst (v := iI 1) hx hb dX5_fits_86 rfl ?_
              refine lv_goto (tgt := 91) hx hb dX5_fits_87 (by decide) ?_
              refine lv_istore_n (lv' := [(3, .int (iI 1)), (4, .int (iI i)), (0, .ref m0), (1, .int (iI pp)), (2, .int (iI q))]) hx hb dX5_fits_91 rfl hl (by decide) rfl (fun ls hl => ?_)
              refine z_iinc (lv' := [(4, .int (iI (i + 1))), (3, .int (iI 1)), (0, .ref m0), (1, .int (iI pp)), (2, .int (iI q))]) hx hb dX5_fits_92 hl (k := 1) rfl (by decide) rfl (fun ls hl => ?_)
              refine lv_goto (tgt := 39) hx hb dX5_fits_95 (by decide) ?_
              exact ih2 1 (i + 1) (by omega) (by
                      rcases hk with ⟨k1, k2⟩ | ⟨k1, k2⟩
                      · first
                          | exact absurd k1 (by omega)
                          | exact Or.inl ⟨rfl, (FitP_s (by omega)).mpr ⟨k2, fun h => absurd h (by omega)⟩⟩
                          | exact Or.inl ⟨rfl, (FitP_s (by omega)).mpr ⟨k2, fun _ => by assumption⟩⟩
                          | exact Or.inr ⟨rfl, fun h => absurd (((FitP_s (by omega)).mp h).2 (by omega)) (by assumption)⟩
                      · first
                          | exact absurd k1 (by omega)
                          | exact Or.inr ⟨rfl, fun h => k2 ((FitP_s (by omega)).mp h).1⟩) (by omega) _ _ _ hP hD hS (lv_sub hl [0, 1, 2, 3, 4] rfl)
            · --
              refine lv_aload_n hx hb dX5_fits_61 rfl (lv_at hl 2 rfl) ?_
              refine va_get (D := D) (ci := 5) (v := .ref a0) (C := RX5) (T := TX5) (N := 8) hx hb hts hiX5 hown hK hP 0 rfl rfl 0 (by decide) (hts (.fieldLink RX5 7 "BackwardSearchModel" "all" "[I") (by decide +kernel)) (fun _ h9 => h9) rfl dX5_fits_62 ?_
              refine lv_bipush (v := iI 62) hx hb dX5_fits_65 (by decide +kernel) ?_
              refine lv_iload hx hb dX5_fits_67 (lv_at hl 0 rfl) ?_
              refine z_add hx hb dX5_fits_69 ?_
              refine z_iald hx hb hK hP 1 rfl (by omega) (by omega) (by omega) dX5_fits_70 ?_
              refine z_top (show G (62 + i).toNat = gW G i.toNat from congrArg G (by omega)) ?_
              refine lv_aload_n hx hb dX5_fits_71 rfl (lv_at hl 2 rfl) ?_
              refine va_get (D := D) (ci := 5) (v := .ref a0) (C := RX5) (T := TX5) (N := 8) hx hb hts hiX5 hown hK hP 0 rfl rfl 0 (by decide) (hts (.fieldLink RX5 7 "BackwardSearchModel" "all" "[I") (by decide +kernel)) (fun _ h9 => h9) rfl dX5_fits_72 ?_
              refine lv_bipush (v := iI 62) hx hb dX5_fits_75 (by decide +kernel) ?_
              refine lv_iload hx hb dX5_fits_77 (lv_at hl 0 rfl) ?_
              refine z_add hx hb dX5_fits_79 ?_
              refine lv_iload_n hx hb dX5_fits_80 rfl (lv_at hl 4 rfl) ?_
              refine z_sub hx hb dX5_fits_81 ?_
              refine z_iald hx hb hK hP 1 rfl (by omega) (by omega) (by omega) dX5_fits_82 ?_
              refine z_top (show G ((62 + i) - q).toNat = gW G (i.toNat - q.toNat) from congrArg G (by omega)) ?_
              refine lv_icmp_ne (tgt := 90) hx hb dX5_fits_83 (by decide) (fun c6 => ?_) (fun c6 => ?_)
              · --
                refine lv_iconst (v := iI 0) hx hb dX5_fits_90 rfl ?_
                refine lv_istore_n (lv' := [(3, .int (iI 0)), (4, .int (iI i)), (0, .ref m0), (1, .int (iI pp)), (2, .int (iI q))]) hx hb dX5_fits_91 rfl hl (by decide) rfl (fun ls hl => ?_)
                refine z_iinc (lv' := [(4, .int (iI (i + 1))), (3, .int (iI 0)), (0, .ref m0), (1, .int (iI pp)), (2, .int (iI q))]) hx hb dX5_fits_92 hl (k := 1) rfl (by decide) rfl (fun ls hl => ?_)
                refine lv_goto (tgt := 39) hx hb dX5_fits_95 (by decide) ?_
                exact ih2 0 (i + 1) (by omega) (by
                        rcases hk with ⟨k1, k2⟩ | ⟨k1, k2⟩
                        · first
                            | exact absurd k1 (by omega)
                            | exact Or.inl ⟨rfl, (FitP_s (by omega)).mpr ⟨k2, fun h => absurd h (by omega)⟩⟩
                            | exact Or.inl ⟨rfl, (FitP_s (by omega)).mpr ⟨k2, fun _ => by assumption⟩⟩
                            | exact Or.inr ⟨rfl, fun h => absurd (((FitP_s (by omega)).mp h).2 (by omega)) (by assumption)⟩
                        · first
                            | exact absurd k1 (by omega)
                            | exact Or.inr ⟨rfl, fun h => k2 ((FitP_s (by omega)).mp h).1⟩) (by omega) _ _ _ hP hD hS (lv_sub hl [0, 1, 2, 3, 4] rfl)
              · --
                refine lv_iconst (v := iI 1) hx hb dX5_fits_86 rfl ?_
                refine lv_goto (tgt := 91) hx hb dX5_fits_87 (by decide) ?_
                refine lv_istore_n (lv' := [(3, .int (iI 1)), (4, .int (iI i)), (0, .ref m0), (1, .int (iI pp)), (2, .int (iI q))]) hx hb dX5_fits_91 rfl hl (by decide) rfl (fun ls hl => ?_)
                refine z_iinc (lv' := [(4, .int (iI (i + 1))), (3, .int (iI 1)), (0, .ref m0), (1, .int (iI pp)), (2, .int (iI q))]) hx hb dX5_fits_92 hl (k := 1) rfl (by decide) rfl (fun ls hl => ?_)
                refine lv_goto (tgt := 39) hx hb dX5_fits_95 (by decide) ?_
                exact ih2 1 (i + 1) (by omega) (by
                        rcases hk with ⟨k1, k2⟩ | ⟨k1, k2⟩
                        · first
                            | exact absurd k1 (by omega)
                            | exact Or.inl ⟨rfl, (FitP_s (by omega)).mpr ⟨k2, fun h => absurd h (by omega)⟩⟩
                            | exact Or.inl ⟨rfl, (FitP_s (by omega)).mpr ⟨k2, fun _ => by assumption⟩⟩
                            | exact Or.inr ⟨rfl, fun h => absurd (((FitP_s (by omega)).mp h).2 (by omega)) (by assumption)⟩
                        · first
                            | exact absurd k1 (by omega)
                            | exact Or.inr ⟨rfl, fun h => k2 ((FitP_s (by omega)).mp h).1⟩) (by omega) _ _ _ hP hD hS (lv_sub hl [0, 1, 2, 3, 4] rfl)
    exact hloop2 (Int.toNat (nw - (pp + 1)) + 1) 1 (pp + 1) (by omega) (by first | exact Or.inl ⟨rfl, FitP_0.mpr (fun h => absurd h (by omega))⟩ | exact Or.inl ⟨rfl, FitP_0.mpr (fun _ => by assumption)⟩ | exact Or.inr ⟨rfl, fun h => FitP_0.mp h (by omega) (by assumption)⟩) (by omega) _ _ _ hP hD hS (lv_sub hl [0, 1, 2, 3, 4] rfl)
  · --
    refine lv_aload_n hx hb dX5_fits_5 rfl (lv_at hl 0 rfl) ?_
    refine va_get (D := D) (ci := 5) (v := .ref a0) (C := RX5) (T := TX5) (N := 8) hx hb hts hiX5 hown hK hP 0 rfl rfl 0 (by decide) (hts (.fieldLink RX5 7 "BackwardSearchModel" "all" "[I") (by decide +kernel)) (fun _ h9 => h9) rfl dX5_fits_6 ?_
    refine lv_bipush (v := iI 62) hx hb dX5_fits_9 (by decide +kernel) ?_
    refine lv_iload_n hx hb dX5_fits_11 rfl (lv_at hl 1 rfl) ?_
    refine z_add hx hb dX5_fits_12 ?_
    refine z_iald hx hb hK hP 1 rfl (by omega) (by omega) (by omega) dX5_fits_13 ?_
    refine z_top (show G (62 + pp).toNat = gW G pp.toNat from congrArg G (by omega)) ?_
    refine lv_aload_n hx hb dX5_fits_14 rfl (lv_at hl 0 rfl) ?_
    refine va_get (D := D) (ci := 5) (v := .ref a0) (C := RX5) (T := TX5) (N := 8) hx hb hts hiX5 hown hK hP 0 rfl rfl 0 (by decide) (hts (.fieldLink RX5 7 "BackwardSearchModel" "all" "[I") (by decide +kernel)) (fun _ h9 => h9) rfl dX5_fits_15 ?_
    refine lv_bipush (v := iI 62) hx hb dX5_fits_18 (by decide +kernel) ?_
    refine lv_iload_n hx hb dX5_fits_20 rfl (lv_at hl 1 rfl) ?_
    refine z_add hx hb dX5_fits_21 ?_
    refine lv_iload_n hx hb dX5_fits_22 rfl (lv_at hl 2 rfl) ?_
    refine z_sub hx hb dX5_fits_23 ?_
    refine z_iald hx hb hK hP 1 rfl (by omega) (by omega) (by omega) dX5_fits_24 ?_
    refine z_top (show G ((62 + pp) - q).toNat = gW G (pp.toNat - q.toNat) from congrArg G (by omega)) ?_
    refine lv_icmp_eq (tgt := 32) hx hb dX5_fits_25 (by decide) (fun c7 => ?_) (fun c7 => ?_)
    · --
      refine lv_iconst (v := iI 0) hx hb dX5_fits_32 rfl ?_
      refine lv_istore_n (lv' := [(3, .int (iI 0)), (0, .ref m0), (1, .int (iI pp)), (2, .int (iI q))]) hx hb dX5_fits_33 rfl hl (by decide) rfl (fun ls hl => ?_)
      refine lv_iload_n hx hb dX5_fits_34 rfl (lv_at hl 2 rfl) ?_
      refine lv_iconst (v := iI 1) hx hb dX5_fits_35 rfl ?_
      refine z_add hx hb dX5_fits_36 ?_
      refine lv_istore (lv' := [(4, .int (iI (pp + 1))), (3, .int (iI 0)), (0, .ref m0), (1, .int (iI pp)), (2, .int (iI q))]) hx hb dX5_fits_37 hl (by decide) rfl (fun ls hl => ?_)
      have hloop8 : ∀ (n8 : Nat) (k : Int) (i : Int) (hi : pp < i ∧ i ≤ nw) (hk : (k = 1 ∧ FitP (gW G) pp q i) ∨ (k = 0 ∧ ¬ FitP (gW G) pp q i)) (hm : nw - i < (n8 : Int)) (H : Heap) (locs : List Loc) (ls : Array Slot) (hP : va_P D vwCl [(m0, .inr (5, [.ref a0, .ref p0, .int (iI ho), .ref q0, .ref v0, .int (iI th), .ref t0, .int (iI tl)])), (a0, .inl (cy 0, 144, .inl G))] H) (hD : va_D A [(m0, .inr (5, [.ref a0, .ref p0, .int (iI ho), .ref q0, .ref v0, .int (iI th), .ref t0, .int (iI tl)])), (a0, .inl (cy 0, 144, .inl G))]) (hS : va_S A s.heap H locs) (hl : lv_has ls 5 [(4, .int (iI i)), (3, .int (iI k)), (0, .ref m0), (1, .int (iI pp)), (2, .int (iI q))]), W p l e ({ frames := 0, cells := 0, slots := 0, locals := 0 } : Room) s m args below meth c H locs 0 0 (MQ below (va_Qi (fun (r : Int32) (u : Unit) => ((endP nw.toNat (gW G) pp.toNat q.toNat) ∧ r = iI 1) ∨ (¬ (endP nw.toNat (gW G) pp.toNat q.toNat) ∧ r = iI 0)) (fun u t => va_P D vwCl ((fun u : Unit => [(m0, .inr (5, [.ref a0, .ref p0, .int (iI ho), .ref q0, .ref v0, .int (iI th), .ref t0, .int (iI tl)])), (a0, .inl (cy 0, 144, .inl G))]) u) t.heap) A) args s 0 0 A) (F0 m 39 ls []) := by
        intro n8
        induction n8 with
        | zero =>
          intro k i hi hk hm; exact absurd hm (by omega)
        | succ n8 ih8 =>
          intro k i hi hk hm H locs ls hP hD hS hl
          refine lv_iload hx hb dX5_fits_39 (lv_at hl 0 rfl) ?_
          refine lv_aload_n hx hb dX5_fits_41 rfl (lv_at hl 2 rfl) ?_
          refine va_get (D := D) (ci := 5) (v := .ref a0) (C := RX5) (T := TX5) (N := 8) hx hb hts hiX5 hown hK hP 0 rfl rfl 0 (by decide) (hts (.fieldLink RX5 7 "BackwardSearchModel" "all" "[I") (by decide +kernel)) (fun _ h9 => h9) rfl dX5_fits_42 ?_
          refine lv_bipush (v := iI 61) hx hb dX5_fits_45 (by decide +kernel) ?_
          refine z_iald hx hb hK hP 1 rfl (by omega) (by omega) (by omega) dX5_fits_47 ?_
          refine z_top (show G (61 : Int).toNat = iI nw from h61) ?_
          refine z_icmp_ge (tgt := 98) hx hb (iI_t (by omega) (by omega)) (iI_t (by omega) (by omega)) dX5_fits_48 (by decide) (fun c9 => ?_) (fun c9 => ?_)
          · --
            refine lv_iload_n hx hb dX5_fits_98 rfl (lv_at hl 1 rfl) ?_
            exact z_zret hx hb hr hlocks (z_nb (by omega) (by omega)) hS () (show ((endP nw.toNat (gW G) pp.toNat q.toNat) ∧ (iI k) = iI 1) ∨ (¬ (endP nw.toNat (gW G) pp.toNat q.toNat) ∧ (iI k) = iI 0) from (by
                  have hz : i = nw := by omega
                  rw [hz, FitP_all (by omega)] at hk
                  rcases hk with ⟨k1, k2⟩ | ⟨k1, k2⟩
                  · exact Or.inl ⟨k2, congrArg iI k1⟩
                  · exact Or.inr ⟨k2, congrArg iI k1⟩)) hP dX5_fits_99
          · --
            refine lv_iload_n hx hb dX5_fits_51 rfl (lv_at hl 1 rfl) ?_
            refine z_if_eq (tgt := 90) hx hb (iI_t (by omega) (by omega)) dX5_fits_52 (by decide) (fun c10 => ?_) (fun c10 => ?_)
            · --
              refine lv_iconst (v := iI 0) hx hb dX5_fits_90 rfl ?_
              refine lv_istore_n (lv' := [(3, .int (iI 0)), (4, .int (iI i)), (0, .ref m0), (1, .int (iI pp)), (2, .int (iI q))]) hx hb dX5_fits_91 rfl hl (by decide) rfl (fun ls hl => ?_)
              refine z_iinc (lv' := [(4, .int (iI (i + 1))), (3, .int (iI 0)), (0, .ref m0), (1, .int (iI pp)), (2, .int (iI q))]) hx hb dX5_fits_92 hl (k := 1) rfl (by decide) rfl (fun ls hl => ?_)
              refine lv_goto (tgt := 39) hx hb dX5_fits_95 (by decide) ?_
              exact ih8 0 (i + 1) (by omega) (by
                      rcases hk with ⟨k1, k2⟩ | ⟨k1, k2⟩
                      · first
                          | exact absurd k1 (by omega)
                          | exact Or.inl ⟨rfl, (FitP_s (by omega)).mpr ⟨k2, fun h => absurd h (by omega)⟩⟩
                          | exact Or.inl ⟨rfl, (FitP_s (by omega)).mpr ⟨k2, fun _ => by assumption⟩⟩
                          | exact Or.inr ⟨rfl, fun h => absurd (((FitP_s (by omega)).mp h).2 (by omega)) (by assumption)⟩
                      · first
                          | exact absurd k1 (by omega)
                          | exact Or.inr ⟨rfl, fun h => k2 ((FitP_s (by omega)).mp h).1⟩) (by omega) _ _ _ hP hD hS (lv_sub hl [0, 1, 2, 3, 4] rfl)
            · --
              refine lv_iload hx hb dX5_fits_55 (lv_at hl 0 rfl) ?_
              refine lv_iload_n hx hb dX5_fits_57 rfl (lv_at hl 4 rfl) ?_
              refine z_icmp_lt (tgt := 86) hx hb (iI_t (by omega) (by omega)) (iI_t (by omega) (by omega)) dX5_fits_58 (by decide) (fun c11 => ?_) (fun c11 => ?_)
              · --
                refine lv_iconst (v := iI 1) hx hb dX5_fits_86 rfl ?_
                refine lv_goto (tgt := 91) hx hb dX5_fits_87 (by decide) ?_
                refine lv_istore_n (lv' := [(3, .int (iI 1)), (4, .int (iI i)), (0, .ref m0), (1, .int (iI pp)), (2, .int (iI q))]) hx hb dX5_fits_91 rfl hl (by decide) rfl (fun ls hl => ?_)
                refine z_iinc (lv' := [(4, .int (iI (i + 1))), (3, .int (iI 1)), (0, .ref m0), (1, .int (iI pp)), (2, .int (iI q))]) hx hb dX5_fits_92 hl (k := 1) rfl (by decide) rfl (fun ls hl => ?_)
                refine lv_goto (tgt := 39) hx hb dX5_fits_95 (by decide) ?_
                exact ih8 1 (i + 1) (by omega) (by
                        rcases hk with ⟨k1, k2⟩ | ⟨k1, k2⟩
                        · first
                            | exact absurd k1 (by omega)
                            | exact Or.inl ⟨rfl, (FitP_s (by omega)).mpr ⟨k2, fun h => absurd h (by omega)⟩⟩
                            | exact Or.inl ⟨rfl, (FitP_s (by omega)).mpr ⟨k2, fun _ => by assumption⟩⟩
                            | exact Or.inr ⟨rfl, fun h => absurd (((FitP_s (by omega)).mp h).2 (by omega)) (by assumption)⟩
                        · first
                            | exact absurd k1 (by omega)
                            | exact Or.inr ⟨rfl, fun h => k2 ((FitP_s (by omega)).mp h).1⟩) (by omega) _ _ _ hP hD hS (lv_sub hl [0, 1, 2, 3, 4] rfl)
              · --
                refine lv_aload_n hx hb dX5_fits_61 rfl (lv_at hl 2 rfl) ?_
                refine va_get (D := D) (ci := 5) (v := .ref a0) (C := RX5) (T := TX5) (N := 8) hx hb hts hiX5 hown hK hP 0 rfl rfl 0 (by decide) (hts (.fieldLink RX5 7 "BackwardSearchModel" "all" "[I") (by decide +kernel)) (fun _ h9 => h9) rfl dX5_fits_62 ?_
                refine lv_bipush (v := iI 62) hx hb dX5_fits_65 (by decide +kernel) ?_
                refine lv_iload hx hb dX5_fits_67 (lv_at hl 0 rfl) ?_
                refine z_add hx hb dX5_fits_69 ?_
                refine z_iald hx hb hK hP 1 rfl (by omega) (by omega) (by omega) dX5_fits_70 ?_
                refine z_top (show G (62 + i).toNat = gW G i.toNat from congrArg G (by omega)) ?_
                refine lv_aload_n hx hb dX5_fits_71 rfl (lv_at hl 2 rfl) ?_
                refine va_get (D := D) (ci := 5) (v := .ref a0) (C := RX5) (T := TX5) (N := 8) hx hb hts hiX5 hown hK hP 0 rfl rfl 0 (by decide) (hts (.fieldLink RX5 7 "BackwardSearchModel" "all" "[I") (by decide +kernel)) (fun _ h9 => h9) rfl dX5_fits_72 ?_
                refine lv_bipush (v := iI 62) hx hb dX5_fits_75 (by decide +kernel) ?_
                refine lv_iload hx hb dX5_fits_77 (lv_at hl 0 rfl) ?_
                refine z_add hx hb dX5_fits_79 ?_
                refine lv_iload_n hx hb dX5_fits_80 rfl (lv_at hl 4 rfl) ?_
                refine z_sub hx hb dX5_fits_81 ?_
                refine z_iald hx hb hK hP 1 rfl (by omega) (by omega) (by omega) dX5_fits_82 ?_
                refine z_top (show G ((62 + i) - q).toNat = gW G (i.toNat - q.toNat) from congrArg G (by omega)) ?_
                refine lv_icmp_ne (tgt := 90) hx hb dX5_fits_83 (by decide) (fun c12 => ?_) (fun c12 => ?_)
                · --
                  refine lv_iconst (v := iI 0) hx hb dX5_fits_90 rfl ?_
                  refine lv_istore_n (lv' := [(3, .int (iI 0)), (4, .int (iI i)), (0, .ref m0), (1, .int (iI pp)), (2, .int (iI q))]) hx hb dX5_fits_91 rfl hl (by decide) rfl (fun ls hl => ?_)
                  refine z_iinc (lv' := [(4, .int (iI (i + 1))), (3, .int (iI 0)), (0, .ref m0), (1, .int (iI pp)), (2, .int (iI q))]) hx hb dX5_fits_92 hl (k := 1) rfl (by decide) rfl (fun ls hl => ?_)
                  refine lv_goto (tgt := 39) hx hb dX5_fits_95 (by decide) ?_
                  exact ih8 0 (i + 1) (by omega) (by
                          rcases hk with ⟨k1, k2⟩ | ⟨k1, k2⟩
                          · first
                              | exact absurd k1 (by omega)
                              | exact Or.inl ⟨rfl, (FitP_s (by omega)).mpr ⟨k2, fun h => absurd h (by omega)⟩⟩
                              | exact Or.inl ⟨rfl, (FitP_s (by omega)).mpr ⟨k2, fun _ => by assumption⟩⟩
                              | exact Or.inr ⟨rfl, fun h => absurd (((FitP_s (by omega)).mp h).2 (by omega)) (by assumption)⟩
                          · first
                              | exact absurd k1 (by omega)
                              | exact Or.inr ⟨rfl, fun h => k2 ((FitP_s (by omega)).mp h).1⟩) (by omega) _ _ _ hP hD hS (lv_sub hl [0, 1, 2, 3, 4] rfl)
                · --
                  refine lv_iconst (v := iI 1) hx hb dX5_fits_86 rfl ?_
                  refine lv_goto (tgt := 91) hx hb dX5_fits_87 (by decide) ?_
                  refine lv_istore_n (lv' := [(3, .int (iI 1)), (4, .int (iI i)), (0, .ref m0), (1, .int (iI pp)), (2, .int (iI q))]) hx hb dX5_fits_91 rfl hl (by decide) rfl (fun ls hl => ?_)
                  refine z_iinc (lv' := [(4, .int (iI (i + 1))), (3, .int (iI 1)), (0, .ref m0), (1, .int (iI pp)), (2, .int (iI q))]) hx hb dX5_fits_92 hl (k := 1) rfl (by decide) rfl (fun ls hl => ?_)
                  refine lv_goto (tgt := 39) hx hb dX5_fits_95 (by decide) ?_
                  exact ih8 1 (i + 1) (by omega) (by
                          rcases hk with ⟨k1, k2⟩ | ⟨k1, k2⟩
                          · first
                              | exact absurd k1 (by omega)
                              | exact Or.inl ⟨rfl, (FitP_s (by omega)).mpr ⟨k2, fun h => absurd h (by omega)⟩⟩
                              | exact Or.inl ⟨rfl, (FitP_s (by omega)).mpr ⟨k2, fun _ => by assumption⟩⟩
                              | exact Or.inr ⟨rfl, fun h => absurd (((FitP_s (by omega)).mp h).2 (by omega)) (by assumption)⟩
                          · first
                              | exact absurd k1 (by omega)
                              | exact Or.inr ⟨rfl, fun h => k2 ((FitP_s (by omega)).mp h).1⟩) (by omega) _ _ _ hP hD hS (lv_sub hl [0, 1, 2, 3, 4] rfl)
      exact hloop8 (Int.toNat (nw - (pp + 1)) + 1) 0 (pp + 1) (by omega) (by first | exact Or.inl ⟨rfl, FitP_0.mpr (fun h => absurd h (by omega))⟩ | exact Or.inl ⟨rfl, FitP_0.mpr (fun _ => by assumption)⟩ | exact Or.inr ⟨rfl, fun h => FitP_0.mp h (by omega) (by assumption)⟩) (by omega) _ _ _ hP hD hS (lv_sub hl [0, 1, 2, 3, 4] rfl)
    · --
      refine lv_iconst (v := iI 1) hx hb dX5_fits_28 rfl ?_
      refine lv_goto (tgt := 33) hx hb dX5_fits_29 (by decide) ?_
      refine lv_istore_n (lv' := [(3, .int (iI 1)), (0, .ref m0), (1, .int (iI pp)), (2, .int (iI q))]) hx hb dX5_fits_33 rfl hl (by decide) rfl (fun ls hl => ?_)
      refine lv_iload_n hx hb dX5_fits_34 rfl (lv_at hl 2 rfl) ?_
      refine lv_iconst (v := iI 1) hx hb dX5_fits_35 rfl ?_
      refine z_add hx hb dX5_fits_36 ?_
      refine lv_istore (lv' := [(4, .int (iI (pp + 1))), (3, .int (iI 1)), (0, .ref m0), (1, .int (iI pp)), (2, .int (iI q))]) hx hb dX5_fits_37 hl (by decide) rfl (fun ls hl => ?_)
      have hloop13 : ∀ (n13 : Nat) (k : Int) (i : Int) (hi : pp < i ∧ i ≤ nw) (hk : (k = 1 ∧ FitP (gW G) pp q i) ∨ (k = 0 ∧ ¬ FitP (gW G) pp q i)) (hm : nw - i < (n13 : Int)) (H : Heap) (locs : List Loc) (ls : Array Slot) (hP : va_P D vwCl [(m0, .inr (5, [.ref a0, .ref p0, .int (iI ho), .ref q0, .ref v0, .int (iI th), .ref t0, .int (iI tl)])), (a0, .inl (cy 0, 144, .inl G))] H) (hD : va_D A [(m0, .inr (5, [.ref a0, .ref p0, .int (iI ho), .ref q0, .ref v0, .int (iI th), .ref t0, .int (iI tl)])), (a0, .inl (cy 0, 144, .inl G))]) (hS : va_S A s.heap H locs) (hl : lv_has ls 5 [(4, .int (iI i)), (3, .int (iI k)), (0, .ref m0), (1, .int (iI pp)), (2, .int (iI q))]), W p l e ({ frames := 0, cells := 0, slots := 0, locals := 0 } : Room) s m args below meth c H locs 0 0 (MQ below (va_Qi (fun (r : Int32) (u : Unit) => ((endP nw.toNat (gW G) pp.toNat q.toNat) ∧ r = iI 1) ∨ (¬ (endP nw.toNat (gW G) pp.toNat q.toNat) ∧ r = iI 0)) (fun u t => va_P D vwCl ((fun u : Unit => [(m0, .inr (5, [.ref a0, .ref p0, .int (iI ho), .ref q0, .ref v0, .int (iI th), .ref t0, .int (iI tl)])), (a0, .inl (cy 0, 144, .inl G))]) u) t.heap) A) args s 0 0 A) (F0 m 39 ls []) := by
        intro n13
        induction n13 with
        | zero =>
          intro k i hi hk hm; exact absurd hm (by omega)
        | succ n13 ih13 =>
          intro k i hi hk hm H locs ls hP hD hS hl
          refine lv_iload hx hb dX5_fits_39 (lv_at hl 0 rfl) ?_
          refine lv_aload_n hx hb dX5_fits_41 rfl (lv_at hl 2 rfl) ?_
          refine va_get (D := D) (ci := 5) (v := .ref a0) (C := RX5) (T := TX5) (N := 8) hx hb hts hiX5 hown hK hP 0 rfl rfl 0 (by decide) (hts (.fieldLink RX5 7 "BackwardSearchModel" "all" "[I") (by decide +kernel)) (fun _ h9 => h9) rfl dX5_fits_42 ?_
          refine lv_bipush (v := iI 61) hx hb dX5_fits_45 (by decide +kernel) ?_
          refine z_iald hx hb hK hP 1 rfl (by omega) (by omega) (by omega) dX5_fits_47 ?_
          refine z_top (show G (61 : Int).toNat = iI nw from h61) ?_
          refine z_icmp_ge (tgt := 98) hx hb (iI_t (by omega) (by omega)) (iI_t (by omega) (by omega)) dX5_fits_48 (by decide) (fun c14 => ?_) (fun c14 => ?_)
          · --
            refine lv_iload_n hx hb dX5_fits_98 rfl (lv_at hl 1 rfl) ?_
            exact z_zret hx hb hr hlocks (z_nb (by omega) (by omega)) hS () (show ((endP nw.toNat (gW G) pp.toNat q.toNat) ∧ (iI k) = iI 1) ∨ (¬ (endP nw.toNat (gW G) pp.toNat q.toNat) ∧ (iI k) = iI 0) from (by
                  have hz : i = nw := by omega
                  rw [hz, FitP_all (by omega)] at hk
                  rcases hk with ⟨k1, k2⟩ | ⟨k1, k2⟩
                  · exact Or.inl ⟨k2, congrArg iI k1⟩
                  · exact Or.inr ⟨k2, congrArg iI k1⟩)) hP dX5_fits_99
          · --
            refine lv_iload_n hx hb dX5_fits_51 rfl (lv_at hl 1 rfl) ?_
            refine z_if_eq (tgt := 90) hx hb (iI_t (by omega) (by omega)) dX5_fits_52 (by decide) (fun c15 => ?_) (fun c15 => ?_)
            · --
              refine lv_iconst (v := iI 0) hx hb dX5_fits_90 rfl ?_
              refine lv_istore_n (lv' := [(3, .int (iI 0)), (4, .int (iI i)), (0, .ref m0), (1, .int (iI pp)), (2, .int (iI q))]) hx hb dX5_fits_91 rfl hl (by decide) rfl (fun ls hl => ?_)
              refine z_iinc (lv' := [(4, .int (iI (i + 1))), (3, .int (iI 0)), (0, .ref m0), (1, .int (iI pp)), (2, .int (iI q))]) hx hb dX5_fits_92 hl (k := 1) rfl (by decide) rfl (fun ls hl => ?_)
              refine lv_goto (tgt := 39) hx hb dX5_fits_95 (by decide) ?_
              exact ih13 0 (i + 1) (by omega) (by
                      rcases hk with ⟨k1, k2⟩ | ⟨k1, k2⟩
                      · first
                          | exact absurd k1 (by omega)
                          | exact Or.inl ⟨rfl, (FitP_s (by omega)).mpr ⟨k2, fun h => absurd h (by omega)⟩⟩
                          | exact Or.inl ⟨rfl, (FitP_s (by omega)).mpr ⟨k2, fun _ => by assumption⟩⟩
                          | exact Or.inr ⟨rfl, fun h => absurd (((FitP_s (by omega)).mp h).2 (by omega)) (by assumption)⟩
                      · first
                          | exact absurd k1 (by omega)
                          | exact Or.inr ⟨rfl, fun h => k2 ((FitP_s (by omega)).mp h).1⟩) (by omega) _ _ _ hP hD hS (lv_sub hl [0, 1, 2, 3, 4] rfl)
            · --
              refine lv_iload hx hb dX5_fits_55 (lv_at hl 0 rfl) ?_
              refine lv_iload_n hx hb dX5_fits_57 rfl (lv_at hl 4 rfl) ?_
              refine z_icmp_lt (tgt := 86) hx hb (iI_t (by omega) (by omega)) (iI_t (by omega) (by omega)) dX5_fits_58 (by decide) (fun c16 => ?_) (fun c16 => ?_)
              · --
                refine lv_iconst (v := iI 1) hx hb dX5_fits_86 rfl ?_
                refine lv_goto (tgt := 91) hx hb dX5_fits_87 (by decide) ?_
                refine lv_istore_n (lv' := [(3, .int (iI 1)), (4, .int (iI i)), (0, .ref m0), (1, .int (iI pp)), (2, .int (iI q))]) hx hb dX5_fits_91 rfl hl (by decide) rfl (fun ls hl => ?_)
                refine z_iinc (lv' := [(4, .int (iI (i + 1))), (3, .int (iI 1)), (0, .ref m0), (1, .int (iI pp)), (2, .int (iI q))]) hx hb dX5_fits_92 hl (k := 1) rfl (by decide) rfl (fun ls hl => ?_)
                refine lv_goto (tgt := 39) hx hb dX5_fits_95 (by decide) ?_
                exact ih13 1 (i + 1) (by omega) (by
                        rcases hk with ⟨k1, k2⟩ | ⟨k1, k2⟩
                        · first
                            | exact absurd k1 (by omega)
                            | exact Or.inl ⟨rfl, (FitP_s (by omega)).mpr ⟨k2, fun h => absurd h (by omega)⟩⟩
                            | exact Or.inl ⟨rfl, (FitP_s (by omega)).mpr ⟨k2, fun _ => by assumption⟩⟩
                            | exact Or.inr ⟨rfl, fun h => absurd (((FitP_s (by omega)).mp h).2 (by omega)) (by assumption)⟩
                        · first
                            | exact absurd k1 (by omega)
                            | exact Or.inr ⟨rfl, fun h => k2 ((FitP_s (by omega)).mp h).1⟩) (by omega) _ _ _ hP hD hS (lv_sub hl [0, 1, 2, 3, 4] rfl)
              · --
                refine lv_aload_n hx hb dX5_fits_61 rfl (lv_at hl 2 rfl) ?_
                refine va_get (D := D) (ci := 5) (v := .ref a0) (C := RX5) (T := TX5) (N := 8) hx hb hts hiX5 hown hK hP 0 rfl rfl 0 (by decide) (hts (.fieldLink RX5 7 "BackwardSearchModel" "all" "[I") (by decide +kernel)) (fun _ h9 => h9) rfl dX5_fits_62 ?_
                refine lv_bipush (v := iI 62) hx hb dX5_fits_65 (by decide +kernel) ?_
                refine lv_iload hx hb dX5_fits_67 (lv_at hl 0 rfl) ?_
                refine z_add hx hb dX5_fits_69 ?_
                refine z_iald hx hb hK hP 1 rfl (by omega) (by omega) (by omega) dX5_fits_70 ?_
                refine z_top (show G (62 + i).toNat = gW G i.toNat from congrArg G (by omega)) ?_
                refine lv_aload_n hx hb dX5_fits_71 rfl (lv_at hl 2 rfl) ?_
                refine va_get (D := D) (ci := 5) (v := .ref a0) (C := RX5) (T := TX5) (N := 8) hx hb hts hiX5 hown hK hP 0 rfl rfl 0 (by decide) (hts (.fieldLink RX5 7 "BackwardSearchModel" "all" "[I") (by decide +kernel)) (fun _ h9 => h9) rfl dX5_fits_72 ?_
                refine lv_bipush (v := iI 62) hx hb dX5_fits_75 (by decide +kernel) ?_
                refine lv_iload hx hb dX5_fits_77 (lv_at hl 0 rfl) ?_
                refine z_add hx hb dX5_fits_79 ?_
                refine lv_iload_n hx hb dX5_fits_80 rfl (lv_at hl 4 rfl) ?_
                refine z_sub hx hb dX5_fits_81 ?_
                refine z_iald hx hb hK hP 1 rfl (by omega) (by omega) (by omega) dX5_fits_82 ?_
                refine z_top (show G ((62 + i) - q).toNat = gW G (i.toNat - q.toNat) from congrArg G (by omega)) ?_
                refine lv_icmp_ne (tgt := 90) hx hb dX5_fits_83 (by decide) (fun c17 => ?_) (fun c17 => ?_)
                · --
                  refine lv_iconst (v := iI 0) hx hb dX5_fits_90 rfl ?_
                  refine lv_istore_n (lv' := [(3, .int (iI 0)), (4, .int (iI i)), (0, .ref m0), (1, .int (iI pp)), (2, .int (iI q))]) hx hb dX5_fits_91 rfl hl (by decide) rfl (fun ls hl => ?_)
                  refine z_iinc (lv' := [(4, .int (iI (i + 1))), (3, .int (iI 0)), (0, .ref m0), (1, .int (iI pp)), (2, .int (iI q))]) hx hb dX5_fits_92 hl (k := 1) rfl (by decide) rfl (fun ls hl => ?_)
                  refine lv_goto (tgt := 39) hx hb dX5_fits_95 (by decide) ?_
                  exact ih13 0 (i + 1) (by omega) (by
                          rcases hk with ⟨k1, k2⟩ | ⟨k1, k2⟩
                          · first
                              | exact absurd k1 (by omega)
                              | exact Or.inl ⟨rfl, (FitP_s (by omega)).mpr ⟨k2, fun h => absurd h (by omega)⟩⟩
                              | exact Or.inl ⟨rfl, (FitP_s (by omega)).mpr ⟨k2, fun _ => by assumption⟩⟩
                              | exact Or.inr ⟨rfl, fun h => absurd (((FitP_s (by omega)).mp h).2 (by omega)) (by assumption)⟩
                          · first
                              | exact absurd k1 (by omega)
                              | exact Or.inr ⟨rfl, fun h => k2 ((FitP_s (by omega)).mp h).1⟩) (by omega) _ _ _ hP hD hS (lv_sub hl [0, 1, 2, 3, 4] rfl)
                · --
                  refine lv_iconst (v := iI 1) hx hb dX5_fits_86 rfl ?_
                  refine lv_goto (tgt := 91) hx hb dX5_fits_87 (by decide) ?_
                  refine lv_istore_n (lv' := [(3, .int (iI 1)), (4, .int (iI i)), (0, .ref m0), (1, .int (iI pp)), (2, .int (iI q))]) hx hb dX5_fits_91 rfl hl (by decide) rfl (fun ls hl => ?_)
                  refine z_iinc (lv' := [(4, .int (iI (i + 1))), (3, .int (iI 1)), (0, .ref m0), (1, .int (iI pp)), (2, .int (iI q))]) hx hb dX5_fits_92 hl (k := 1) rfl (by decide) rfl (fun ls hl => ?_)
                  refine lv_goto (tgt := 39) hx hb dX5_fits_95 (by decide) ?_
                  exact ih13 1 (i + 1) (by omega) (by
                          rcases hk with ⟨k1, k2⟩ | ⟨k1, k2⟩
                          · first
                              | exact absurd k1 (by omega)
                              | exact Or.inl ⟨rfl, (FitP_s (by omega)).mpr ⟨k2, fun h => absurd h (by omega)⟩⟩
                              | exact Or.inl ⟨rfl, (FitP_s (by omega)).mpr ⟨k2, fun _ => by assumption⟩⟩
                              | exact Or.inr ⟨rfl, fun h => absurd (((FitP_s (by omega)).mp h).2 (by omega)) (by assumption)⟩
                          · first
                              | exact absurd k1 (by omega)
                              | exact Or.inr ⟨rfl, fun h => k2 ((FitP_s (by omega)).mp h).1⟩) (by omega) _ _ _ hP hD hS (lv_sub hl [0, 1, 2, 3, 4] rfl)
      exact hloop13 (Int.toNat (nw - (pp + 1)) + 1) 1 (pp + 1) (by omega) (by first | exact Or.inl ⟨rfl, FitP_0.mpr (fun h => absurd h (by omega))⟩ | exact Or.inl ⟨rfl, FitP_0.mpr (fun _ => by assumption)⟩ | exact Or.inr ⟨rfl, fun h => FitP_0.mp h (by omega) (by assumption)⟩) (by omega) _ _ _ hP hD hS (lv_sub hl [0, 1, 2, 3, 4] rfl)
set_option maxHeartbeats 4000000 in
set_option maxRecDepth 100000 in
theorem c_X5_endSkipOf (l : Launch) (D : va_G) (cy : Nat → ClassId) (m0 : Nat) (a0 : Nat) (p0 : Nat) (q0 : Nat) (v0 : Nat) (t0 : Nat) (ho : Int) (th : Int) (tl : Int) (G : Nat → Int32) (nw : Int) (pp : Int) (h61 : G 61 = iI nw) (hnw : 0 ≤ nw ∧ nw ≤ 16) (hp1 : 0 ≤ pp ∧ pp < nw) : Ci l D cy yX5_endSkipOf wsX5_endSkipOf 1 24 [.ref m0, .int (iI pp)] [(m0, .inr (5, [.ref a0, .ref p0, .int (iI ho), .ref q0, .ref v0, .int (iI th), .ref t0, .int (iI tl)])), (a0, .inl (cy 0, 144, .inl G))] (fun (r : Int32) (u : Unit) => r = iI (endF nw.toNat (gW G) pp.toNat : Int)) (fun u : Unit => [(m0, .inr (5, [.ref a0, .ref p0, .int (iI ho), .ref q0, .ref v0, .int (iI th), .ref t0, .int (iI tl)])), (a0, .inl (cy 0, 144, .inl G))]) := by
  refine Ci_of (cc := cX5_endSkipOf) (maxL := 3) (ret := (some .int)) (by decide) rfl rfl ?_
  intro p e s m args below meth c A hx hb hr hts hown hlocks hml hP hK hD hT hA ls hl
  have hS : va_S A s.heap s.heap [] := va_S.rf
  have hl : lv_has ls 3 [(0, .ref m0), (1, .int (iI pp))] := hl
  refine lv_iconst (v := iI 1) hx hb dX5_endSkipOf_0 rfl ?_
  refine lv_istore_n (lv' := [(2, .int (iI 1)), (0, .ref m0), (1, .int (iI pp))]) hx hb dX5_endSkipOf_1 rfl hl (by decide) rfl (fun ls hl => ?_)
  have hloop1 : ∀ (n1 : Nat) (q : Int) (hq : 1 ≤ q ∧ q ≤ nw) (hmin : ∀ k : Nat, 1 ≤ k → (k : Int) < q → ¬ endP nw.toNat (gW G) pp.toNat k) (hm : nw - q < (n1 : Int)) (H : Heap) (locs : List Loc) (ls : Array Slot) (hP : va_P D vwCl [(m0, .inr (5, [.ref a0, .ref p0, .int (iI ho), .ref q0, .ref v0, .int (iI th), .ref t0, .int (iI tl)])), (a0, .inl (cy 0, 144, .inl G))] H) (hD : va_D A [(m0, .inr (5, [.ref a0, .ref p0, .int (iI ho), .ref q0, .ref v0, .int (iI th), .ref t0, .int (iI tl)])), (a0, .inl (cy 0, 144, .inl G))]) (hS : va_S A s.heap H locs) (hl : lv_has ls 3 [(2, .int (iI q)), (0, .ref m0), (1, .int (iI pp))]), W p l e ({ frames := 1, cells := 0, slots := 0, locals := 24 } : Room) s m args below meth c H locs 0 0 (MQ below (va_Qi (fun (r : Int32) (u : Unit) => r = iI (endF nw.toNat (gW G) pp.toNat : Int)) (fun u t => va_P D vwCl ((fun u : Unit => [(m0, .inr (5, [.ref a0, .ref p0, .int (iI ho), .ref q0, .ref v0, .int (iI th), .ref t0, .int (iI tl)])), (a0, .inl (cy 0, 144, .inl G))]) u) t.heap) A) args s 0 0 A) (F0 m 2 ls []) := by
    intro n1
    induction n1 with
    | zero =>
      intro q hq hmin hm; exact absurd hm (by omega)
    | succ n1 ih1 =>
      intro q hq hmin hm H locs ls hP hD hS hl
      refine lv_aload_n hx hb dX5_endSkipOf_2 rfl (lv_at hl 1 rfl) ?_
      refine lv_iload_n hx hb dX5_endSkipOf_3 rfl (lv_at hl 2 rfl) ?_
      refine lv_iload_n hx hb dX5_endSkipOf_4 rfl (lv_at hl 0 rfl) ?_
      refine z_cVi (n := 2) (b := m0) (As := [.int (iI pp), .int (iI q)]) (rest := []) ⟨hx, hb, hml, hown, hts⟩ (c_X5_fits l D cy m0 a0 p0 q0 v0 t0 ho th tl G nw pp q (by omega) (by omega) (by omega)) gX5_endSkipOf_X5_fits rfl (by decide +kernel) ⟨Nat.le_of_ble_eq_true rfl, Nat.le_of_ble_eq_true rfl⟩ hK hT hP hD hS hA [0, 1] rfl rfl 0 5 rfl rfl rfl (fun _ => rfl) rfl hl.1 rfl (Nat.le_of_ble_eq_true rfl) dX5_endSkipOf_5 ⟨Nat.zero_le _, Nat.zero_le _⟩ (fun r_2 u_2 H locs hw_2 hP hD hS => ?_)
      have hw_2 : ((endP nw.toNat (gW G) pp.toNat q.toNat) ∧ r_2 = iI 1) ∨ (¬ (endP nw.toNat (gW G) pp.toNat q.toNat) ∧ r_2 = iI 0) := hw_2
      have hP : va_P D vwCl [(m0, .inr (5, [.ref a0, .ref p0, .int (iI ho), .ref q0, .ref v0, .int (iI th), .ref t0, .int (iI tl)])), (a0, .inl (cy 0, 144, .inl G))] H := hP
      have hD : va_D A [(m0, .inr (5, [.ref a0, .ref p0, .int (iI ho), .ref q0, .ref v0, .int (iI th), .ref t0, .int (iI tl)])), (a0, .inl (cy 0, 144, .inl G))] := hD
      rcases hw_2 with ⟨h_2, rfl⟩ | ⟨h_2, rfl⟩
      · --
        refine z_if_ne (tgt := 17) hx hb (iI_t (by omega) (by omega)) dX5_endSkipOf_8 (by decide) (fun _ => ?_) (fun c3 => absurd c3 (by omega))
        refine lv_iload_n hx hb dX5_endSkipOf_17 rfl (lv_at hl 0 rfl) ?_
        exact z_iret hx hb hr hlocks hS () (show (iI q) = iI (endF nw.toNat (gW G) pp.toNat : Int) from (congrArg iI (end_at (by omega) hq.1 (by assumption) hmin))) hP dX5_endSkipOf_18
      · --
        refine z_if_ne (tgt := 17) hx hb (iI_t (by omega) (by omega)) dX5_endSkipOf_8 (by decide) (fun c4 => absurd c4 (by omega)) (fun _ => ?_)
        refine z_iinc (lv' := [(2, .int (iI (q + 1))), (0, .ref m0), (1, .int (iI pp))]) hx hb dX5_endSkipOf_11 hl (k := 0) rfl (by decide) rfl (fun ls hl => ?_)
        refine lv_goto (tgt := 2) hx hb dX5_endSkipOf_14 (by decide) ?_
        have hqn : ¬ q = nw := fun e => by
                have hh : ¬ endP nw.toNat (gW G) pp.toNat q.toNat := by assumption
                exact hh ⟨fun a => absurd a (by omega), fun i a b c => absurd c (by omega)⟩
        exact ih1 (q + 1) (by omega) (fun k a b => by
                by_cases e : (k : Int) = q
                · rw [show k = q.toNat by omega]; assumption
                · exact hmin k a (by omega)) (by omega) _ _ _ hP hD hS (lv_sub hl [0, 1, 2] rfl)
  exact hloop1 (Int.toNat (nw - 1) + 1) 1 (by omega) (fun k a b => by omega) (by omega) _ _ _ hP hD hS (lv_sub hl [0, 1, 2] rfl)
set_option maxHeartbeats 4000000 in
set_option maxRecDepth 100000 in
theorem c_X5_periodNow (l : Launch) (D : va_G) (cy : Nat → ClassId) (m0 : Nat) (a0 : Nat) (p0 : Nat) (q0 : Nat) (v0 : Nat) (t0 : Nat) (ho : Int) (th : Int) (tl : Int) (G : Nat → Int32) (nw : Int) (h61 : G 61 = iI nw) (hnw : 0 ≤ nw ∧ nw ≤ 16) : Ci l D cy yX5_periodNow wsX5_periodNow 0 0 [.ref m0] [(m0, .inr (5, [.ref a0, .ref p0, .int (iI ho), .ref q0, .ref v0, .int (iI th), .ref t0, .int (iI tl)])), (a0, .inl (cy 0, 144, .inl G))] (fun (r : Int32) (u : Unit) => r = iI (perF nw.toNat (gW G) : Int)) (fun u : Unit => [(m0, .inr (5, [.ref a0, .ref p0, .int (iI ho), .ref q0, .ref v0, .int (iI th), .ref t0, .int (iI tl)])), (a0, .inl (cy 0, 144, .inl G))]) := by
  refine Ci_of (cc := cX5_periodNow) (maxL := 5) (ret := (some .int)) (by decide) rfl rfl ?_
  intro p e s m args below meth c A hx hb hr hts hown hlocks hml hP hK hD hT hA ls hl
  have hS : va_S A s.heap s.heap [] := va_S.rf
  have hl : lv_has ls 5 [(0, .ref m0)] := hl
  have hiX5 : ∀ w ∈ wsX50, w ∈ wsX5_periodNow := by decide +kernel
  refine lv_aload_n hx hb dX5_periodNow_0 rfl (lv_at hl 0 rfl) ?_
  refine va_get (D := D) (ci := 5) (v := .ref a0) (C := RX5) (T := TX5) (N := 8) hx hb hts hiX5 hown hK hP 0 rfl rfl 0 (by decide) (hts (.fieldLink RX5 7 "BackwardSearchModel" "all" "[I") (by decide +kernel)) (fun _ h9 => h9) rfl dX5_periodNow_1 ?_
  refine lv_bipush (v := iI 61) hx hb dX5_periodNow_4 (by decide +kernel) ?_
  refine z_iald hx hb hK hP 1 rfl (by omega) (by omega) (by omega) dX5_periodNow_6 ?_
  refine z_top (show G (61 : Int).toNat = iI nw from h61) ?_
  refine lv_istore_n (lv' := [(1, .int (iI nw)), (0, .ref m0)]) hx hb dX5_periodNow_7 rfl hl (by decide) rfl (fun ls hl => ?_)
  refine lv_iload_n hx hb dX5_periodNow_8 rfl (lv_at hl 0 rfl) ?_
  refine z_if_ne (tgt := 16) hx hb (iI_t (by omega) (by omega)) dX5_periodNow_9 (by decide) (fun c1 => ?_) (fun c1 => ?_)
  · --
    refine lv_iconst (v := iI 1) hx hb dX5_periodNow_16 rfl ?_
    refine lv_istore_n (lv' := [(2, .int (iI 1)), (1, .int (iI nw)), (0, .ref m0)]) hx hb dX5_periodNow_17 rfl hl (by decide) rfl (fun ls hl => ?_)
    refine lv_iload_n hx hb dX5_periodNow_18 rfl (lv_at hl 1 rfl) ?_
    refine z_if_ne (tgt := 26) hx hb (iI_t (by omega) (by omega)) dX5_periodNow_19 (by decide) (fun c2 => ?_) (fun c2 => absurd c2 (by omega))
    refine lv_iconst (v := iI 0) hx hb dX5_periodNow_26 rfl ?_
    refine lv_istore_n (lv' := [(3, .int (iI 0)), (2, .int (iI 1)), (1, .int (iI nw)), (0, .ref m0)]) hx hb dX5_periodNow_27 rfl hl (by decide) rfl (fun ls hl => ?_)
    have hloop3 : ∀ (n3 : Nat) (pp : Int) (b : Int) (hb1 : 0 ≤ b ∧ b ≤ 1 ∧ 0 ≤ pp ∧ pp ≤ nw) (h00 : b = 0 → 1 ≤ pp ∧ ∀ k : Nat, 1 ≤ k → (k : Int) < pp → ¬ perP nw.toNat (gW G) k) (h11 : b = 1 → pp = (perF nw.toNat (gW G) : Int)) (hm : 2 * (nw - pp) + (1 - b) < (n3 : Int)) (H : Heap) (locs : List Loc) (ls : Array Slot) (hP : va_P D vwCl [(m0, .inr (5, [.ref a0, .ref p0, .int (iI ho), .ref q0, .ref v0, .int (iI th), .ref t0, .int (iI tl)])), (a0, .inl (cy 0, 144, .inl G))] H) (hD : va_D A [(m0, .inr (5, [.ref a0, .ref p0, .int (iI ho), .ref q0, .ref v0, .int (iI th), .ref t0, .int (iI tl)])), (a0, .inl (cy 0, 144, .inl G))]) (hS : va_S A s.heap H locs) (hl : lv_has ls 5 [(3, .int (iI b)), (2, .int (iI pp)), (1, .int (iI nw)), (0, .ref m0)]), W p l e ({ frames := 0, cells := 0, slots := 0, locals := 0 } : Room) s m args below meth c H locs 0 0 (MQ below (va_Qi (fun (r : Int32) (u : Unit) => r = iI (perF nw.toNat (gW G) : Int)) (fun u t => va_P D vwCl ((fun u : Unit => [(m0, .inr (5, [.ref a0, .ref p0, .int (iI ho), .ref q0, .ref v0, .int (iI th), .ref t0, .int (iI tl)])), (a0, .inl (cy 0, 144, .inl G))]) u) t.heap) A) args s 0 0 A) (F0 m 28 ls []) := by
      intro n3
      induction n3 with
      | zero =>
        intro pp b hb1 h00 h11 hm; exact absurd hm (by omega)
      | succ n3 ih3 =>
        intro pp b hb1 h00 h11 hm H locs ls hP hD hS hl
        refine lv_iload_n hx hb dX5_periodNow_28 rfl (lv_at hl 0 rfl) ?_
        refine z_if_ne (tgt := 99) hx hb (iI_t (by omega) (by omega)) dX5_periodNow_29 (by decide) (fun c4 => ?_) (fun c4 => ?_)
        · --
          refine lv_iload_n hx hb dX5_periodNow_99 rfl (lv_at hl 1 rfl) ?_
          exact z_iret hx hb hr hlocks hS () (show (iI pp) = iI (perF nw.toNat (gW G) : Int) from (congrArg iI (h11 (by omega)))) hP dX5_periodNow_100
        · --
          refine lv_iconst (v := iI 1) hx hb dX5_periodNow_32 rfl ?_
          refine lv_istore_n (lv' := [(3, .int (iI 1)), (2, .int (iI pp)), (1, .int (iI nw)), (0, .ref m0)]) hx hb dX5_periodNow_33 rfl hl (by decide) rfl (fun ls hl => ?_)
          refine lv_iload_n hx hb dX5_periodNow_34 rfl (lv_at hl 1 rfl) ?_
          refine lv_istore (lv' := [(4, .int (iI pp)), (3, .int (iI 1)), (2, .int (iI pp)), (1, .int (iI nw)), (0, .ref m0)]) hx hb dX5_periodNow_35 hl (by decide) rfl (fun ls hl => ?_)
          have hloop5 : ∀ (n5 : Nat) (k : Int) (i : Int) (hi : pp ≤ i ∧ i ≤ nw) (hk : (k = 1 ∧ PerQ (gW G) pp i) ∨ (k = 0 ∧ ¬ PerQ (gW G) pp i)) (hm : nw - i < (n5 : Int)) (H : Heap) (locs : List Loc) (ls : Array Slot) (hP : va_P D vwCl [(m0, .inr (5, [.ref a0, .ref p0, .int (iI ho), .ref q0, .ref v0, .int (iI th), .ref t0, .int (iI tl)])), (a0, .inl (cy 0, 144, .inl G))] H) (hD : va_D A [(m0, .inr (5, [.ref a0, .ref p0, .int (iI ho), .ref q0, .ref v0, .int (iI th), .ref t0, .int (iI tl)])), (a0, .inl (cy 0, 144, .inl G))]) (hS : va_S A s.heap H locs) (hl : lv_has ls 5 [(4, .int (iI i)), (3, .int (iI k)), (2, .int (iI pp)), (1, .int (iI nw)), (0, .ref m0)]), W p l e ({ frames := 0, cells := 0, slots := 0, locals := 0 } : Room) s m args below meth c H locs 0 0 (MQ below (va_Qi (fun (r : Int32) (u : Unit) => r = iI (perF nw.toNat (gW G) : Int)) (fun u t => va_P D vwCl ((fun u : Unit => [(m0, .inr (5, [.ref a0, .ref p0, .int (iI ho), .ref q0, .ref v0, .int (iI th), .ref t0, .int (iI tl)])), (a0, .inl (cy 0, 144, .inl G))]) u) t.heap) A) args s 0 0 A) (F0 m 37 ls []) := by
            intro n5
            induction n5 with
            | zero =>
              intro k i hi hk hm; exact absurd hm (by omega)
            | succ n5 ih5 =>
              intro k i hi hk hm H locs ls hP hD hS hl
              have hp1 := (h00 (by omega)).1
              refine lv_iload hx hb dX5_periodNow_37 (lv_at hl 0 rfl) ?_
              refine lv_iload_n hx hb dX5_periodNow_39 rfl (lv_at hl 3 rfl) ?_
              refine z_icmp_ge (tgt := 84) hx hb (iI_t (by omega) (by omega)) (iI_t (by omega) (by omega)) dX5_periodNow_40 (by decide) (fun c6 => ?_) (fun c6 => ?_)
              · --
                refine lv_iload_n hx hb dX5_periodNow_84 rfl (lv_at hl 2 rfl) ?_
                refine lv_iload_n hx hb dX5_periodNow_85 rfl (lv_at hl 1 rfl) ?_
                refine z_if_eq (tgt := 93) hx hb (iI_t (by omega) (by omega)) dX5_periodNow_86 (by decide) (fun c7 => ?_) (fun c7 => ?_)
                · --
                  refine lv_iconst (v := iI 1) hx hb dX5_periodNow_93 rfl ?_
                  refine z_add hx hb dX5_periodNow_94 ?_
                  refine lv_istore_n (lv' := [(2, .int (iI (pp + 1))), (4, .int (iI i)), (3, .int (iI k)), (1, .int (iI nw)), (0, .ref m0)]) hx hb dX5_periodNow_95 rfl hl (by decide) rfl (fun ls hl => ?_)
                  refine lv_goto (tgt := 28) hx hb dX5_periodNow_96 (by decide) ?_
                  have hz : i = nw := by omega
                  have hpp := h00 (by omega)
                  rw [hz, PerQ_all (by omega)] at hk
                  exact ih3 (pp + 1) k (by
                          rcases hk with ⟨k1, k2⟩ | ⟨k1, k2⟩
                          · omega
                          · have hnp : ¬ pp = nw := fun e => by
                              rw [e] at k2
                              exact k2 (fun i a b => absurd b (by omega))
                            omega) (fun hb0 => by
                          rcases hk with ⟨k1, k2⟩ | ⟨k1, k2⟩
                          · omega
                          · refine ⟨by omega, fun k a b => ?_⟩
                            by_cases e : (k : Int) = pp
                            · rw [show k = pp.toNat by omega]; exact k2
                            · exact hpp.2 k a (by omega)) (fun hb1 => by
                          rcases hk with ⟨k1, k2⟩ | ⟨k1, k2⟩
                          · have := per_at (by omega) k2 hpp.2
                            omega
                          · omega) (by
                          rcases hk with ⟨k1, k2⟩ | ⟨k1, k2⟩
                          · omega
                          · omega) _ _ _ hP hD hS (lv_sub hl [2, 0, 3, 4] rfl)
                · --
                  refine lv_iconst (v := iI 0) hx hb dX5_periodNow_89 rfl ?_
                  refine lv_goto (tgt := 94) hx hb dX5_periodNow_90 (by decide) ?_
                  refine z_add hx hb dX5_periodNow_94 ?_
                  refine lv_istore_n (lv' := [(2, .int (iI (pp + 0))), (4, .int (iI i)), (3, .int (iI k)), (1, .int (iI nw)), (0, .ref m0)]) hx hb dX5_periodNow_95 rfl hl (by decide) rfl (fun ls hl => ?_)
                  refine lv_goto (tgt := 28) hx hb dX5_periodNow_96 (by decide) ?_
                  have hz : i = nw := by omega
                  have hpp := h00 (by omega)
                  rw [hz, PerQ_all (by omega)] at hk
                  exact ih3 (pp + 0) k (by
                          rcases hk with ⟨k1, k2⟩ | ⟨k1, k2⟩
                          · omega
                          · have hnp : ¬ pp = nw := fun e => by
                              rw [e] at k2
                              exact k2 (fun i a b => absurd b (by omega))
                            omega) (fun hb0 => by
                          rcases hk with ⟨k1, k2⟩ | ⟨k1, k2⟩
                          · omega
                          · refine ⟨by omega, fun k a b => ?_⟩
                            by_cases e : (k : Int) = pp
                            · rw [show k = pp.toNat by omega]; exact k2
                            · exact hpp.2 k a (by omega)) (fun hb1 => by
                          rcases hk with ⟨k1, k2⟩ | ⟨k1, k2⟩
                          · have := per_at (by omega) k2 hpp.2
                            omega
                          · omega) (by
                          rcases hk with ⟨k1, k2⟩ | ⟨k1, k2⟩
                          · omega
                          · omega) _ _ _ hP hD hS (lv_sub hl [2, 0, 3, 4] rfl)
              · --
                refine lv_iload_n hx hb dX5_periodNow_43 rfl (lv_at hl 1 rfl) ?_
                refine z_if_eq (tgt := 76) hx hb (iI_t (by omega) (by omega)) dX5_periodNow_44 (by decide) (fun c8 => ?_) (fun c8 => ?_)
                · --
                  refine lv_iconst (v := iI 0) hx hb dX5_periodNow_76 rfl ?_
                  refine lv_istore_n (lv' := [(3, .int (iI 0)), (4, .int (iI i)), (2, .int (iI pp)), (1, .int (iI nw)), (0, .ref m0)]) hx hb dX5_periodNow_77 rfl hl (by decide) rfl (fun ls hl => ?_)
                  refine z_iinc (lv' := [(4, .int (iI (i + 1))), (3, .int (iI 0)), (2, .int (iI pp)), (1, .int (iI nw)), (0, .ref m0)]) hx hb dX5_periodNow_78 hl (k := 1) rfl (by decide) rfl (fun ls hl => ?_)
                  refine lv_goto (tgt := 37) hx hb dX5_periodNow_81 (by decide) ?_
                  exact ih5 0 (i + 1) (by omega) (by
                          rcases hk with ⟨k1, k2⟩ | ⟨k1, k2⟩
                          · first
                              | exact absurd k1 (by omega)
                              | exact Or.inl ⟨rfl, (PerQ_s (by omega)).mpr ⟨k2, by assumption⟩⟩
                              | exact Or.inr ⟨rfl, fun h => absurd ((PerQ_s (by omega)).mp h).2 (by assumption)⟩
                          · first
                              | exact absurd k1 (by omega)
                              | exact Or.inr ⟨rfl, fun h => k2 ((PerQ_s (by omega)).mp h).1⟩) (by omega) _ _ _ hP hD hS (lv_sub hl [0, 1, 2, 3, 4] rfl)
                · --
                  refine lv_aload_n hx hb dX5_periodNow_47 rfl (lv_at hl 4 rfl) ?_
                  refine va_get (D := D) (ci := 5) (v := .ref a0) (C := RX5) (T := TX5) (N := 8) hx hb hts hiX5 hown hK hP 0 rfl rfl 0 (by decide) (hts (.fieldLink RX5 7 "BackwardSearchModel" "all" "[I") (by decide +kernel)) (fun _ h9 => h9) rfl dX5_periodNow_48 ?_
                  refine lv_bipush (v := iI 62) hx hb dX5_periodNow_51 (by decide +kernel) ?_
                  refine lv_iload hx hb dX5_periodNow_53 (lv_at hl 0 rfl) ?_
                  refine z_add hx hb dX5_periodNow_55 ?_
                  refine z_iald hx hb hK hP 1 rfl (by omega) (by omega) (by omega) dX5_periodNow_56 ?_
                  refine z_top (show G (62 + i).toNat = gW G i.toNat from congrArg G (by omega)) ?_
                  refine lv_aload_n hx hb dX5_periodNow_57 rfl (lv_at hl 4 rfl) ?_
                  refine va_get (D := D) (ci := 5) (v := .ref a0) (C := RX5) (T := TX5) (N := 8) hx hb hts hiX5 hown hK hP 0 rfl rfl 0 (by decide) (hts (.fieldLink RX5 7 "BackwardSearchModel" "all" "[I") (by decide +kernel)) (fun _ h9 => h9) rfl dX5_periodNow_58 ?_
                  refine lv_bipush (v := iI 62) hx hb dX5_periodNow_61 (by decide +kernel) ?_
                  refine lv_iload hx hb dX5_periodNow_63 (lv_at hl 0 rfl) ?_
                  refine z_add hx hb dX5_periodNow_65 ?_
                  refine lv_iload_n hx hb dX5_periodNow_66 rfl (lv_at hl 2 rfl) ?_
                  refine z_sub hx hb dX5_periodNow_67 ?_
                  refine z_iald hx hb hK hP 1 rfl (by omega) (by omega) (by omega) dX5_periodNow_68 ?_
                  refine z_top (show G ((62 + i) - pp).toNat = gW G (i.toNat - pp.toNat) from congrArg G (by omega)) ?_
                  refine lv_icmp_ne (tgt := 76) hx hb dX5_periodNow_69 (by decide) (fun c9 => ?_) (fun c9 => ?_)
                  · --
                    refine lv_iconst (v := iI 0) hx hb dX5_periodNow_76 rfl ?_
                    refine lv_istore_n (lv' := [(3, .int (iI 0)), (4, .int (iI i)), (2, .int (iI pp)), (1, .int (iI nw)), (0, .ref m0)]) hx hb dX5_periodNow_77 rfl hl (by decide) rfl (fun ls hl => ?_)
                    refine z_iinc (lv' := [(4, .int (iI (i + 1))), (3, .int (iI 0)), (2, .int (iI pp)), (1, .int (iI nw)), (0, .ref m0)]) hx hb dX5_periodNow_78 hl (k := 1) rfl (by decide) rfl (fun ls hl => ?_)
                    refine lv_goto (tgt := 37) hx hb dX5_periodNow_81 (by decide) ?_
                    exact ih5 0 (i + 1) (by omega) (by
                            rcases hk with ⟨k1, k2⟩ | ⟨k1, k2⟩
                            · first
                                | exact absurd k1 (by omega)
                                | exact Or.inl ⟨rfl, (PerQ_s (by omega)).mpr ⟨k2, by assumption⟩⟩
                                | exact Or.inr ⟨rfl, fun h => absurd ((PerQ_s (by omega)).mp h).2 (by assumption)⟩
                            · first
                                | exact absurd k1 (by omega)
                                | exact Or.inr ⟨rfl, fun h => k2 ((PerQ_s (by omega)).mp h).1⟩) (by omega) _ _ _ hP hD hS (lv_sub hl [0, 1, 2, 3, 4] rfl)
                  · --
                    refine lv_iconst (v := iI 1) hx hb dX5_periodNow_72 rfl ?_
                    refine lv_goto (tgt := 77) hx hb dX5_periodNow_73 (by decide) ?_
                    refine lv_istore_n (lv' := [(3, .int (iI 1)), (4, .int (iI i)), (2, .int (iI pp)), (1, .int (iI nw)), (0, .ref m0)]) hx hb dX5_periodNow_77 rfl hl (by decide) rfl (fun ls hl => ?_)
                    refine z_iinc (lv' := [(4, .int (iI (i + 1))), (3, .int (iI 1)), (2, .int (iI pp)), (1, .int (iI nw)), (0, .ref m0)]) hx hb dX5_periodNow_78 hl (k := 1) rfl (by decide) rfl (fun ls hl => ?_)
                    refine lv_goto (tgt := 37) hx hb dX5_periodNow_81 (by decide) ?_
                    exact ih5 1 (i + 1) (by omega) (by
                            rcases hk with ⟨k1, k2⟩ | ⟨k1, k2⟩
                            · first
                                | exact absurd k1 (by omega)
                                | exact Or.inl ⟨rfl, (PerQ_s (by omega)).mpr ⟨k2, by assumption⟩⟩
                                | exact Or.inr ⟨rfl, fun h => absurd ((PerQ_s (by omega)).mp h).2 (by assumption)⟩
                            · first
                                | exact absurd k1 (by omega)
                                | exact Or.inr ⟨rfl, fun h => k2 ((PerQ_s (by omega)).mp h).1⟩) (by omega) _ _ _ hP hD hS (lv_sub hl [0, 1, 2, 3, 4] rfl)
          have hp1 := (h00 (by omega)).1
          exact hloop5 (Int.toNat (nw - pp) + 1) 1 pp (by omega) (Or.inl ⟨rfl, PerQ_0⟩) (by omega) _ _ _ hP hD hS (lv_sub hl [0, 1, 2, 3, 4] rfl)
    exact hloop3 (Int.toNat (2 * (nw - 1) + (1 - 0)) + 1) 1 0 (by omega) (fun h => by first | exact absurd h (by decide) | exact ⟨by omega, fun k a b => by omega⟩) (fun h => by first | exact absurd h (by decide) | (rw [show nw = 0 by omega]; rfl)) (by omega) _ _ _ hP hD hS (lv_sub hl [0, 1, 2, 3] rfl)
  · --
    refine lv_iconst (v := iI 0) hx hb dX5_periodNow_12 rfl ?_
    refine lv_goto (tgt := 17) hx hb dX5_periodNow_13 (by decide) ?_
    refine lv_istore_n (lv' := [(2, .int (iI 0)), (1, .int (iI nw)), (0, .ref m0)]) hx hb dX5_periodNow_17 rfl hl (by decide) rfl (fun ls hl => ?_)
    refine lv_iload_n hx hb dX5_periodNow_18 rfl (lv_at hl 1 rfl) ?_
    refine z_if_ne (tgt := 26) hx hb (iI_t (by omega) (by omega)) dX5_periodNow_19 (by decide) (fun c10 => absurd c10 (by omega)) (fun c10 => ?_)
    refine lv_iconst (v := iI 1) hx hb dX5_periodNow_22 rfl ?_
    refine lv_goto (tgt := 27) hx hb dX5_periodNow_23 (by decide) ?_
    refine lv_istore_n (lv' := [(3, .int (iI 1)), (2, .int (iI 0)), (1, .int (iI nw)), (0, .ref m0)]) hx hb dX5_periodNow_27 rfl hl (by decide) rfl (fun ls hl => ?_)
    have hloop11 : ∀ (n11 : Nat) (pp : Int) (b : Int) (hb1 : 0 ≤ b ∧ b ≤ 1 ∧ 0 ≤ pp ∧ pp ≤ nw) (h00 : b = 0 → 1 ≤ pp ∧ ∀ k : Nat, 1 ≤ k → (k : Int) < pp → ¬ perP nw.toNat (gW G) k) (h11 : b = 1 → pp = (perF nw.toNat (gW G) : Int)) (hm : 2 * (nw - pp) + (1 - b) < (n11 : Int)) (H : Heap) (locs : List Loc) (ls : Array Slot) (hP : va_P D vwCl [(m0, .inr (5, [.ref a0, .ref p0, .int (iI ho), .ref q0, .ref v0, .int (iI th), .ref t0, .int (iI tl)])), (a0, .inl (cy 0, 144, .inl G))] H) (hD : va_D A [(m0, .inr (5, [.ref a0, .ref p0, .int (iI ho), .ref q0, .ref v0, .int (iI th), .ref t0, .int (iI tl)])), (a0, .inl (cy 0, 144, .inl G))]) (hS : va_S A s.heap H locs) (hl : lv_has ls 5 [(3, .int (iI b)), (2, .int (iI pp)), (1, .int (iI nw)), (0, .ref m0)]), W p l e ({ frames := 0, cells := 0, slots := 0, locals := 0 } : Room) s m args below meth c H locs 0 0 (MQ below (va_Qi (fun (r : Int32) (u : Unit) => r = iI (perF nw.toNat (gW G) : Int)) (fun u t => va_P D vwCl ((fun u : Unit => [(m0, .inr (5, [.ref a0, .ref p0, .int (iI ho), .ref q0, .ref v0, .int (iI th), .ref t0, .int (iI tl)])), (a0, .inl (cy 0, 144, .inl G))]) u) t.heap) A) args s 0 0 A) (F0 m 28 ls []) := by
      intro n11
      induction n11 with
      | zero =>
        intro pp b hb1 h00 h11 hm; exact absurd hm (by omega)
      | succ n11 ih11 =>
        intro pp b hb1 h00 h11 hm H locs ls hP hD hS hl
        refine lv_iload_n hx hb dX5_periodNow_28 rfl (lv_at hl 0 rfl) ?_
        refine z_if_ne (tgt := 99) hx hb (iI_t (by omega) (by omega)) dX5_periodNow_29 (by decide) (fun c12 => ?_) (fun c12 => ?_)
        · --
          refine lv_iload_n hx hb dX5_periodNow_99 rfl (lv_at hl 1 rfl) ?_
          exact z_iret hx hb hr hlocks hS () (show (iI pp) = iI (perF nw.toNat (gW G) : Int) from (congrArg iI (h11 (by omega)))) hP dX5_periodNow_100
        · --
          refine lv_iconst (v := iI 1) hx hb dX5_periodNow_32 rfl ?_
          refine lv_istore_n (lv' := [(3, .int (iI 1)), (2, .int (iI pp)), (1, .int (iI nw)), (0, .ref m0)]) hx hb dX5_periodNow_33 rfl hl (by decide) rfl (fun ls hl => ?_)
          refine lv_iload_n hx hb dX5_periodNow_34 rfl (lv_at hl 1 rfl) ?_
          refine lv_istore (lv' := [(4, .int (iI pp)), (3, .int (iI 1)), (2, .int (iI pp)), (1, .int (iI nw)), (0, .ref m0)]) hx hb dX5_periodNow_35 hl (by decide) rfl (fun ls hl => ?_)
          have hloop13 : ∀ (n13 : Nat) (k : Int) (i : Int) (hi : pp ≤ i ∧ i ≤ nw) (hk : (k = 1 ∧ PerQ (gW G) pp i) ∨ (k = 0 ∧ ¬ PerQ (gW G) pp i)) (hm : nw - i < (n13 : Int)) (H : Heap) (locs : List Loc) (ls : Array Slot) (hP : va_P D vwCl [(m0, .inr (5, [.ref a0, .ref p0, .int (iI ho), .ref q0, .ref v0, .int (iI th), .ref t0, .int (iI tl)])), (a0, .inl (cy 0, 144, .inl G))] H) (hD : va_D A [(m0, .inr (5, [.ref a0, .ref p0, .int (iI ho), .ref q0, .ref v0, .int (iI th), .ref t0, .int (iI tl)])), (a0, .inl (cy 0, 144, .inl G))]) (hS : va_S A s.heap H locs) (hl : lv_has ls 5 [(4, .int (iI i)), (3, .int (iI k)), (2, .int (iI pp)), (1, .int (iI nw)), (0, .ref m0)]), W p l e ({ frames := 0, cells := 0, slots := 0, locals := 0 } : Room) s m args below meth c H locs 0 0 (MQ below (va_Qi (fun (r : Int32) (u : Unit) => r = iI (perF nw.toNat (gW G) : Int)) (fun u t => va_P D vwCl ((fun u : Unit => [(m0, .inr (5, [.ref a0, .ref p0, .int (iI ho), .ref q0, .ref v0, .int (iI th), .ref t0, .int (iI tl)])), (a0, .inl (cy 0, 144, .inl G))]) u) t.heap) A) args s 0 0 A) (F0 m 37 ls []) := by
            intro n13
            induction n13 with
            | zero =>
              intro k i hi hk hm; exact absurd hm (by omega)
            | succ n13 ih13 =>
              intro k i hi hk hm H locs ls hP hD hS hl
              have hp1 := (h00 (by omega)).1
              refine lv_iload hx hb dX5_periodNow_37 (lv_at hl 0 rfl) ?_
              refine lv_iload_n hx hb dX5_periodNow_39 rfl (lv_at hl 3 rfl) ?_
              refine z_icmp_ge (tgt := 84) hx hb (iI_t (by omega) (by omega)) (iI_t (by omega) (by omega)) dX5_periodNow_40 (by decide) (fun c14 => ?_) (fun c14 => ?_)
              · --
                refine lv_iload_n hx hb dX5_periodNow_84 rfl (lv_at hl 2 rfl) ?_
                refine lv_iload_n hx hb dX5_periodNow_85 rfl (lv_at hl 1 rfl) ?_
                refine z_if_eq (tgt := 93) hx hb (iI_t (by omega) (by omega)) dX5_periodNow_86 (by decide) (fun c15 => ?_) (fun c15 => ?_)
                · --
                  refine lv_iconst (v := iI 1) hx hb dX5_periodNow_93 rfl ?_
                  refine z_add hx hb dX5_periodNow_94 ?_
                  refine lv_istore_n (lv' := [(2, .int (iI (pp + 1))), (4, .int (iI i)), (3, .int (iI k)), (1, .int (iI nw)), (0, .ref m0)]) hx hb dX5_periodNow_95 rfl hl (by decide) rfl (fun ls hl => ?_)
                  refine lv_goto (tgt := 28) hx hb dX5_periodNow_96 (by decide) ?_
                  have hz : i = nw := by omega
                  have hpp := h00 (by omega)
                  rw [hz, PerQ_all (by omega)] at hk
                  exact ih11 (pp + 1) k (by
                          rcases hk with ⟨k1, k2⟩ | ⟨k1, k2⟩
                          · omega
                          · have hnp : ¬ pp = nw := fun e => by
                              rw [e] at k2
                              exact k2 (fun i a b => absurd b (by omega))
                            omega) (fun hb0 => by
                          rcases hk with ⟨k1, k2⟩ | ⟨k1, k2⟩
                          · omega
                          · refine ⟨by omega, fun k a b => ?_⟩
                            by_cases e : (k : Int) = pp
                            · rw [show k = pp.toNat by omega]; exact k2
                            · exact hpp.2 k a (by omega)) (fun hb1 => by
                          rcases hk with ⟨k1, k2⟩ | ⟨k1, k2⟩
                          · have := per_at (by omega) k2 hpp.2
                            omega
                          · omega) (by
                          rcases hk with ⟨k1, k2⟩ | ⟨k1, k2⟩
                          · omega
                          · omega) _ _ _ hP hD hS (lv_sub hl [2, 0, 3, 4] rfl)
                · --
                  refine lv_iconst (v := iI 0) hx hb dX5_periodNow_89 rfl ?_
                  refine lv_goto (tgt := 94) hx hb dX5_periodNow_90 (by decide) ?_
                  refine z_add hx hb dX5_periodNow_94 ?_
                  refine lv_istore_n (lv' := [(2, .int (iI (pp + 0))), (4, .int (iI i)), (3, .int (iI k)), (1, .int (iI nw)), (0, .ref m0)]) hx hb dX5_periodNow_95 rfl hl (by decide) rfl (fun ls hl => ?_)
                  refine lv_goto (tgt := 28) hx hb dX5_periodNow_96 (by decide) ?_
                  have hz : i = nw := by omega
                  have hpp := h00 (by omega)
                  rw [hz, PerQ_all (by omega)] at hk
                  exact ih11 (pp + 0) k (by
                          rcases hk with ⟨k1, k2⟩ | ⟨k1, k2⟩
                          · omega
                          · have hnp : ¬ pp = nw := fun e => by
                              rw [e] at k2
                              exact k2 (fun i a b => absurd b (by omega))
                            omega) (fun hb0 => by
                          rcases hk with ⟨k1, k2⟩ | ⟨k1, k2⟩
                          · omega
                          · refine ⟨by omega, fun k a b => ?_⟩
                            by_cases e : (k : Int) = pp
                            · rw [show k = pp.toNat by omega]; exact k2
                            · exact hpp.2 k a (by omega)) (fun hb1 => by
                          rcases hk with ⟨k1, k2⟩ | ⟨k1, k2⟩
                          · have := per_at (by omega) k2 hpp.2
                            omega
                          · omega) (by
                          rcases hk with ⟨k1, k2⟩ | ⟨k1, k2⟩
                          · omega
                          · omega) _ _ _ hP hD hS (lv_sub hl [2, 0, 3, 4] rfl)
              · --
                refine lv_iload_n hx hb dX5_periodNow_43 rfl (lv_at hl 1 rfl) ?_
                refine z_if_eq (tgt := 76) hx hb (iI_t (by omega) (by omega)) dX5_periodNow_44 (by decide) (fun c16 => ?_) (fun c16 => ?_)
                · --
                  refine lv_iconst (v := iI 0) hx hb dX5_periodNow_76 rfl ?_
                  refine lv_istore_n (lv' := [(3, .int (iI 0)), (4, .int (iI i)), (2, .int (iI pp)), (1, .int (iI nw)), (0, .ref m0)]) hx hb dX5_periodNow_77 rfl hl (by decide) rfl (fun ls hl => ?_)
                  refine z_iinc (lv' := [(4, .int (iI (i + 1))), (3, .int (iI 0)), (2, .int (iI pp)), (1, .int (iI nw)), (0, .ref m0)]) hx hb dX5_periodNow_78 hl (k := 1) rfl (by decide) rfl (fun ls hl => ?_)
                  refine lv_goto (tgt := 37) hx hb dX5_periodNow_81 (by decide) ?_
                  exact ih13 0 (i + 1) (by omega) (by
                          rcases hk with ⟨k1, k2⟩ | ⟨k1, k2⟩
                          · first
                              | exact absurd k1 (by omega)
                              | exact Or.inl ⟨rfl, (PerQ_s (by omega)).mpr ⟨k2, by assumption⟩⟩
                              | exact Or.inr ⟨rfl, fun h => absurd ((PerQ_s (by omega)).mp h).2 (by assumption)⟩
                          · first
                              | exact absurd k1 (by omega)
                              | exact Or.inr ⟨rfl, fun h => k2 ((PerQ_s (by omega)).mp h).1⟩) (by omega) _ _ _ hP hD hS (lv_sub hl [0, 1, 2, 3, 4] rfl)
                · --
                  refine lv_aload_n hx hb dX5_periodNow_47 rfl (lv_at hl 4 rfl) ?_
                  refine va_get (D := D) (ci := 5) (v := .ref a0) (C := RX5) (T := TX5) (N := 8) hx hb hts hiX5 hown hK hP 0 rfl rfl 0 (by decide) (hts (.fieldLink RX5 7 "BackwardSearchModel" "all" "[I") (by decide +kernel)) (fun _ h9 => h9) rfl dX5_periodNow_48 ?_
                  refine lv_bipush (v := iI 62) hx hb dX5_periodNow_51 (by decide +kernel) ?_
                  refine lv_iload hx hb dX5_periodNow_53 (lv_at hl 0 rfl) ?_
                  refine z_add hx hb dX5_periodNow_55 ?_
                  refine z_iald hx hb hK hP 1 rfl (by omega) (by omega) (by omega) dX5_periodNow_56 ?_
                  refine z_top (show G (62 + i).toNat = gW G i.toNat from congrArg G (by omega)) ?_
                  refine lv_aload_n hx hb dX5_periodNow_57 rfl (lv_at hl 4 rfl) ?_
                  refine va_get (D := D) (ci := 5) (v := .ref a0) (C := RX5) (T := TX5) (N := 8) hx hb hts hiX5 hown hK hP 0 rfl rfl 0 (by decide) (hts (.fieldLink RX5 7 "BackwardSearchModel" "all" "[I") (by decide +kernel)) (fun _ h9 => h9) rfl dX5_periodNow_58 ?_
                  refine lv_bipush (v := iI 62) hx hb dX5_periodNow_61 (by decide +kernel) ?_
                  refine lv_iload hx hb dX5_periodNow_63 (lv_at hl 0 rfl) ?_
                  refine z_add hx hb dX5_periodNow_65 ?_
                  refine lv_iload_n hx hb dX5_periodNow_66 rfl (lv_at hl 2 rfl) ?_
                  refine z_sub hx hb dX5_periodNow_67 ?_
                  refine z_iald hx hb hK hP 1 rfl (by omega) (by omega) (by omega) dX5_periodNow_68 ?_
                  refine z_top (show G ((62 + i) - pp).toNat = gW G (i.toNat - pp.toNat) from congrArg G (by omega)) ?_
                  refine lv_icmp_ne (tgt := 76) hx hb dX5_periodNow_69 (by decide) (fun c17 => ?_) (fun c17 => ?_)
                  · --
                    refine lv_iconst (v := iI 0) hx hb dX5_periodNow_76 rfl ?_
                    refine lv_istore_n (lv' := [(3, .int (iI 0)), (4, .int (iI i)), (2, .int (iI pp)), (1, .int (iI nw)), (0, .ref m0)]) hx hb dX5_periodNow_77 rfl hl (by decide) rfl (fun ls hl => ?_)
                    refine z_iinc (lv' := [(4, .int (iI (i + 1))), (3, .int (iI 0)), (2, .int (iI pp)), (1, .int (iI nw)), (0, .ref m0)]) hx hb dX5_periodNow_78 hl (k := 1) rfl (by decide) rfl (fun ls hl => ?_)
                    refine lv_goto (tgt := 37) hx hb dX5_periodNow_81 (by decide) ?_
                    exact ih13 0 (i + 1) (by omega) (by
                            rcases hk with ⟨k1, k2⟩ | ⟨k1, k2⟩
                            · first
                                | exact absurd k1 (by omega)
                                | exact Or.inl ⟨rfl, (PerQ_s (by omega)).mpr ⟨k2, by assumption⟩⟩
                                | exact Or.inr ⟨rfl, fun h => absurd ((PerQ_s (by omega)).mp h).2 (by assumption)⟩
                            · first
                                | exact absurd k1 (by omega)
                                | exact Or.inr ⟨rfl, fun h => k2 ((PerQ_s (by omega)).mp h).1⟩) (by omega) _ _ _ hP hD hS (lv_sub hl [0, 1, 2, 3, 4] rfl)
                  · --
                    refine lv_iconst (v := iI 1) hx hb dX5_periodNow_72 rfl ?_
                    refine lv_goto (tgt := 77) hx hb dX5_periodNow_73 (by decide) ?_
                    refine lv_istore_n (lv' := [(3, .int (iI 1)), (4, .int (iI i)), (2, .int (iI pp)), (1, .int (iI nw)), (0, .ref m0)]) hx hb dX5_periodNow_77 rfl hl (by decide) rfl (fun ls hl => ?_)
                    refine z_iinc (lv' := [(4, .int (iI (i + 1))), (3, .int (iI 1)), (2, .int (iI pp)), (1, .int (iI nw)), (0, .ref m0)]) hx hb dX5_periodNow_78 hl (k := 1) rfl (by decide) rfl (fun ls hl => ?_)
                    refine lv_goto (tgt := 37) hx hb dX5_periodNow_81 (by decide) ?_
                    exact ih13 1 (i + 1) (by omega) (by
                            rcases hk with ⟨k1, k2⟩ | ⟨k1, k2⟩
                            · first
                                | exact absurd k1 (by omega)
                                | exact Or.inl ⟨rfl, (PerQ_s (by omega)).mpr ⟨k2, by assumption⟩⟩
                                | exact Or.inr ⟨rfl, fun h => absurd ((PerQ_s (by omega)).mp h).2 (by assumption)⟩
                            · first
                                | exact absurd k1 (by omega)
                                | exact Or.inr ⟨rfl, fun h => k2 ((PerQ_s (by omega)).mp h).1⟩) (by omega) _ _ _ hP hD hS (lv_sub hl [0, 1, 2, 3, 4] rfl)
          have hp1 := (h00 (by omega)).1
          exact hloop13 (Int.toNat (nw - pp) + 1) 1 pp (by omega) (Or.inl ⟨rfl, PerQ_0⟩) (by omega) _ _ _ hP hD hS (lv_sub hl [0, 1, 2, 3, 4] rfl)
    exact hloop11 (Int.toNat (2 * (nw - 0) + (1 - 1)) + 1) 0 1 (by omega) (fun h => by first | exact absurd h (by decide) | exact ⟨by omega, fun k a b => by omega⟩) (fun h => by first | exact absurd h (by decide) | (rw [show nw = 0 by omega]; rfl)) (by omega) _ _ _ hP hD hS (lv_sub hl [0, 1, 2, 3] rfl)
set_option maxHeartbeats 4000000 in
set_option maxRecDepth 100000 in
theorem c_X5_difference (l : Launch) (D : va_G) (cy : Nat → ClassId) (m0 : Nat) (a0 : Nat) (p0 : Nat) (q0 : Nat) (v0 : Nat) (t0 : Nat) (ho : Int) (th : Int) (tl : Int) (G : Nat → Int32) (nw : Int) (x : Int) (h61 : G 61 = iI nw) (hnw : 0 ≤ nw ∧ nw ≤ 16) (hx1 : 0 ≤ x ∧ x + nw ≤ 60) : Ci l D cy yX5_difference wsX5_difference 0 0 [.ref m0, .int (iI x)] [(m0, .inr (5, [.ref a0, .ref p0, .int (iI ho), .ref q0, .ref v0, .int (iI th), .ref t0, .int (iI tl)])), (a0, .inl (cy 0, 144, .inl G))] (fun (r : Int32) (u : Unit) => r = iI (diffF nw.toNat (gW G) (gL G) x)) (fun u : Unit => [(m0, .inr (5, [.ref a0, .ref p0, .int (iI ho), .ref q0, .ref v0, .int (iI th), .ref t0, .int (iI tl)])), (a0, .inl (cy 0, 144, .inl G))]) := by
  refine Ci_of (cc := cX5_difference) (maxL := 3) (ret := (some .int)) (by decide) rfl rfl ?_
  intro p e s m args below meth c A hx hb hr hts hown hlocks hml hP hK hD hT hA ls hl
  have hS : va_S A s.heap s.heap [] := va_S.rf
  have hl : lv_has ls 3 [(0, .ref m0), (1, .int (iI x))] := hl
  have hiX5 : ∀ w ∈ wsX50, w ∈ wsX5_difference := by decide +kernel
  refine lv_aload_n hx hb dX5_difference_0 rfl (lv_at hl 0 rfl) ?_
  refine va_get (D := D) (ci := 5) (v := .ref a0) (C := RX5) (T := TX5) (N := 8) hx hb hts hiX5 hown hK hP 0 rfl rfl 0 (by decide) (hts (.fieldLink RX5 7 "BackwardSearchModel" "all" "[I") (by decide +kernel)) (fun _ h9 => h9) rfl dX5_difference_1 ?_
  refine lv_bipush (v := iI 61) hx hb dX5_difference_4 (by decide +kernel) ?_
  refine z_iald hx hb hK hP 1 rfl (by omega) (by omega) (by omega) dX5_difference_6 ?_
  refine z_top (show G (61 : Int).toNat = iI nw from h61) ?_
  refine lv_iconst (v := iI 1) hx hb dX5_difference_7 rfl ?_
  refine z_sub hx hb dX5_difference_8 ?_
  refine lv_istore_n (lv' := [(2, .int (iI (nw - 1))), (0, .ref m0), (1, .int (iI x))]) hx hb dX5_difference_9 rfl hl (by decide) rfl (fun ls hl => ?_)
  have hloop1 : ∀ (n1 : Nat) (i : Int) (hi : -1 ≤ i ∧ i < nw) (hg : ∀ j : Nat, i < j → j < nw.toNat → gW G j = gL G (x + (j : Int)).toNat) (hm : i + 1 < (n1 : Int)) (H : Heap) (locs : List Loc) (ls : Array Slot) (hP : va_P D vwCl [(m0, .inr (5, [.ref a0, .ref p0, .int (iI ho), .ref q0, .ref v0, .int (iI th), .ref t0, .int (iI tl)])), (a0, .inl (cy 0, 144, .inl G))] H) (hD : va_D A [(m0, .inr (5, [.ref a0, .ref p0, .int (iI ho), .ref q0, .ref v0, .int (iI th), .ref t0, .int (iI tl)])), (a0, .inl (cy 0, 144, .inl G))]) (hS : va_S A s.heap H locs) (hl : lv_has ls 3 [(2, .int (iI i)), (0, .ref m0), (1, .int (iI x))]), W p l e ({ frames := 0, cells := 0, slots := 0, locals := 0 } : Room) s m args below meth c H locs 0 0 (MQ below (va_Qi (fun (r : Int32) (u : Unit) => r = iI (diffF nw.toNat (gW G) (gL G) x)) (fun u t => va_P D vwCl ((fun u : Unit => [(m0, .inr (5, [.ref a0, .ref p0, .int (iI ho), .ref q0, .ref v0, .int (iI th), .ref t0, .int (iI tl)])), (a0, .inl (cy 0, 144, .inl G))]) u) t.heap) A) args s 0 0 A) (F0 m 10 ls []) := by
    intro n1
    induction n1 with
    | zero =>
      intro i hi hg hm; exact absurd hm (by omega)
    | succ n1 ih1 =>
      intro i hi hg hm H locs ls hP hD hS hl
      refine lv_iload_n hx hb dX5_difference_10 rfl (lv_at hl 0 rfl) ?_
      refine z_if_lt (tgt := 42) hx hb (iI_t (by omega) (by omega)) dX5_difference_11 (by decide) (fun c2 => ?_) (fun c2 => ?_)
      · --
        refine lv_iload_n hx hb dX5_difference_42 rfl (lv_at hl 0 rfl) ?_
        exact z_iret hx hb hr hlocks hS () (show (iI i) = iI (diffF nw.toNat (gW G) (gL G) x) from (congrArg iI (diffF_eq ⟨by omega, by omega, fun h => by first | assumption | omega, hg⟩))) hP dX5_difference_43
      · --
        refine lv_aload_n hx hb dX5_difference_14 rfl (lv_at hl 1 rfl) ?_
        refine va_get (D := D) (ci := 5) (v := .ref a0) (C := RX5) (T := TX5) (N := 8) hx hb hts hiX5 hown hK hP 0 rfl rfl 0 (by decide) (hts (.fieldLink RX5 7 "BackwardSearchModel" "all" "[I") (by decide +kernel)) (fun _ h9 => h9) rfl dX5_difference_15 ?_
        refine lv_bipush (v := iI 62) hx hb dX5_difference_18 (by decide +kernel) ?_
        refine lv_iload_n hx hb dX5_difference_20 rfl (lv_at hl 0 rfl) ?_
        refine z_add hx hb dX5_difference_21 ?_
        refine z_iald hx hb hK hP 1 rfl (by omega) (by omega) (by omega) dX5_difference_22 ?_
        refine z_top (show G (62 + i).toNat = gW G i.toNat from congrArg G (by omega)) ?_
        refine lv_aload_n hx hb dX5_difference_23 rfl (lv_at hl 1 rfl) ?_
        refine va_get (D := D) (ci := 5) (v := .ref a0) (C := RX5) (T := TX5) (N := 8) hx hb hts hiX5 hown hK hP 0 rfl rfl 0 (by decide) (hts (.fieldLink RX5 7 "BackwardSearchModel" "all" "[I") (by decide +kernel)) (fun _ h9 => h9) rfl dX5_difference_24 ?_
        refine lv_iconst (v := iI 1) hx hb dX5_difference_27 rfl ?_
        refine lv_iload_n hx hb dX5_difference_28 rfl (lv_at hl 2 rfl) ?_
        refine z_add hx hb dX5_difference_29 ?_
        refine lv_iload_n hx hb dX5_difference_30 rfl (lv_at hl 0 rfl) ?_
        refine z_add hx hb dX5_difference_31 ?_
        refine z_iald hx hb hK hP 1 rfl (by omega) (by omega) (by omega) dX5_difference_32 ?_
        refine z_top (show G ((1 + x) + i).toNat = gL G (x + i).toNat from congrArg G (by omega)) ?_
        refine lv_icmp_ne (tgt := 42) hx hb dX5_difference_33 (by decide) (fun c3 => ?_) (fun c3 => ?_)
        · --
          refine lv_iload_n hx hb dX5_difference_42 rfl (lv_at hl 0 rfl) ?_
          exact z_iret hx hb hr hlocks hS () (show (iI i) = iI (diffF nw.toNat (gW G) (gL G) x) from (congrArg iI (diffF_eq ⟨by omega, by omega, fun h => by first | assumption | omega, hg⟩))) hP dX5_difference_43
        · --
          refine z_iinc (lv' := [(2, .int (iI (i + (-1)))), (0, .ref m0), (1, .int (iI x))]) hx hb dX5_difference_36 hl (k := 0) rfl (by decide) rfl (fun ls hl => ?_)
          refine lv_goto (tgt := 10) hx hb dX5_difference_39 (by decide) ?_
          exact ih1 (i + (-1)) (by omega) (diff_step (by omega) hg (by assumption)) (by omega) _ _ _ hP hD hS (lv_sub hl [0, 1, 2] rfl)
  exact hloop1 (Int.toNat ((nw - 1) + 1) + 1) (nw - 1) (by omega) (fun j h1 h2 => absurd h2 (by omega)) (by omega) _ _ _ hP hD hS (lv_sub hl [0, 1, 2] rfl)
set_option maxHeartbeats 4000000 in
set_option maxRecDepth 100000 in
theorem c_X5_skipBy (l : Launch) (D : va_G) (cy : Nat → ClassId) (m0 : Nat) (a0 : Nat) (p0 : Nat) (q0 : Nat) (v0 : Nat) (t0 : Nat) (ho : Int) (th : Int) (tl : Int) (G : Nat → Int32) (nw : Int) (x : Int) (d : Int) (lr : Int) (er : Int) (h61 : G 61 = iI nw) (hnw : 0 ≤ nw ∧ nw ≤ 16) (hx1 : 0 ≤ x ∧ x + nw ≤ 60 ∧ -1 ≤ d ∧ d < nw) (hr1 : 0 ≤ lr ∧ lr ≤ 1 ∧ 0 ≤ er ∧ er ≤ 1) : Ci l D cy yX5_skipBy wsX5_skipBy 2 46 [.ref m0, .int (iI x), .int (iI d), .int (iI lr), .int (iI er)] [(m0, .inr (5, [.ref a0, .ref p0, .int (iI ho), .ref q0, .ref v0, .int (iI th), .ref t0, .int (iI tl)])), (a0, .inl (cy 0, 144, .inl G))] (fun (r : Int32) (u : Unit) => r = iI (skS lr er nw.toNat (gW G) (gL G) x d)) (fun u : Unit => [(m0, .inr (5, [.ref a0, .ref p0, .int (iI ho), .ref q0, .ref v0, .int (iI th), .ref t0, .int (iI tl)])), (a0, .inl (cy 0, 144, .inl G))]) := by
  refine Ci_of (cc := cX5_skipBy) (maxL := 8) (ret := (some .int)) (by decide) rfl rfl ?_
  intro p e s m args below meth c A hx hb hr hts hown hlocks hml hP hK hD hT hA ls hl
  have hS : va_S A s.heap s.heap [] := va_S.rf
  have hl : lv_has ls 8 [(0, .ref m0), (1, .int (iI x)), (2, .int (iI d)), (3, .int (iI lr)), (4, .int (iI er))] := hl
  have hiX5 : ∀ w ∈ wsX50, w ∈ wsX5_skipBy := by decide +kernel
  refine lv_iload_n hx hb dX5_skipBy_0 rfl (lv_at hl 2 rfl) ?_
  refine z_if_ge (tgt := 9) hx hb (iI_t (by omega) (by omega)) dX5_skipBy_1 (by decide) (fun c1 => ?_) (fun c1 => ?_)
  · --
    refine lv_iconst (v := iI 1) hx hb dX5_skipBy_9 rfl ?_
    refine lv_istore (lv' := [(5, .int (iI 1)), (0, .ref m0), (1, .int (iI x)), (2, .int (iI d)), (3, .int (iI lr)), (4, .int (iI er))]) hx hb dX5_skipBy_10 hl (by decide) rfl (fun ls hl => ?_)
    refine lv_iload_n hx hb dX5_skipBy_12 rfl (lv_at hl 4 rfl) ?_
    refine z_if_eq (tgt := 35) hx hb (iI_t (by omega) (by omega)) dX5_skipBy_13 (by decide) (fun c2 => ?_) (fun c2 => ?_)
    · --
      refine lv_iconst (v := iI 1) hx hb dX5_skipBy_35 rfl ?_
      refine lv_istore (lv' := [(6, .int (iI 1)), (5, .int (iI 1)), (0, .ref m0), (1, .int (iI x)), (2, .int (iI d)), (3, .int (iI lr)), (4, .int (iI er))]) hx hb dX5_skipBy_36 hl (by decide) rfl (fun ls hl => ?_)
      refine lv_iload hx hb dX5_skipBy_38 (lv_at hl 6 rfl) ?_
      refine z_if_eq (tgt := 51) hx hb (iI_t (by omega) (by omega)) dX5_skipBy_40 (by decide) (fun c3 => ?_) (fun c3 => ?_)
      · --
        refine lv_iconst (v := iI 1) hx hb dX5_skipBy_51 rfl ?_
        refine lv_istore (lv' := [(7, .int (iI 1)), (6, .int (iI 1)), (5, .int (iI 1)), (0, .ref m0), (1, .int (iI x)), (2, .int (iI d)), (3, .int (iI lr)), (4, .int (iI er))]) hx hb dX5_skipBy_52 hl (by decide) rfl (fun ls hl => ?_)
        refine lv_iload hx hb dX5_skipBy_54 (lv_at hl 1 rfl) ?_
        refine lv_iload hx hb dX5_skipBy_56 (lv_at hl 2 rfl) ?_
        refine z_icmp_le (tgt := 66) hx hb (iI_t (by omega) (by omega)) (iI_t (by omega) (by omega)) dX5_skipBy_58 (by decide) (fun _ => ?_) (fun c4 => absurd c4 (by omega))
        refine lv_iload hx hb dX5_skipBy_66 (lv_at hl 2 rfl) ?_
        refine lv_istore (lv' := [(5, .int (iI 1)), (7, .int (iI 1)), (6, .int (iI 1)), (0, .ref m0), (1, .int (iI x)), (2, .int (iI d)), (3, .int (iI lr)), (4, .int (iI er))]) hx hb dX5_skipBy_68 hl (by decide) rfl (fun ls hl => ?_)
        refine lv_iload hx hb dX5_skipBy_70 (lv_at hl 1 rfl) ?_
        refine lv_iload hx hb dX5_skipBy_72 (lv_at hl 0 rfl) ?_
        refine z_icmp_le (tgt := 82) hx hb (iI_t (by omega) (by omega)) (iI_t (by omega) (by omega)) dX5_skipBy_74 (by decide) (fun _ => ?_) (fun c5 => absurd c5 (by omega))
        refine lv_iload hx hb dX5_skipBy_82 (lv_at hl 0 rfl) ?_
        exact z_iret hx hb hr hlocks hS () (show (iI 1) = iI (skS lr er nw.toNat (gW G) (gL G) x d) from (congrArg iI (by simp only [skS]; omega))) hP dX5_skipBy_84
      · --
        refine lv_aload_n hx hb dX5_skipBy_43 rfl (lv_at hl 2 rfl) ?_
        refine lv_iload_n hx hb dX5_skipBy_44 rfl (lv_at hl 4 rfl) ?_
        refine z_cVi (n := 1) (b := m0) (As := [.int (iI d)]) (rest := []) ⟨hx, hb, hml, hown, hts⟩ (c_X5_endSkipOf l D cy m0 a0 p0 q0 v0 t0 ho th tl G nw d (by omega) (by omega) (by omega)) gX5_skipBy_X5_endSkipOf rfl (by decide +kernel) ⟨Nat.le_of_ble_eq_true rfl, Nat.le_of_ble_eq_true rfl⟩ hK hT hP hD hS hA [0, 1] rfl rfl 0 5 rfl rfl rfl (fun _ => rfl) rfl hl.1 rfl (Nat.le_of_ble_eq_true rfl) dX5_skipBy_45 ⟨Nat.zero_le _, Nat.zero_le _⟩ (fun r_6 u_6 H locs hw_6 hP hD hS => ?_)
        have hw_6 : r_6 = iI (endF nw.toNat (gW G) d.toNat : Int) := hw_6
        have hP : va_P D vwCl [(m0, .inr (5, [.ref a0, .ref p0, .int (iI ho), .ref q0, .ref v0, .int (iI th), .ref t0, .int (iI tl)])), (a0, .inl (cy 0, 144, .inl G))] H := hP
        have hD : va_D A [(m0, .inr (5, [.ref a0, .ref p0, .int (iI ho), .ref q0, .ref v0, .int (iI th), .ref t0, .int (iI tl)])), (a0, .inl (cy 0, 144, .inl G))] := hD
        obtain rfl := hw_6
        have hes := endF_spec (m := nw.toNat) (W := gW G) (j := d.toNat) (by omega)
        have hes2 := hes.2.1
        have hes3 := hes.2.2.1
        refine lv_goto (tgt := 52) hx hb dX5_skipBy_48 (by decide) ?_
        refine lv_istore (lv' := [(7, .int (iI (endF nw.toNat (gW G) d.toNat : Int))), (6, .int (iI 1)), (5, .int (iI 1)), (0, .ref m0), (1, .int (iI x)), (2, .int (iI d)), (3, .int (iI lr)), (4, .int (iI er))]) hx hb dX5_skipBy_52 hl (by decide) rfl (fun ls hl => ?_)
        refine lv_iload hx hb dX5_skipBy_54 (lv_at hl 1 rfl) ?_
        refine lv_iload hx hb dX5_skipBy_56 (lv_at hl 2 rfl) ?_
        refine z_icmp_le (tgt := 66) hx hb (iI_t (by omega) (by omega)) (iI_t (by omega) (by omega)) dX5_skipBy_58 (by decide) (fun _ => ?_) (fun c7 => absurd c7 (by omega))
        refine lv_iload hx hb dX5_skipBy_66 (lv_at hl 2 rfl) ?_
        refine lv_istore (lv' := [(5, .int (iI 1)), (7, .int (iI (endF nw.toNat (gW G) d.toNat : Int))), (6, .int (iI 1)), (0, .ref m0), (1, .int (iI x)), (2, .int (iI d)), (3, .int (iI lr)), (4, .int (iI er))]) hx hb dX5_skipBy_68 hl (by decide) rfl (fun ls hl => ?_)
        refine lv_iload hx hb dX5_skipBy_70 (lv_at hl 1 rfl) ?_
        refine lv_iload hx hb dX5_skipBy_72 (lv_at hl 0 rfl) ?_
        refine z_icmp_le (tgt := 82) hx hb (iI_t (by omega) (by omega)) (iI_t (by omega) (by omega)) dX5_skipBy_74 (by decide) (fun c8 => ?_) (fun c8 => ?_)
        · --
          refine lv_iload hx hb dX5_skipBy_82 (lv_at hl 0 rfl) ?_
          exact z_iret hx hb hr hlocks hS () (show (iI 1) = iI (skS lr er nw.toNat (gW G) (gL G) x d) from (congrArg iI (by simp only [skS]; omega))) hP dX5_skipBy_84
        · --
          refine lv_iload hx hb dX5_skipBy_77 (lv_at hl 1 rfl) ?_
          refine lv_goto (tgt := 84) hx hb dX5_skipBy_79 (by decide) ?_
          exact z_iret hx hb hr hlocks hS () (show (iI (endF nw.toNat (gW G) d.toNat : Int)) = iI (skS lr er nw.toNat (gW G) (gL G) x d) from (congrArg iI (by simp only [skS]; omega))) hP dX5_skipBy_84
    · --
      refine lv_iload_n hx hb dX5_skipBy_16 rfl (lv_at hl 3 rfl) ?_
      refine lv_aload_n hx hb dX5_skipBy_17 rfl (lv_at hl 1 rfl) ?_
      refine lv_aload_n hx hb dX5_skipBy_18 rfl (lv_at hl 1 rfl) ?_
      refine va_get (D := D) (ci := 5) (v := .ref a0) (C := RX5) (T := TX5) (N := 8) hx hb hts hiX5 hown hK hP 0 rfl rfl 0 (by decide) (hts (.fieldLink RX5 7 "BackwardSearchModel" "all" "[I") (by decide +kernel)) (fun _ h9 => h9) rfl dX5_skipBy_19 ?_
      refine lv_iconst (v := iI 1) hx hb dX5_skipBy_22 rfl ?_
      refine lv_iload_n hx hb dX5_skipBy_23 rfl (lv_at hl 2 rfl) ?_
      refine z_add hx hb dX5_skipBy_24 ?_
      refine lv_iload_n hx hb dX5_skipBy_25 rfl (lv_at hl 3 rfl) ?_
      refine z_add hx hb dX5_skipBy_26 ?_
      refine z_iald hx hb hK hP 1 rfl (by omega) (by omega) (by omega) dX5_skipBy_27 ?_
      refine z_top (show G ((1 + x) + d).toNat = gL G (x + d).toNat from congrArg G (by omega)) ?_
      refine z_cVi (n := 1) (b := m0) (As := [.int (gL G (x + d).toNat)]) (rest := [.int (iI d)]) ⟨hx, hb, hml, hown, hts⟩ (c_X5_lastOf l D cy m0 a0 p0 q0 v0 t0 ho th tl G nw (gL G (x + d).toNat) (by omega) (by omega)) gX5_skipBy_X5_lastOf rfl (by decide +kernel) ⟨Nat.le_of_ble_eq_true rfl, Nat.le_of_ble_eq_true rfl⟩ hK hT hP hD hS hA [0, 1] rfl rfl 0 5 rfl rfl rfl (fun _ => rfl) rfl hl.1 rfl (Nat.le_of_ble_eq_true rfl) dX5_skipBy_28 ⟨Nat.zero_le _, Nat.zero_le _⟩ (fun r_9 u_9 H locs hw_9 hP hD hS => ?_)
      have hw_9 : r_9 = iI (lastF nw.toNat (gW G) (gL G (x + d).toNat)) := hw_9
      have hP : va_P D vwCl [(m0, .inr (5, [.ref a0, .ref p0, .int (iI ho), .ref q0, .ref v0, .int (iI th), .ref t0, .int (iI tl)])), (a0, .inl (cy 0, 144, .inl G))] H := hP
      have hD : va_D A [(m0, .inr (5, [.ref a0, .ref p0, .int (iI ho), .ref q0, .ref v0, .int (iI th), .ref t0, .int (iI tl)])), (a0, .inl (cy 0, 144, .inl G))] := hD
      obtain rfl := hw_9
      have hlr := lastF_rng nw.toNat (gW G) (gL G (x + d).toNat)
      refine z_sub hx hb dX5_skipBy_31 ?_
      refine lv_goto (tgt := 36) hx hb dX5_skipBy_32 (by decide) ?_
      refine lv_istore (lv' := [(6, .int (iI (d - (lastF nw.toNat (gW G) (gL G (x + d).toNat))))), (5, .int (iI 1)), (0, .ref m0), (1, .int (iI x)), (2, .int (iI d)), (3, .int (iI lr)), (4, .int (iI er))]) hx hb dX5_skipBy_36 hl (by decide) rfl (fun ls hl => ?_)
      refine lv_iload hx hb dX5_skipBy_38 (lv_at hl 6 rfl) ?_
      refine z_if_eq (tgt := 51) hx hb (iI_t (by omega) (by omega)) dX5_skipBy_40 (by decide) (fun c10 => ?_) (fun c10 => ?_)
      · --
        refine lv_iconst (v := iI 1) hx hb dX5_skipBy_51 rfl ?_
        refine lv_istore (lv' := [(7, .int (iI 1)), (6, .int (iI (d - (lastF nw.toNat (gW G) (gL G (x + d).toNat))))), (5, .int (iI 1)), (0, .ref m0), (1, .int (iI x)), (2, .int (iI d)), (3, .int (iI lr)), (4, .int (iI er))]) hx hb dX5_skipBy_52 hl (by decide) rfl (fun ls hl => ?_)
        refine lv_iload hx hb dX5_skipBy_54 (lv_at hl 1 rfl) ?_
        refine lv_iload hx hb dX5_skipBy_56 (lv_at hl 2 rfl) ?_
        refine z_icmp_le (tgt := 66) hx hb (iI_t (by omega) (by omega)) (iI_t (by omega) (by omega)) dX5_skipBy_58 (by decide) (fun c11 => ?_) (fun c11 => ?_)
        · --
          refine lv_iload hx hb dX5_skipBy_66 (lv_at hl 2 rfl) ?_
          refine lv_istore (lv' := [(5, .int (iI 1)), (7, .int (iI 1)), (6, .int (iI (d - (lastF nw.toNat (gW G) (gL G (x + d).toNat))))), (0, .ref m0), (1, .int (iI x)), (2, .int (iI d)), (3, .int (iI lr)), (4, .int (iI er))]) hx hb dX5_skipBy_68 hl (by decide) rfl (fun ls hl => ?_)
          refine lv_iload hx hb dX5_skipBy_70 (lv_at hl 1 rfl) ?_
          refine lv_iload hx hb dX5_skipBy_72 (lv_at hl 0 rfl) ?_
          refine z_icmp_le (tgt := 82) hx hb (iI_t (by omega) (by omega)) (iI_t (by omega) (by omega)) dX5_skipBy_74 (by decide) (fun _ => ?_) (fun c12 => absurd c12 (by omega))
          refine lv_iload hx hb dX5_skipBy_82 (lv_at hl 0 rfl) ?_
          exact z_iret hx hb hr hlocks hS () (show (iI 1) = iI (skS lr er nw.toNat (gW G) (gL G) x d) from (congrArg iI (by simp only [skS]; omega))) hP dX5_skipBy_84
        · --
          refine lv_iload hx hb dX5_skipBy_61 (lv_at hl 1 rfl) ?_
          refine lv_goto (tgt := 68) hx hb dX5_skipBy_63 (by decide) ?_
          refine lv_istore (lv' := [(5, .int (iI (d - (lastF nw.toNat (gW G) (gL G (x + d).toNat))))), (7, .int (iI 1)), (6, .int (iI (d - (lastF nw.toNat (gW G) (gL G (x + d).toNat))))), (0, .ref m0), (1, .int (iI x)), (2, .int (iI d)), (3, .int (iI lr)), (4, .int (iI er))]) hx hb dX5_skipBy_68 hl (by decide) rfl (fun ls hl => ?_)
          refine lv_iload hx hb dX5_skipBy_70 (lv_at hl 1 rfl) ?_
          refine lv_iload hx hb dX5_skipBy_72 (lv_at hl 0 rfl) ?_
          refine z_icmp_le (tgt := 82) hx hb (iI_t (by omega) (by omega)) (iI_t (by omega) (by omega)) dX5_skipBy_74 (by decide) (fun c13 => ?_) (fun c13 => ?_)
          · --
            refine lv_iload hx hb dX5_skipBy_82 (lv_at hl 0 rfl) ?_
            exact z_iret hx hb hr hlocks hS () (show (iI (d - (lastF nw.toNat (gW G) (gL G (x + d).toNat)))) = iI (skS lr er nw.toNat (gW G) (gL G) x d) from (congrArg iI (by simp only [skS]; omega))) hP dX5_skipBy_84
          · --
            refine lv_iload hx hb dX5_skipBy_77 (lv_at hl 1 rfl) ?_
            refine lv_goto (tgt := 84) hx hb dX5_skipBy_79 (by decide) ?_
            exact z_iret hx hb hr hlocks hS () (show (iI 1) = iI (skS lr er nw.toNat (gW G) (gL G) x d) from (congrArg iI (by simp only [skS]; omega))) hP dX5_skipBy_84
      · --
        refine lv_aload_n hx hb dX5_skipBy_43 rfl (lv_at hl 2 rfl) ?_
        refine lv_iload_n hx hb dX5_skipBy_44 rfl (lv_at hl 4 rfl) ?_
        refine z_cVi (n := 1) (b := m0) (As := [.int (iI d)]) (rest := []) ⟨hx, hb, hml, hown, hts⟩ (c_X5_endSkipOf l D cy m0 a0 p0 q0 v0 t0 ho th tl G nw d (by omega) (by omega) (by omega)) gX5_skipBy_X5_endSkipOf rfl (by decide +kernel) ⟨Nat.le_of_ble_eq_true rfl, Nat.le_of_ble_eq_true rfl⟩ hK hT hP hD hS hA [0, 1] rfl rfl 0 5 rfl rfl rfl (fun _ => rfl) rfl hl.1 rfl (Nat.le_of_ble_eq_true rfl) dX5_skipBy_45 ⟨Nat.zero_le _, Nat.zero_le _⟩ (fun r_14 u_14 H locs hw_14 hP hD hS => ?_)
        have hw_14 : r_14 = iI (endF nw.toNat (gW G) d.toNat : Int) := hw_14
        have hP : va_P D vwCl [(m0, .inr (5, [.ref a0, .ref p0, .int (iI ho), .ref q0, .ref v0, .int (iI th), .ref t0, .int (iI tl)])), (a0, .inl (cy 0, 144, .inl G))] H := hP
        have hD : va_D A [(m0, .inr (5, [.ref a0, .ref p0, .int (iI ho), .ref q0, .ref v0, .int (iI th), .ref t0, .int (iI tl)])), (a0, .inl (cy 0, 144, .inl G))] := hD
        obtain rfl := hw_14
        have hes := endF_spec (m := nw.toNat) (W := gW G) (j := d.toNat) (by omega)
        have hes2 := hes.2.1
        have hes3 := hes.2.2.1
        refine lv_goto (tgt := 52) hx hb dX5_skipBy_48 (by decide) ?_
        refine lv_istore (lv' := [(7, .int (iI (endF nw.toNat (gW G) d.toNat : Int))), (6, .int (iI (d - (lastF nw.toNat (gW G) (gL G (x + d).toNat))))), (5, .int (iI 1)), (0, .ref m0), (1, .int (iI x)), (2, .int (iI d)), (3, .int (iI lr)), (4, .int (iI er))]) hx hb dX5_skipBy_52 hl (by decide) rfl (fun ls hl => ?_)
        refine lv_iload hx hb dX5_skipBy_54 (lv_at hl 1 rfl) ?_
        refine lv_iload hx hb dX5_skipBy_56 (lv_at hl 2 rfl) ?_
        refine z_icmp_le (tgt := 66) hx hb (iI_t (by omega) (by omega)) (iI_t (by omega) (by omega)) dX5_skipBy_58 (by decide) (fun c15 => ?_) (fun c15 => ?_)
        · --
          refine lv_iload hx hb dX5_skipBy_66 (lv_at hl 2 rfl) ?_
          refine lv_istore (lv' := [(5, .int (iI 1)), (7, .int (iI (endF nw.toNat (gW G) d.toNat : Int))), (6, .int (iI (d - (lastF nw.toNat (gW G) (gL G (x + d).toNat))))), (0, .ref m0), (1, .int (iI x)), (2, .int (iI d)), (3, .int (iI lr)), (4, .int (iI er))]) hx hb dX5_skipBy_68 hl (by decide) rfl (fun ls hl => ?_)
          refine lv_iload hx hb dX5_skipBy_70 (lv_at hl 1 rfl) ?_
          refine lv_iload hx hb dX5_skipBy_72 (lv_at hl 0 rfl) ?_
          refine z_icmp_le (tgt := 82) hx hb (iI_t (by omega) (by omega)) (iI_t (by omega) (by omega)) dX5_skipBy_74 (by decide) (fun c16 => ?_) (fun c16 => ?_)
          · --
            refine lv_iload hx hb dX5_skipBy_82 (lv_at hl 0 rfl) ?_
            exact z_iret hx hb hr hlocks hS () (show (iI 1) = iI (skS lr er nw.toNat (gW G) (gL G) x d) from (congrArg iI (by simp only [skS]; omega))) hP dX5_skipBy_84
          · --
            refine lv_iload hx hb dX5_skipBy_77 (lv_at hl 1 rfl) ?_
            refine lv_goto (tgt := 84) hx hb dX5_skipBy_79 (by decide) ?_
            exact z_iret hx hb hr hlocks hS () (show (iI (endF nw.toNat (gW G) d.toNat : Int)) = iI (skS lr er nw.toNat (gW G) (gL G) x d) from (congrArg iI (by simp only [skS]; omega))) hP dX5_skipBy_84
        · --
          refine lv_iload hx hb dX5_skipBy_61 (lv_at hl 1 rfl) ?_
          refine lv_goto (tgt := 68) hx hb dX5_skipBy_63 (by decide) ?_
          refine lv_istore (lv' := [(5, .int (iI (d - (lastF nw.toNat (gW G) (gL G (x + d).toNat))))), (7, .int (iI (endF nw.toNat (gW G) d.toNat : Int))), (6, .int (iI (d - (lastF nw.toNat (gW G) (gL G (x + d).toNat))))), (0, .ref m0), (1, .int (iI x)), (2, .int (iI d)), (3, .int (iI lr)), (4, .int (iI er))]) hx hb dX5_skipBy_68 hl (by decide) rfl (fun ls hl => ?_)
          refine lv_iload hx hb dX5_skipBy_70 (lv_at hl 1 rfl) ?_
          refine lv_iload hx hb dX5_skipBy_72 (lv_at hl 0 rfl) ?_
          refine z_icmp_le (tgt := 82) hx hb (iI_t (by omega) (by omega)) (iI_t (by omega) (by omega)) dX5_skipBy_74 (by decide) (fun c17 => ?_) (fun c17 => ?_)
          · --
            refine lv_iload hx hb dX5_skipBy_82 (lv_at hl 0 rfl) ?_
            exact z_iret hx hb hr hlocks hS () (show (iI (d - (lastF nw.toNat (gW G) (gL G (x + d).toNat)))) = iI (skS lr er nw.toNat (gW G) (gL G) x d) from (congrArg iI (by simp only [skS]; omega))) hP dX5_skipBy_84
          · --
            refine lv_iload hx hb dX5_skipBy_77 (lv_at hl 1 rfl) ?_
            refine lv_goto (tgt := 84) hx hb dX5_skipBy_79 (by decide) ?_
            exact z_iret hx hb hr hlocks hS () (show (iI (endF nw.toNat (gW G) d.toNat : Int)) = iI (skS lr er nw.toNat (gW G) (gL G) x d) from (congrArg iI (by simp only [skS]; omega))) hP dX5_skipBy_84
  · --
    refine lv_aload_n hx hb dX5_skipBy_4 rfl (lv_at hl 0 rfl) ?_
    refine z_cVi (n := 0) (b := m0) (As := []) (rest := []) ⟨hx, hb, hml, hown, hts⟩ (c_X5_periodNow l D cy m0 a0 p0 q0 v0 t0 ho th tl G nw (by omega) (by omega)) gX5_skipBy_X5_periodNow rfl (by decide +kernel) ⟨Nat.le_of_ble_eq_true rfl, Nat.le_of_ble_eq_true rfl⟩ hK hT hP hD hS hA [0, 1] rfl rfl 0 5 rfl rfl rfl (fun _ => rfl) rfl hl.1 rfl (Nat.le_of_ble_eq_true rfl) dX5_skipBy_5 ⟨Nat.zero_le _, Nat.zero_le _⟩ (fun r_18 u_18 H locs hw_18 hP hD hS => ?_)
    have hw_18 : r_18 = iI (perF nw.toNat (gW G) : Int) := hw_18
    have hP : va_P D vwCl [(m0, .inr (5, [.ref a0, .ref p0, .int (iI ho), .ref q0, .ref v0, .int (iI th), .ref t0, .int (iI tl)])), (a0, .inl (cy 0, 144, .inl G))] H := hP
    have hD : va_D A [(m0, .inr (5, [.ref a0, .ref p0, .int (iI ho), .ref q0, .ref v0, .int (iI th), .ref t0, .int (iI tl)])), (a0, .inl (cy 0, 144, .inl G))] := hD
    obtain rfl := hw_18
    exact z_iret hx hb hr hlocks hS () (show (iI (perF nw.toNat (gW G) : Int)) = iI (skS lr er nw.toNat (gW G) (gL G) x d) from (congrArg iI (by simp only [skS]; omega))) hP dX5_skipBy_8
set_option maxHeartbeats 4000000 in
set_option maxRecDepth 100000 in
theorem c_X5_isOverAt (l : Launch) (D : va_G) (cy : Nat → ClassId) (m0 : Nat) (a0 : Nat) (p0 : Nat) (q0 : Nat) (v0 : Nat) (t0 : Nat) (ho : Int) (th : Int) (tl : Int) (G : Nat → Int32) (nw : Int) (nl : Int) (x : Int) (h61 : G 61 = iI nw) (hnw : 0 ≤ nw ∧ nw ≤ 16) (h0 : G 0 = iI nl) (hnl : 0 ≤ nl ∧ nl ≤ 60) (hx1 : 0 ≤ x ∧ x ≤ 1000000) : Ci l D cy yX5_isOverAt wsX5_isOverAt 0 0 [.ref m0, .int (iI x)] [(m0, .inr (5, [.ref a0, .ref p0, .int (iI ho), .ref q0, .ref v0, .int (iI th), .ref t0, .int (iI tl)])), (a0, .inl (cy 0, 144, .inl G))] (fun (r : Int32) (u : Unit) => ((nw = 0 ∨ nl - nw + 1 ≤ x) ∧ r = iI 1) ∨ (¬ (nw = 0 ∨ nl - nw + 1 ≤ x) ∧ r = iI 0)) (fun u : Unit => [(m0, .inr (5, [.ref a0, .ref p0, .int (iI ho), .ref q0, .ref v0, .int (iI th), .ref t0, .int (iI tl)])), (a0, .inl (cy 0, 144, .inl G))]) := by
  refine Ci_of (cc := cX5_isOverAt) (maxL := 2) (ret := (some .boolean)) (by decide) rfl rfl ?_
  intro p e s m args below meth c A hx hb hr hts hown hlocks hml hP hK hD hT hA ls hl
  have hS : va_S A s.heap s.heap [] := va_S.rf
  have hl : lv_has ls 2 [(0, .ref m0), (1, .int (iI x))] := hl
  have hiX5 : ∀ w ∈ wsX50, w ∈ wsX5_isOverAt := by decide +kernel
  refine lv_aload_n hx hb dX5_isOverAt_0 rfl (lv_at hl 0 rfl) ?_
  refine va_get (D := D) (ci := 5) (v := .ref a0) (C := RX5) (T := TX5) (N := 8) hx hb hts hiX5 hown hK hP 0 rfl rfl 0 (by decide) (hts (.fieldLink RX5 7 "BackwardSearchModel" "all" "[I") (by decide +kernel)) (fun _ h9 => h9) rfl dX5_isOverAt_1 ?_
  refine lv_bipush (v := iI 61) hx hb dX5_isOverAt_4 (by decide +kernel) ?_
  refine z_iald hx hb hK hP 1 rfl (by omega) (by omega) (by omega) dX5_isOverAt_6 ?_
  refine z_top (show G (61 : Int).toNat = iI nw from h61) ?_
  refine z_if_eq (tgt := 28) hx hb (iI_t (by omega) (by omega)) dX5_isOverAt_7 (by decide) (fun c1 => ?_) (fun c1 => ?_)
  · --
    refine lv_iconst (v := iI 1) hx hb dX5_isOverAt_28 rfl ?_
    refine lv_goto (tgt := 33) hx hb dX5_isOverAt_29 (by decide) ?_
    exact z_zret hx hb hr hlocks (by decide +kernel) hS () (show ((nw = 0 ∨ nl - nw + 1 ≤ x) ∧ (iI 1) = iI 1) ∨ (¬ (nw = 0 ∨ nl - nw + 1 ≤ x) ∧ (iI 1) = iI 0) from (by first | exact Or.inl ⟨by omega, rfl⟩ | exact Or.inr ⟨by omega, rfl⟩)) hP dX5_isOverAt_33
  · --
    refine lv_iload_n hx hb dX5_isOverAt_10 rfl (lv_at hl 1 rfl) ?_
    refine lv_aload_n hx hb dX5_isOverAt_11 rfl (lv_at hl 0 rfl) ?_
    refine va_get (D := D) (ci := 5) (v := .ref a0) (C := RX5) (T := TX5) (N := 8) hx hb hts hiX5 hown hK hP 0 rfl rfl 0 (by decide) (hts (.fieldLink RX5 7 "BackwardSearchModel" "all" "[I") (by decide +kernel)) (fun _ h9 => h9) rfl dX5_isOverAt_12 ?_
    refine lv_bipush (v := iI 61) hx hb dX5_isOverAt_15 (by decide +kernel) ?_
    refine z_iald hx hb hK hP 1 rfl (by omega) (by omega) (by omega) dX5_isOverAt_17 ?_
    refine z_top (show G (61 : Int).toNat = iI nw from h61) ?_
    refine z_add hx hb dX5_isOverAt_18 ?_
    refine lv_aload_n hx hb dX5_isOverAt_19 rfl (lv_at hl 0 rfl) ?_
    refine va_get (D := D) (ci := 5) (v := .ref a0) (C := RX5) (T := TX5) (N := 8) hx hb hts hiX5 hown hK hP 0 rfl rfl 0 (by decide) (hts (.fieldLink RX5 7 "BackwardSearchModel" "all" "[I") (by decide +kernel)) (fun _ h9 => h9) rfl dX5_isOverAt_20 ?_
    refine lv_iconst (v := iI 0) hx hb dX5_isOverAt_23 rfl ?_
    refine z_iald hx hb hK hP 1 rfl (by omega) (by omega) (by omega) dX5_isOverAt_24 ?_
    refine z_top (show G (0 : Int).toNat = iI nl from h0) ?_
    refine z_icmp_le (tgt := 32) hx hb (iI_t (by omega) (by omega)) (iI_t (by omega) (by omega)) dX5_isOverAt_25 (by decide) (fun c2 => ?_) (fun c2 => ?_)
    · --
      refine lv_iconst (v := iI 0) hx hb dX5_isOverAt_32 rfl ?_
      exact z_zret hx hb hr hlocks (by decide +kernel) hS () (show ((nw = 0 ∨ nl - nw + 1 ≤ x) ∧ (iI 0) = iI 1) ∨ (¬ (nw = 0 ∨ nl - nw + 1 ≤ x) ∧ (iI 0) = iI 0) from (by first | exact Or.inl ⟨by omega, rfl⟩ | exact Or.inr ⟨by omega, rfl⟩)) hP dX5_isOverAt_33
    · --
      refine lv_iconst (v := iI 1) hx hb dX5_isOverAt_28 rfl ?_
      refine lv_goto (tgt := 33) hx hb dX5_isOverAt_29 (by decide) ?_
      exact z_zret hx hb hr hlocks (by decide +kernel) hS () (show ((nw = 0 ∨ nl - nw + 1 ≤ x) ∧ (iI 1) = iI 1) ∨ (¬ (nw = 0 ∨ nl - nw + 1 ≤ x) ∧ (iI 1) = iI 0) from (by first | exact Or.inl ⟨by omega, rfl⟩ | exact Or.inr ⟨by omega, rfl⟩)) hP dX5_isOverAt_33

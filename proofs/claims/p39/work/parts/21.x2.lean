theorem dX4_endSkip_0 : decode cX4_endSkip 0 = .ok (.aload_n 0, 1) := by decide +kernel
theorem dX4_endSkip_1 : decode cX4_endSkip 1 = .ok (.getfield 10, 3) := by decide +kernel
theorem dX4_endSkip_4 : decode cX4_endSkip 4 = .ok (.getfield 71, 3) := by decide +kernel
theorem dX4_endSkip_7 : decode cX4_endSkip 7 = .ok (.iload_n 1, 1) := by decide +kernel
theorem dX4_endSkip_8 : decode cX4_endSkip 8 = .ok (.invokestatic 106, 3) := by decide +kernel
theorem dX4_endSkip_11 : decode cX4_endSkip 11 = .ok (.aload_n 0, 1) := by decide +kernel
theorem dX4_endSkip_12 : decode cX4_endSkip 12 = .ok (.getfield 22, 3) := by decide +kernel
theorem dX4_endSkip_15 : decode cX4_endSkip 15 = .ok (.aload_n 0, 1) := by decide +kernel
theorem dX4_endSkip_16 : decode cX4_endSkip 16 = .ok (.getfield 10, 3) := by decide +kernel
theorem dX4_endSkip_19 : decode cX4_endSkip 19 = .ok (.getfield 71, 3) := by decide +kernel
theorem dX4_endSkip_22 : decode cX4_endSkip 22 = .ok (.invokevirtual 92, 3) := by decide +kernel
theorem dX4_endSkip_25 : decode cX4_endSkip 25 = .ok (.aload_n 0, 1) := by decide +kernel
theorem dX4_endSkip_26 : decode cX4_endSkip 26 = .ok (.getfield 22, 3) := by decide +kernel
theorem dX4_endSkip_29 : decode cX4_endSkip 29 = .ok (.iload_n 1, 1) := by decide +kernel
theorem dX4_endSkip_30 : decode cX4_endSkip 30 = .ok (.invokevirtual 145, 3) := by decide +kernel
theorem dX4_endSkip_33 : decode cX4_endSkip 33 = .ok (.ireturn, 1) := by decide +kernel
set_option maxRecDepth 20000 in
theorem ggX4_endSkip_X4_refuseUnlessIn : GoodIn wsX4_endSkip wsX4_refuseUnlessIn := goodIn_ca (goodIn_r _ [6, 7, 8, 9, 10, 11, 12, 13, 14, 68, 69] (by decide +kernel) (by decide +kernel)) (goodIn_sub (fun _ h => List.mem_cons_of_mem _ (List.mem_append_right _ h)) (by decide +kernel))
set_option maxRecDepth 20000 in
theorem gX4_endSkip_X4_refuseUnlessIn : GoodIn wsX4_endSkip (va_wsS RX4 106 yX4_refuseUnlessIn wsX4_refuseUnlessIn) := goodIn_app (goodIn_of _ (by decide +kernel)) ggX4_endSkip_X4_refuseUnlessIn
set_option maxRecDepth 20000 in
theorem ggX4_endSkip_X0_study : GoodIn wsX4_endSkip wsX0_study := goodIn_r _ [19, 20, 21, 22, 23, 24, 25, 26, 27, 28, 12, 29, 14, 30, 31, 32, 18, 33, 34, 35, 36, 37, 38, 39, 40, 41, 42, 43, 44, 10, 11, 13, 45, 46, 47, 48, 70, 71, 72, 68, 69] (by decide +kernel) (by decide +kernel)
set_option maxRecDepth 20000 in
theorem gX4_endSkip_X0_study : GoodIn wsX4_endSkip (wsV RX4 92 RX0 yX0_study wsX0_study) := goodIn_app (goodIn_of _ (by decide +kernel)) ggX4_endSkip_X0_study
set_option maxRecDepth 20000 in
theorem ggX4_endSkip_X0_skipAt : GoodIn wsX4_endSkip wsX0_skipAt := goodIn_r _ [52, 24, 25, 70, 71, 72] (by decide +kernel) (by decide +kernel)
set_option maxRecDepth 20000 in
theorem gX4_endSkip_X0_skipAt : GoodIn wsX4_endSkip (wsV RX4 145 RX0 yX0_skipAt wsX0_skipAt) := goodIn_app (goodIn_of _ (by decide +kernel)) ggX4_endSkip_X0_skipAt
theorem dX4_border_0 : decode cX4_border 0 = .ok (.aload_n 0, 1) := by decide +kernel
theorem dX4_border_1 : decode cX4_border 1 = .ok (.getfield 22, 3) := by decide +kernel
theorem dX4_border_4 : decode cX4_border 4 = .ok (.aload_n 0, 1) := by decide +kernel
theorem dX4_border_5 : decode cX4_border 5 = .ok (.getfield 10, 3) := by decide +kernel
theorem dX4_border_8 : decode cX4_border 8 = .ok (.getfield 71, 3) := by decide +kernel
theorem dX4_border_11 : decode cX4_border 11 = .ok (.invokevirtual 92, 3) := by decide +kernel
theorem dX4_border_14 : decode cX4_border 14 = .ok (.aload_n 0, 1) := by decide +kernel
theorem dX4_border_15 : decode cX4_border 15 = .ok (.getfield 10, 3) := by decide +kernel
theorem dX4_border_18 : decode cX4_border 18 = .ok (.getfield 71, 3) := by decide +kernel
theorem dX4_border_21 : decode cX4_border 21 = .ok (.invokevirtual 67, 3) := by decide +kernel
theorem dX4_border_24 : decode cX4_border 24 = .ok (.aload_n 0, 1) := by decide +kernel
theorem dX4_border_25 : decode cX4_border 25 = .ok (.getfield 22, 3) := by decide +kernel
theorem dX4_border_28 : decode cX4_border 28 = .ok (.invokevirtual 152, 3) := by decide +kernel
theorem dX4_border_31 : decode cX4_border 31 = .ok (.isub, 1) := by decide +kernel
theorem dX4_border_32 : decode cX4_border 32 = .ok (.ireturn, 1) := by decide +kernel
set_option maxRecDepth 20000 in
theorem ggX4_border_X0_study : GoodIn wsX4_border wsX0_study := goodIn_r _ [7, 8, 9, 10, 11, 12, 13, 14, 15, 16, 17, 18, 19, 20, 21, 22, 6, 23, 24, 25, 26, 27, 28, 29, 30, 31, 32, 33, 34, 35, 36, 37, 38, 39, 40, 41, 62, 63, 64, 65, 66] (by decide +kernel) (by decide +kernel)
set_option maxRecDepth 20000 in
theorem gX4_border_X0_study : GoodIn wsX4_border (wsV RX4 92 RX0 yX0_study wsX0_study) := goodIn_app (goodIn_of _ (by decide +kernel)) ggX4_border_X0_study
set_option maxRecDepth 20000 in
theorem ggX4_border_X2_size : GoodIn wsX4_border wsX2_size := goodIn_r _ [18, 19, 65, 66] (by decide +kernel) (by decide +kernel)
set_option maxRecDepth 20000 in
theorem gX4_border_X2_size : GoodIn wsX4_border (wsV RX4 67 RX2 yX2_size wsX2_size) := goodIn_app (goodIn_of _ (by decide +kernel)) ggX4_border_X2_size
set_option maxRecDepth 20000 in
theorem ggX4_border_X0_wordPeriod : GoodIn wsX4_border wsX0_wordPeriod := goodIn_r _ [46, 12, 24, 62, 63, 64] (by decide +kernel) (by decide +kernel)
set_option maxRecDepth 20000 in
theorem gX4_border_X0_wordPeriod : GoodIn wsX4_border (wsV RX4 152 RX0 yX0_wordPeriod wsX0_wordPeriod) := goodIn_app (goodIn_of _ (by decide +kernel)) ggX4_border_X0_wordPeriod
theorem dX4_period_0 : decode cX4_period 0 = .ok (.aload_n 0, 1) := by decide +kernel
theorem dX4_period_1 : decode cX4_period 1 = .ok (.getfield 22, 3) := by decide +kernel
theorem dX4_period_4 : decode cX4_period 4 = .ok (.aload_n 0, 1) := by decide +kernel
theorem dX4_period_5 : decode cX4_period 5 = .ok (.getfield 10, 3) := by decide +kernel
theorem dX4_period_8 : decode cX4_period 8 = .ok (.getfield 71, 3) := by decide +kernel
theorem dX4_period_11 : decode cX4_period 11 = .ok (.invokevirtual 92, 3) := by decide +kernel
theorem dX4_period_14 : decode cX4_period 14 = .ok (.aload_n 0, 1) := by decide +kernel
theorem dX4_period_15 : decode cX4_period 15 = .ok (.getfield 22, 3) := by decide +kernel
theorem dX4_period_18 : decode cX4_period 18 = .ok (.invokevirtual 152, 3) := by decide +kernel
theorem dX4_period_21 : decode cX4_period 21 = .ok (.ireturn, 1) := by decide +kernel
set_option maxRecDepth 20000 in
theorem ggX4_period_X0_study : GoodIn wsX4_period wsX0_study := goodIn_r _ [7, 8, 9, 10, 11, 12, 13, 14, 15, 16, 17, 18, 19, 20, 21, 22, 6, 23, 24, 25, 26, 27, 28, 29, 30, 31, 32, 33, 34, 35, 36, 37, 38, 39, 40, 41, 61, 62, 63, 64, 65] (by decide +kernel) (by decide +kernel)
set_option maxRecDepth 20000 in
theorem gX4_period_X0_study : GoodIn wsX4_period (wsV RX4 92 RX0 yX0_study wsX0_study) := goodIn_app (goodIn_of _ (by decide +kernel)) ggX4_period_X0_study
set_option maxRecDepth 20000 in
theorem ggX4_period_X0_wordPeriod : GoodIn wsX4_period wsX0_wordPeriod := goodIn_r _ [45, 12, 24, 61, 62, 63] (by decide +kernel) (by decide +kernel)
set_option maxRecDepth 20000 in
theorem gX4_period_X0_wordPeriod : GoodIn wsX4_period (wsV RX4 152 RX0 yX0_wordPeriod wsX0_wordPeriod) := goodIn_app (goodIn_of _ (by decide +kernel)) ggX4_period_X0_wordPeriod
theorem dX4_tryToTheEnd_0 : decode cX4_tryToTheEnd 0 = .ok (.aload_n 0, 1) := by decide +kernel
theorem dX4_tryToTheEnd_1 : decode cX4_tryToTheEnd 1 = .ok (.getfield 16, 3) := by decide +kernel
theorem dX4_tryToTheEnd_4 : decode cX4_tryToTheEnd 4 = .ok (.aload_n 0, 1) := by decide +kernel
theorem dX4_tryToTheEnd_5 : decode cX4_tryToTheEnd 5 = .ok (.getfield 10, 3) := by decide +kernel
theorem dX4_tryToTheEnd_8 : decode cX4_tryToTheEnd 8 = .ok (.invokevirtual 205, 3) := by decide +kernel
theorem dX4_tryToTheEnd_11 : decode cX4_tryToTheEnd 11 = .ok (.aload_n 0, 1) := by decide +kernel
theorem dX4_tryToTheEnd_12 : decode cX4_tryToTheEnd 12 = .ok (.getfield 16, 3) := by decide +kernel
theorem dX4_tryToTheEnd_15 : decode cX4_tryToTheEnd 15 = .ok (.iload_n 1, 1) := by decide +kernel
theorem dX4_tryToTheEnd_16 : decode cX4_tryToTheEnd 16 = .ok (.iload_n 2, 1) := by decide +kernel
theorem dX4_tryToTheEnd_17 : decode cX4_tryToTheEnd 17 = .ok (.invokevirtual 77, 3) := by decide +kernel
theorem dX4_tryToTheEnd_20 : decode cX4_tryToTheEnd 20 = .ok (.aload_n 0, 1) := by decide +kernel
theorem dX4_tryToTheEnd_21 : decode cX4_tryToTheEnd 21 = .ok (.getfield 16, 3) := by decide +kernel
theorem dX4_tryToTheEnd_24 : decode cX4_tryToTheEnd 24 = .ok (.invokevirtual 64, 3) := by decide +kernel
theorem dX4_tryToTheEnd_27 : decode cX4_tryToTheEnd 27 = .ok (.aload_n 0, 1) := by decide +kernel
theorem dX4_tryToTheEnd_28 : decode cX4_tryToTheEnd 28 = .ok (.getfield 22, 3) := by decide +kernel
theorem dX4_tryToTheEnd_31 : decode cX4_tryToTheEnd 31 = .ok (.aload_n 0, 1) := by decide +kernel
theorem dX4_tryToTheEnd_32 : decode cX4_tryToTheEnd 32 = .ok (.getfield 16, 3) := by decide +kernel
theorem dX4_tryToTheEnd_35 : decode cX4_tryToTheEnd 35 = .ok (.getfield 71, 3) := by decide +kernel
theorem dX4_tryToTheEnd_38 : decode cX4_tryToTheEnd 38 = .ok (.invokevirtual 92, 3) := by decide +kernel
theorem dX4_tryToTheEnd_41 : decode cX4_tryToTheEnd 41 = .ok (.aload_n 0, 1) := by decide +kernel
theorem dX4_tryToTheEnd_42 : decode cX4_tryToTheEnd 42 = .ok (.getfield 16, 3) := by decide +kernel
theorem dX4_tryToTheEnd_45 : decode cX4_tryToTheEnd 45 = .ok (.aload_n 0, 1) := by decide +kernel
theorem dX4_tryToTheEnd_46 : decode cX4_tryToTheEnd 46 = .ok (.getfield 22, 3) := by decide +kernel
theorem dX4_tryToTheEnd_49 : decode cX4_tryToTheEnd 49 = .ok (.invokevirtual 99, 3) := by decide +kernel
theorem dX4_tryToTheEnd_52 : decode cX4_tryToTheEnd 52 = .ok (.pop, 1) := by decide +kernel
theorem dX4_tryToTheEnd_53 : decode cX4_tryToTheEnd 53 = .ok (.return_, 1) := by decide +kernel
set_option maxRecDepth 20000 in
theorem ggX4_tryToTheEnd_X3_copy : GoodIn wsX4_tryToTheEnd wsX3_copy := goodIn_r _ [8, 9, 10, 11, 12, 13, 14, 15, 16, 17, 18, 19, 20, 21, 22, 23, 24, 25, 26, 27, 28, 29, 30, 31, 134, 135, 136, 137, 138, 139, 140, 141, 142, 143] (by decide +kernel) (by decide +kernel)
set_option maxRecDepth 20000 in
theorem gX4_tryToTheEnd_X3_copy : GoodIn wsX4_tryToTheEnd (wsV RX4 205 RX3 yX3_copy wsX3_copy) := goodIn_app (goodIn_of _ (by decide +kernel)) ggX4_tryToTheEnd_X3_copy
set_option maxRecDepth 20000 in
theorem ggX4_tryToTheEnd_X3_useRules : GoodIn wsX4_tryToTheEnd wsX3_useRules := goodIn_r _ [35, 12, 13, 134, 135, 136, 137, 138, 139, 140, 141] (by decide +kernel) (by decide +kernel)
set_option maxRecDepth 20000 in
theorem gX4_tryToTheEnd_X3_useRules : GoodIn wsX4_tryToTheEnd (wsV RX4 77 RX3 yX3_useRules wsX3_useRules) := goodIn_app (goodIn_of _ (by decide +kernel)) ggX4_tryToTheEnd_X3_useRules
set_option maxRecDepth 20000 in
theorem ggX4_tryToTheEnd_X3_beginAnew : GoodIn wsX4_tryToTheEnd wsX3_beginAnew := goodIn_r _ [39, 14, 15, 16, 11, 40, 25, 26, 20, 27, 22, 134, 135, 136, 137, 138, 139, 140, 141, 142, 143] (by decide +kernel) (by decide +kernel)
set_option maxRecDepth 20000 in
theorem gX4_tryToTheEnd_X3_beginAnew : GoodIn wsX4_tryToTheEnd (wsV RX4 64 RX3 yX3_beginAnew wsX3_beginAnew) := goodIn_app (goodIn_of _ (by decide +kernel)) ggX4_tryToTheEnd_X3_beginAnew
set_option maxRecDepth 20000 in
theorem ggX4_tryToTheEnd_X0_study : GoodIn wsX4_tryToTheEnd wsX0_study := goodIn_r _ [45, 46, 47, 48, 49, 50, 51, 52, 53, 54, 20, 55, 22, 56, 57, 58, 44, 59, 60, 61, 62, 63, 64, 65, 66, 67, 68, 23, 69, 70, 71, 72, 73, 74, 75, 76, 144, 145, 146, 142, 143] (by decide +kernel) (by decide +kernel)
set_option maxRecDepth 20000 in
theorem gX4_tryToTheEnd_X0_study : GoodIn wsX4_tryToTheEnd (wsV RX4 92 RX0 yX0_study wsX0_study) := goodIn_app (goodIn_of _ (by decide +kernel)) ggX4_tryToTheEnd_X0_study
set_option maxRecDepth 20000 in
theorem ggX4_tryToTheEnd_X3_lookToTheEnd : GoodIn wsX4_tryToTheEnd wsX3_lookToTheEnd := goodIn_r _ [80, 81, 82, 83, 7, 84, 10, 14, 85, 86, 87, 20, 88, 22, 89, 90, 91, 92, 9, 93, 94, 48, 95, 96, 53, 54, 55, 97, 98, 99, 100, 15, 16, 11, 101, 102, 103, 104, 105, 66, 67, 68, 23, 69, 70, 71, 72, 106, 107, 108, 109, 12, 13, 110, 111, 112, 44, 113, 50, 60, 114, 115, 116, 117, 118, 119, 120, 121, 122, 123, 124, 125, 51, 126, 29, 30, 31, 134, 135, 136, 137, 138, 139, 140, 141, 142, 143, 144, 145, 146] (by decide +kernel) (by decide +kernel)
set_option maxRecDepth 20000 in
theorem gX4_tryToTheEnd_X3_lookToTheEnd : GoodIn wsX4_tryToTheEnd (wsV RX4 99 RX3 yX3_lookToTheEnd wsX3_lookToTheEnd) := goodIn_app (goodIn_of _ (by decide +kernel)) ggX4_tryToTheEnd_X3_lookToTheEnd
theorem dX4_occurrences_0 : decode cX4_occurrences 0 = .ok (.aload_n 0, 1) := by decide +kernel
theorem dX4_occurrences_1 : decode cX4_occurrences 1 = .ok (.iconst 1, 1) := by decide +kernel
theorem dX4_occurrences_2 : decode cX4_occurrences 2 = .ok (.iconst 1, 1) := by decide +kernel
theorem dX4_occurrences_3 : decode cX4_occurrences 3 = .ok (.invokevirtual 155, 3) := by decide +kernel
theorem dX4_occurrences_6 : decode cX4_occurrences 6 = .ok (.aload_n 0, 1) := by decide +kernel
theorem dX4_occurrences_7 : decode cX4_occurrences 7 = .ok (.getfield 16, 3) := by decide +kernel
theorem dX4_occurrences_10 : decode cX4_occurrences 10 = .ok (.getfield 127, 3) := by decide +kernel
theorem dX4_occurrences_13 : decode cX4_occurrences 13 = .ok (.invokevirtual 67, 3) := by decide +kernel
theorem dX4_occurrences_16 : decode cX4_occurrences 16 = .ok (.ireturn, 1) := by decide +kernel
set_option maxRecDepth 20000 in
theorem ggX4_occurrences_X4_tryToTheEnd : GoodIn wsX4_occurrences wsX4_tryToTheEnd := goodIn_r _ [6, 1, 7, 8, 9, 10, 11, 12, 13, 14, 15, 16, 17, 18, 19, 20, 21, 22, 23, 24, 25, 26, 27, 28, 29, 30, 31, 32, 33, 34, 35, 36, 37, 38, 39, 40, 41, 42, 43, 44, 45, 46, 47, 48, 49, 50, 51, 52, 53, 54, 55, 56, 57, 58, 59, 60, 61, 62, 63, 64, 65, 66, 67, 68, 69, 70, 71, 72, 73, 74, 75, 76, 77, 78, 79, 80, 81, 82, 83, 84, 85, 86, 87, 88, 89, 90, 91, 92, 93, 94, 95, 96, 97, 98, 99, 100, 101, 102, 103, 104, 105, 106, 107, 108, 109, 110, 111, 112, 113, 114, 115, 116, 117, 118, 119, 120, 121, 122, 123, 124, 125, 126, 127, 128, 129, 130, 131, 133, 134, 135, 136, 137, 138, 139, 140, 141, 142, 143, 144, 145, 146, 147, 148, 149, 150, 151, 152] (by decide +kernel) (by decide +kernel)
set_option maxRecDepth 20000 in
theorem gX4_occurrences_X4_tryToTheEnd : GoodIn wsX4_occurrences (wsV RX4 155 RX4 yX4_tryToTheEnd wsX4_tryToTheEnd) := goodIn_app (goodIn_of _ (by decide +kernel)) ggX4_occurrences_X4_tryToTheEnd
set_option maxRecDepth 20000 in
theorem ggX4_occurrences_X2_size : GoodIn wsX4_occurrences wsX2_size := goodIn_r _ [60, 27, 148, 149] (by decide +kernel) (by decide +kernel)
set_option maxRecDepth 20000 in
theorem gX4_occurrences_X2_size : GoodIn wsX4_occurrences (wsV RX4 67 RX2 yX2_size wsX2_size) := goodIn_app (goodIn_of _ (by decide +kernel)) ggX4_occurrences_X2_size
theorem dX4_comparedWith_0 : decode cX4_comparedWith 0 = .ok (.aload_n 0, 1) := by decide +kernel
theorem dX4_comparedWith_1 : decode cX4_comparedWith 1 = .ok (.iload_n 1, 1) := by decide +kernel
theorem dX4_comparedWith_2 : decode cX4_comparedWith 2 = .ok (.iload_n 2, 1) := by decide +kernel
theorem dX4_comparedWith_3 : decode cX4_comparedWith 3 = .ok (.invokevirtual 155, 3) := by decide +kernel
theorem dX4_comparedWith_6 : decode cX4_comparedWith 6 = .ok (.aload_n 0, 1) := by decide +kernel
theorem dX4_comparedWith_7 : decode cX4_comparedWith 7 = .ok (.getfield 16, 3) := by decide +kernel
theorem dX4_comparedWith_10 : decode cX4_comparedWith 10 = .ok (.getfield 124, 3) := by decide +kernel
theorem dX4_comparedWith_13 : decode cX4_comparedWith 13 = .ok (.ireturn, 1) := by decide +kernel
set_option maxRecDepth 20000 in
theorem ggX4_comparedWith_X4_tryToTheEnd : GoodIn wsX4_comparedWith wsX4_tryToTheEnd := goodIn_r _ [6, 1, 7, 8, 9, 10, 11, 12, 13, 14, 15, 16, 17, 18, 19, 20, 21, 22, 23, 24, 25, 26, 27, 28, 29, 30, 31, 32, 33, 34, 35, 36, 37, 38, 39, 40, 41, 42, 43, 44, 45, 46, 47, 48, 49, 50, 51, 52, 53, 54, 55, 56, 57, 58, 59, 60, 61, 62, 63, 64, 65, 66, 67, 68, 69, 70, 71, 72, 73, 74, 75, 76, 77, 78, 79, 80, 81, 82, 83, 84, 85, 86, 87, 88, 89, 90, 91, 92, 93, 94, 95, 96, 97, 98, 99, 100, 101, 102, 103, 104, 105, 106, 107, 108, 109, 110, 111, 112, 113, 114, 115, 116, 117, 118, 119, 120, 121, 122, 123, 124, 125, 126, 127, 128, 129, 130, 131, 132, 133, 134, 135, 136, 137, 138, 139, 140, 141, 142, 143, 144, 145, 146, 147, 148, 149, 150, 151] (by decide +kernel) (by decide +kernel)
set_option maxRecDepth 20000 in
theorem gX4_comparedWith_X4_tryToTheEnd : GoodIn wsX4_comparedWith (wsV RX4 155 RX4 yX4_tryToTheEnd wsX4_tryToTheEnd) := goodIn_app (goodIn_of _ (by decide +kernel)) ggX4_comparedWith_X4_tryToTheEnd
theorem dX4_setRules_0 : decode cX4_setRules 0 = .ok (.aload_n 0, 1) := by decide +kernel
theorem dX4_setRules_1 : decode cX4_setRules 1 = .ok (.getfield 29, 3) := by decide +kernel
theorem dX4_setRules_4 : decode cX4_setRules 4 = .ok (.aload_n 0, 1) := by decide +kernel
theorem dX4_setRules_5 : decode cX4_setRules 5 = .ok (.getfield 10, 3) := by decide +kernel
theorem dX4_setRules_8 : decode cX4_setRules 8 = .ok (.invokevirtual 53, 3) := by decide +kernel
theorem dX4_setRules_11 : decode cX4_setRules 11 = .ok (.aload_n 0, 1) := by decide +kernel
theorem dX4_setRules_12 : decode cX4_setRules 12 = .ok (.getfield 10, 3) := by decide +kernel
theorem dX4_setRules_15 : decode cX4_setRules 15 = .ok (.invokevirtual 74, 3) := by decide +kernel
theorem dX4_setRules_18 : decode cX4_setRules 18 = .ok (.istore_n 3, 1) := by decide +kernel
theorem dX4_setRules_19 : decode cX4_setRules 19 = .ok (.aload_n 0, 1) := by decide +kernel
theorem dX4_setRules_20 : decode cX4_setRules 20 = .ok (.getfield 10, 3) := by decide +kernel
theorem dX4_setRules_23 : decode cX4_setRules 23 = .ok (.iload_n 1, 1) := by decide +kernel
theorem dX4_setRules_24 : decode cX4_setRules 24 = .ok (.iload_n 2, 1) := by decide +kernel
theorem dX4_setRules_25 : decode cX4_setRules 25 = .ok (.invokevirtual 77, 3) := by decide +kernel
theorem dX4_setRules_28 : decode cX4_setRules 28 = .ok (.aload_n 0, 1) := by decide +kernel
theorem dX4_setRules_29 : decode cX4_setRules 29 = .ok (.getfield 10, 3) := by decide +kernel
theorem dX4_setRules_32 : decode cX4_setRules 32 = .ok (.invokevirtual 64, 3) := by decide +kernel
theorem dX4_setRules_35 : decode cX4_setRules 35 = .ok (.iload_n 3, 1) := by decide +kernel
theorem dX4_setRules_36 : decode cX4_setRules 36 = .ok (.ireturn, 1) := by decide +kernel
set_option maxRecDepth 20000 in
theorem ggX4_setRules_X1_keep : GoodIn wsX4_setRules wsX1_keep := goodIn_r _ [7, 8, 9, 10, 11, 12, 13, 14, 15, 16, 17, 18, 19, 20, 21, 22, 23, 24, 25, 26, 27, 28, 29, 30, 31, 32, 33, 34, 35, 36, 37, 38, 39, 40, 41, 62, 63, 64, 65, 66, 67, 68, 69, 70, 71, 72, 73] (by decide +kernel) (by decide +kernel)
set_option maxRecDepth 20000 in
theorem gX4_setRules_X1_keep : GoodIn wsX4_setRules (wsV RX4 53 RX1 yX1_keep wsX1_keep) := goodIn_app (goodIn_of _ (by decide +kernel)) ggX4_setRules_X1_keep
set_option maxRecDepth 20000 in
theorem ggX4_setRules_X3_rulesOn : GoodIn wsX4_setRules wsX3_rulesOn := goodIn_r _ [45, 22, 23, 64, 65, 66, 67, 68, 69, 70, 71] (by decide +kernel) (by decide +kernel)
set_option maxRecDepth 20000 in
theorem gX4_setRules_X3_rulesOn : GoodIn wsX4_setRules (wsV RX4 74 RX3 yX3_rulesOn wsX3_rulesOn) := goodIn_app (goodIn_of _ (by decide +kernel)) ggX4_setRules_X3_rulesOn
set_option maxRecDepth 20000 in
theorem ggX4_setRules_X3_useRules : GoodIn wsX4_setRules wsX3_useRules := goodIn_r _ [49, 22, 23, 64, 65, 66, 67, 68, 69, 70, 71] (by decide +kernel) (by decide +kernel)
set_option maxRecDepth 20000 in
theorem gX4_setRules_X3_useRules : GoodIn wsX4_setRules (wsV RX4 77 RX3 yX3_useRules wsX3_useRules) := goodIn_app (goodIn_of _ (by decide +kernel)) ggX4_setRules_X3_useRules
set_option maxRecDepth 20000 in
theorem ggX4_setRules_X3_beginAnew : GoodIn wsX4_setRules wsX3_beginAnew := goodIn_r _ [53, 24, 25, 26, 21, 54, 35, 36, 30, 37, 32, 64, 65, 66, 67, 68, 69, 70, 71, 72, 73] (by decide +kernel) (by decide +kernel)
set_option maxRecDepth 20000 in
theorem gX4_setRules_X3_beginAnew : GoodIn wsX4_setRules (wsV RX4 64 RX3 yX3_beginAnew wsX3_beginAnew) := goodIn_app (goodIn_of _ (by decide +kernel)) ggX4_setRules_X3_beginAnew
theorem dX4_rewind_0 : decode cX4_rewind 0 = .ok (.aload_n 0, 1) := by decide +kernel
theorem dX4_rewind_1 : decode cX4_rewind 1 = .ok (.getfield 29, 3) := by decide +kernel
theorem dX4_rewind_4 : decode cX4_rewind 4 = .ok (.aload_n 0, 1) := by decide +kernel
theorem dX4_rewind_5 : decode cX4_rewind 5 = .ok (.getfield 10, 3) := by decide +kernel
theorem dX4_rewind_8 : decode cX4_rewind 8 = .ok (.invokevirtual 53, 3) := by decide +kernel
theorem dX4_rewind_11 : decode cX4_rewind 11 = .ok (.aload_n 0, 1) := by decide +kernel
theorem dX4_rewind_12 : decode cX4_rewind 12 = .ok (.getfield 10, 3) := by decide +kernel
theorem dX4_rewind_15 : decode cX4_rewind 15 = .ok (.getfield 102, 3) := by decide +kernel
theorem dX4_rewind_18 : decode cX4_rewind 18 = .ok (.istore_n 1, 1) := by decide +kernel
theorem dX4_rewind_19 : decode cX4_rewind 19 = .ok (.aload_n 0, 1) := by decide +kernel
theorem dX4_rewind_20 : decode cX4_rewind 20 = .ok (.getfield 10, 3) := by decide +kernel
theorem dX4_rewind_23 : decode cX4_rewind 23 = .ok (.invokevirtual 64, 3) := by decide +kernel
theorem dX4_rewind_26 : decode cX4_rewind 26 = .ok (.iload_n 1, 1) := by decide +kernel
theorem dX4_rewind_27 : decode cX4_rewind 27 = .ok (.ireturn, 1) := by decide +kernel
set_option maxRecDepth 20000 in
theorem ggX4_rewind_X1_keep : GoodIn wsX4_rewind wsX1_keep := goodIn_r _ [7, 8, 9, 10, 11, 12, 13, 14, 15, 16, 17, 18, 19, 20, 21, 22, 23, 24, 25, 26, 27, 28, 29, 30, 31, 32, 33, 34, 35, 36, 37, 38, 39, 40, 41, 62, 63, 54, 55, 56, 57, 58, 59, 60, 61, 64, 65] (by decide +kernel) (by decide +kernel)
set_option maxRecDepth 20000 in
theorem gX4_rewind_X1_keep : GoodIn wsX4_rewind (wsV RX4 53 RX1 yX1_keep wsX1_keep) := goodIn_app (goodIn_of _ (by decide +kernel)) ggX4_rewind_X1_keep
set_option maxRecDepth 20000 in
theorem ggX4_rewind_X3_beginAnew : GoodIn wsX4_rewind wsX3_beginAnew := goodIn_r _ [45, 24, 25, 26, 21, 46, 35, 36, 30, 37, 32, 54, 55, 56, 57, 58, 59, 60, 61, 64, 65] (by decide +kernel) (by decide +kernel)
set_option maxRecDepth 20000 in
theorem gX4_rewind_X3_beginAnew : GoodIn wsX4_rewind (wsV RX4 64 RX3 yX3_beginAnew wsX3_beginAnew) := goodIn_app (goodIn_of _ (by decide +kernel)) ggX4_rewind_X3_beginAnew
theorem dX4_setLetter_0 : decode cX4_setLetter 0 = .ok (.aload_n 0, 1) := by decide +kernel
theorem dX4_setLetter_1 : decode cX4_setLetter 1 = .ok (.getfield 10, 3) := by decide +kernel
theorem dX4_setLetter_4 : decode cX4_setLetter 4 = .ok (.getfield 57, 3) := by decide +kernel
theorem dX4_setLetter_7 : decode cX4_setLetter 7 = .ok (.iload_n 1, 1) := by decide +kernel
theorem dX4_setLetter_8 : decode cX4_setLetter 8 = .ok (.invokestatic 106, 3) := by decide +kernel
theorem dX4_setLetter_11 : decode cX4_setLetter 11 = .ok (.iload_n 2, 1) := by decide +kernel
theorem dX4_setLetter_12 : decode cX4_setLetter 12 = .ok (.invokestatic 110, 3) := by decide +kernel
theorem dX4_setLetter_15 : decode cX4_setLetter 15 = .ok (.aload_n 0, 1) := by decide +kernel
theorem dX4_setLetter_16 : decode cX4_setLetter 16 = .ok (.getfield 29, 3) := by decide +kernel
theorem dX4_setLetter_19 : decode cX4_setLetter 19 = .ok (.aload_n 0, 1) := by decide +kernel
theorem dX4_setLetter_20 : decode cX4_setLetter 20 = .ok (.getfield 10, 3) := by decide +kernel
theorem dX4_setLetter_23 : decode cX4_setLetter 23 = .ok (.invokevirtual 53, 3) := by decide +kernel
theorem dX4_setLetter_26 : decode cX4_setLetter 26 = .ok (.aload_n 0, 1) := by decide +kernel
theorem dX4_setLetter_27 : decode cX4_setLetter 27 = .ok (.getfield 10, 3) := by decide +kernel
theorem dX4_setLetter_30 : decode cX4_setLetter 30 = .ok (.getfield 57, 3) := by decide +kernel
theorem dX4_setLetter_33 : decode cX4_setLetter 33 = .ok (.iload_n 1, 1) := by decide +kernel
theorem dX4_setLetter_34 : decode cX4_setLetter 34 = .ok (.invokevirtual 113, 3) := by decide +kernel
theorem dX4_setLetter_37 : decode cX4_setLetter 37 = .ok (.istore_n 3, 1) := by decide +kernel
theorem dX4_setLetter_38 : decode cX4_setLetter 38 = .ok (.aload_n 0, 1) := by decide +kernel
theorem dX4_setLetter_39 : decode cX4_setLetter 39 = .ok (.getfield 10, 3) := by decide +kernel
theorem dX4_setLetter_42 : decode cX4_setLetter 42 = .ok (.getfield 57, 3) := by decide +kernel
theorem dX4_setLetter_45 : decode cX4_setLetter 45 = .ok (.iload_n 1, 1) := by decide +kernel
theorem dX4_setLetter_46 : decode cX4_setLetter 46 = .ok (.iload_n 2, 1) := by decide +kernel
theorem dX4_setLetter_47 : decode cX4_setLetter 47 = .ok (.invokevirtual 117, 3) := by decide +kernel
theorem dX4_setLetter_50 : decode cX4_setLetter 50 = .ok (.aload_n 0, 1) := by decide +kernel
theorem dX4_setLetter_51 : decode cX4_setLetter 51 = .ok (.getfield 10, 3) := by decide +kernel
theorem dX4_setLetter_54 : decode cX4_setLetter 54 = .ok (.invokevirtual 64, 3) := by decide +kernel
theorem dX4_setLetter_57 : decode cX4_setLetter 57 = .ok (.iload_n 3, 1) := by decide +kernel
theorem dX4_setLetter_58 : decode cX4_setLetter 58 = .ok (.ireturn, 1) := by decide +kernel
set_option maxRecDepth 20000 in
theorem ggX4_setLetter_X4_refuseUnlessIn : GoodIn wsX4_setLetter wsX4_refuseUnlessIn := goodIn_ca (goodIn_r _ [6, 7, 8, 9, 10, 11, 12, 13, 14, 86, 87] (by decide +kernel) (by decide +kernel)) (goodIn_sub (fun _ h => List.mem_cons_of_mem _ (List.mem_append_left _ (List.mem_append_right _ h))) (by decide +kernel))
set_option maxRecDepth 20000 in
theorem gX4_setLetter_X4_refuseUnlessIn : GoodIn wsX4_setLetter (va_wsS RX4 106 yX4_refuseUnlessIn wsX4_refuseUnlessIn) := goodIn_app (goodIn_of _ (by decide +kernel)) ggX4_setLetter_X4_refuseUnlessIn
set_option maxRecDepth 20000 in
theorem ggX4_setLetter_X4_refuseUnlessLetter : GoodIn wsX4_setLetter wsX4_refuseUnlessLetter := goodIn_ca (goodIn_r _ [17, 18, 19] (by decide +kernel) (by decide +kernel)) (goodIn_sub (fun _ h => List.mem_cons_of_mem _ (List.mem_append_right _ h)) (by decide +kernel))
set_option maxRecDepth 20000 in
theorem gX4_setLetter_X4_refuseUnlessLetter : GoodIn wsX4_setLetter (va_wsS RX4 110 yX4_refuseUnlessLetter wsX4_refuseUnlessLetter) := goodIn_app (goodIn_of _ (by decide +kernel)) ggX4_setLetter_X4_refuseUnlessLetter
set_option maxRecDepth 20000 in
theorem ggX4_setLetter_X1_keep : GoodIn wsX4_setLetter wsX1_keep := goodIn_r _ [24, 25, 26, 27, 28, 29, 30, 31, 32, 33, 34, 35, 36, 37, 38, 39, 40, 41, 42, 43, 44, 45, 46, 12, 47, 14, 48, 49, 50, 51, 52, 53, 54, 55, 56, 88, 89, 78, 79, 80, 81, 82, 83, 84, 85, 86, 87] (by decide +kernel) (by decide +kernel)
set_option maxRecDepth 20000 in
theorem gX4_setLetter_X1_keep : GoodIn wsX4_setLetter (wsV RX4 53 RX1 yX1_keep wsX1_keep) := goodIn_app (goodIn_of _ (by decide +kernel)) ggX4_setLetter_X1_keep
set_option maxRecDepth 20000 in
theorem ggX4_setLetter_X2_at : GoodIn wsX4_setLetter wsX2_at := goodIn_r _ [60, 48, 61, 10, 11, 12, 13, 14, 86, 87] (by decide +kernel) (by decide +kernel)
set_option maxRecDepth 20000 in
theorem gX4_setLetter_X2_at : GoodIn wsX4_setLetter (wsV RX4 113 RX2 yX2_at wsX2_at) := goodIn_app (goodIn_of _ (by decide +kernel)) ggX4_setLetter_X2_at
set_option maxRecDepth 20000 in
theorem ggX4_setLetter_X2_put : GoodIn wsX4_setLetter wsX2_put := goodIn_r _ [65, 48, 61, 10, 11, 12, 13, 14, 86, 87] (by decide +kernel) (by decide +kernel)
set_option maxRecDepth 20000 in
theorem gX4_setLetter_X2_put : GoodIn wsX4_setLetter (wsV RX4 117 RX2 yX2_put wsX2_put) := goodIn_app (goodIn_of _ (by decide +kernel)) ggX4_setLetter_X2_put
set_option maxRecDepth 20000 in
theorem ggX4_setLetter_X3_beginAnew : GoodIn wsX4_setLetter wsX3_beginAnew := goodIn_r _ [69, 41, 42, 43, 38, 70, 50, 51, 12, 52, 14, 78, 79, 80, 81, 82, 83, 84, 85, 86, 87] (by decide +kernel) (by decide +kernel)
set_option maxRecDepth 20000 in
theorem gX4_setLetter_X3_beginAnew : GoodIn wsX4_setLetter (wsV RX4 64 RX3 yX3_beginAnew wsX3_beginAnew) := goodIn_app (goodIn_of _ (by decide +kernel)) ggX4_setLetter_X3_beginAnew
theorem dX4_look_0 : decode cX4_look 0 = .ok (.aload_n 0, 1) := by decide +kernel
theorem dX4_look_1 : decode cX4_look 1 = .ok (.getfield 10, 3) := by decide +kernel
theorem dX4_look_4 : decode cX4_look 4 = .ok (.invokevirtual 81, 3) := by decide +kernel
theorem dX4_look_7 : decode cX4_look 7 = .ok (.ifCond .eq 13, 3) := by decide +kernel
theorem dX4_look_10 : decode cX4_look 10 = .ok (.new 85, 3) := by decide +kernel
theorem dX4_look_13 : decode cX4_look 13 = .ok (.dup, 1) := by decide +kernel
theorem dX4_look_14 : decode cX4_look 14 = .ok (.ldc 87, 2) := by decide +kernel
theorem dX4_look_16 : decode cX4_look 16 = .ok (.invokespecial 89, 3) := by decide +kernel
theorem dX4_look_19 : decode cX4_look 19 = .ok (.athrow, 1) := by decide +kernel
theorem dX4_look_20 : decode cX4_look 20 = .ok (.aload_n 0, 1) := by decide +kernel
theorem dX4_look_21 : decode cX4_look 21 = .ok (.getfield 29, 3) := by decide +kernel
theorem dX4_look_24 : decode cX4_look 24 = .ok (.aload_n 0, 1) := by decide +kernel
theorem dX4_look_25 : decode cX4_look 25 = .ok (.getfield 10, 3) := by decide +kernel
theorem dX4_look_28 : decode cX4_look 28 = .ok (.invokevirtual 53, 3) := by decide +kernel
theorem dX4_look_31 : decode cX4_look 31 = .ok (.aload_n 0, 1) := by decide +kernel
theorem dX4_look_32 : decode cX4_look 32 = .ok (.getfield 22, 3) := by decide +kernel
theorem dX4_look_35 : decode cX4_look 35 = .ok (.aload_n 0, 1) := by decide +kernel
theorem dX4_look_36 : decode cX4_look 36 = .ok (.getfield 10, 3) := by decide +kernel
theorem dX4_look_39 : decode cX4_look 39 = .ok (.getfield 71, 3) := by decide +kernel
theorem dX4_look_42 : decode cX4_look 42 = .ok (.invokevirtual 92, 3) := by decide +kernel
theorem dX4_look_45 : decode cX4_look 45 = .ok (.aload_n 0, 1) := by decide +kernel
theorem dX4_look_46 : decode cX4_look 46 = .ok (.getfield 10, 3) := by decide +kernel
theorem dX4_look_49 : decode cX4_look 49 = .ok (.aload_n 0, 1) := by decide +kernel
theorem dX4_look_50 : decode cX4_look 50 = .ok (.getfield 22, 3) := by decide +kernel
theorem dX4_look_53 : decode cX4_look 53 = .ok (.invokevirtual 95, 3) := by decide +kernel
theorem dX4_look_56 : decode cX4_look 56 = .ok (.ireturn, 1) := by decide +kernel
set_option maxRecDepth 20000 in
theorem ggX4_look_X3_hasEnded : GoodIn wsX4_look wsX3_hasEnded := goodIn_r _ [10, 11, 12, 13, 14, 15, 16, 17, 18, 19, 20, 21, 9, 22, 23, 24, 25, 26, 27, 28, 29, 30, 31, 131, 132, 133, 134, 135, 136, 137, 138, 139, 140] (by decide +kernel) (by decide +kernel)
set_option maxRecDepth 20000 in
theorem gX4_look_X3_hasEnded : GoodIn wsX4_look (wsV RX4 81 RX3 yX3_hasEnded wsX3_hasEnded) := goodIn_app (goodIn_of _ (by decide +kernel)) ggX4_look_X3_hasEnded
set_option maxRecDepth 20000 in
theorem ggX4_look_X1_keep : GoodIn wsX4_look wsX1_keep := goodIn_r _ [36, 37, 38, 39, 40, 26, 41, 42, 43, 44, 9, 45, 23, 11, 46, 47, 48, 12, 49, 50, 51, 52, 53, 16, 54, 18, 55, 56, 57, 58, 59, 60, 61, 62, 63, 141, 142, 131, 132, 133, 134, 135, 136, 137, 138, 139, 140] (by decide +kernel) (by decide +kernel)
set_option maxRecDepth 20000 in
theorem gX4_look_X1_keep : GoodIn wsX4_look (wsV RX4 53 RX1 yX1_keep wsX1_keep) := goodIn_app (goodIn_of _ (by decide +kernel)) ggX4_look_X1_keep
set_option maxRecDepth 20000 in
theorem ggX4_look_X0_study : GoodIn wsX4_look wsX0_study := goodIn_r _ [68, 69, 40, 26, 41, 70, 71, 72, 29, 30, 16, 31, 18, 73, 74, 75, 67, 76, 77, 78, 79, 80, 81, 82, 83, 84, 85, 55, 86, 87, 88, 89, 90, 91, 92, 93, 143, 144, 145, 139, 140] (by decide +kernel) (by decide +kernel)
set_option maxRecDepth 20000 in
theorem gX4_look_X0_study : GoodIn wsX4_look (wsV RX4 92 RX0 yX0_study wsX0_study) := goodIn_app (goodIn_of _ (by decide +kernel)) ggX4_look_X0_study
set_option maxRecDepth 20000 in
theorem ggX4_look_X3_lookOnce : GoodIn wsX4_look wsX3_lookOnce := goodIn_r _ [97, 12, 49, 50, 11, 24, 25, 26, 27, 46, 98, 99, 100, 9, 101, 23, 28, 29, 30, 16, 31, 18, 102, 83, 84, 85, 55, 86, 87, 88, 89, 103, 104, 105, 106, 47, 48, 107, 108, 109, 67, 110, 70, 77, 111, 112, 113, 114, 115, 116, 117, 118, 119, 120, 121, 122, 71, 123, 61, 62, 63, 131, 132, 133, 134, 135, 136, 137, 138, 139, 140, 143, 144, 145] (by decide +kernel) (by decide +kernel)
set_option maxRecDepth 20000 in
theorem gX4_look_X3_lookOnce : GoodIn wsX4_look (wsV RX4 95 RX3 yX3_lookOnce wsX3_lookOnce) := goodIn_app (goodIn_of _ (by decide +kernel)) ggX4_look_X3_lookOnce
theorem dX4_finish_0 : decode cX4_finish 0 = .ok (.aload_n 0, 1) := by decide +kernel
theorem dX4_finish_1 : decode cX4_finish 1 = .ok (.getfield 29, 3) := by decide +kernel
theorem dX4_finish_4 : decode cX4_finish 4 = .ok (.aload_n 0, 1) := by decide +kernel
theorem dX4_finish_5 : decode cX4_finish 5 = .ok (.getfield 10, 3) := by decide +kernel
theorem dX4_finish_8 : decode cX4_finish 8 = .ok (.invokevirtual 53, 3) := by decide +kernel
theorem dX4_finish_11 : decode cX4_finish 11 = .ok (.aload_n 0, 1) := by decide +kernel
theorem dX4_finish_12 : decode cX4_finish 12 = .ok (.getfield 22, 3) := by decide +kernel
theorem dX4_finish_15 : decode cX4_finish 15 = .ok (.aload_n 0, 1) := by decide +kernel
theorem dX4_finish_16 : decode cX4_finish 16 = .ok (.getfield 10, 3) := by decide +kernel
theorem dX4_finish_19 : decode cX4_finish 19 = .ok (.getfield 71, 3) := by decide +kernel
theorem dX4_finish_22 : decode cX4_finish 22 = .ok (.invokevirtual 92, 3) := by decide +kernel
theorem dX4_finish_25 : decode cX4_finish 25 = .ok (.aload_n 0, 1) := by decide +kernel
theorem dX4_finish_26 : decode cX4_finish 26 = .ok (.getfield 10, 3) := by decide +kernel
theorem dX4_finish_29 : decode cX4_finish 29 = .ok (.aload_n 0, 1) := by decide +kernel
theorem dX4_finish_30 : decode cX4_finish 30 = .ok (.getfield 22, 3) := by decide +kernel
theorem dX4_finish_33 : decode cX4_finish 33 = .ok (.invokevirtual 99, 3) := by decide +kernel
theorem dX4_finish_36 : decode cX4_finish 36 = .ok (.ireturn, 1) := by decide +kernel
set_option maxRecDepth 20000 in
theorem ggX4_finish_X1_keep : GoodIn wsX4_finish wsX1_keep := goodIn_r _ [8, 9, 10, 11, 12, 13, 14, 15, 16, 17, 18, 19, 20, 21, 22, 23, 24, 25, 26, 27, 28, 29, 30, 31, 32, 33, 34, 35, 36, 37, 38, 39, 40, 41, 42, 141, 142, 133, 134, 135, 136, 137, 138, 139, 140, 143, 144] (by decide +kernel) (by decide +kernel)
set_option maxRecDepth 20000 in
theorem gX4_finish_X1_keep : GoodIn wsX4_finish (wsV RX4 53 RX1 yX1_keep wsX1_keep) := goodIn_app (goodIn_of _ (by decide +kernel)) ggX4_finish_X1_keep
set_option maxRecDepth 20000 in
theorem ggX4_finish_X0_study : GoodIn wsX4_finish wsX0_study := goodIn_r _ [47, 48, 12, 13, 14, 49, 50, 51, 52, 53, 31, 54, 33, 55, 56, 57, 46, 58, 59, 60, 61, 62, 63, 64, 65, 66, 67, 34, 68, 69, 70, 71, 72, 73, 74, 75, 145, 146, 147, 143, 144] (by decide +kernel) (by decide +kernel)
set_option maxRecDepth 20000 in
theorem gX4_finish_X0_study : GoodIn wsX4_finish (wsV RX4 92 RX0 yX0_study wsX0_study) := goodIn_app (goodIn_of _ (by decide +kernel)) ggX4_finish_X0_study
set_option maxRecDepth 20000 in
theorem ggX4_finish_X3_lookToTheEnd : GoodIn wsX4_finish wsX3_lookToTheEnd := goodIn_r _ [79, 80, 81, 82, 18, 83, 21, 25, 84, 85, 86, 31, 87, 33, 88, 89, 90, 91, 20, 92, 93, 13, 94, 95, 52, 53, 54, 96, 97, 98, 99, 26, 27, 22, 100, 101, 102, 103, 104, 65, 66, 67, 34, 68, 69, 70, 71, 105, 106, 107, 108, 23, 24, 109, 110, 111, 46, 112, 49, 59, 113, 114, 115, 116, 117, 118, 119, 120, 121, 122, 123, 124, 50, 125, 40, 41, 42, 133, 134, 135, 136, 137, 138, 139, 140, 143, 144, 145, 146, 147] (by decide +kernel) (by decide +kernel)
set_option maxRecDepth 20000 in
theorem gX4_finish_X3_lookToTheEnd : GoodIn wsX4_finish (wsV RX4 99 RX3 yX3_lookToTheEnd wsX3_lookToTheEnd) := goodIn_app (goodIn_of _ (by decide +kernel)) ggX4_finish_X3_lookToTheEnd
theorem dX4_undo_0 : decode cX4_undo 0 = .ok (.aload_n 0, 1) := by decide +kernel
theorem dX4_undo_1 : decode cX4_undo 1 = .ok (.getfield 29, 3) := by decide +kernel
theorem dX4_undo_4 : decode cX4_undo 4 = .ok (.invokevirtual 196, 3) := by decide +kernel
theorem dX4_undo_7 : decode cX4_undo 7 = .ok (.ifCond .ne 13, 3) := by decide +kernel
theorem dX4_undo_10 : decode cX4_undo 10 = .ok (.new 85, 3) := by decide +kernel
theorem dX4_undo_13 : decode cX4_undo 13 = .ok (.dup, 1) := by decide +kernel
theorem dX4_undo_14 : decode cX4_undo 14 = .ok (.ldc 197, 2) := by decide +kernel
theorem dX4_undo_16 : decode cX4_undo 16 = .ok (.invokespecial 89, 3) := by decide +kernel
theorem dX4_undo_19 : decode cX4_undo 19 = .ok (.athrow, 1) := by decide +kernel
theorem dX4_undo_20 : decode cX4_undo 20 = .ok (.aload_n 0, 1) := by decide +kernel
theorem dX4_undo_21 : decode cX4_undo 21 = .ok (.getfield 29, 3) := by decide +kernel
theorem dX4_undo_24 : decode cX4_undo 24 = .ok (.aload_n 0, 1) := by decide +kernel
theorem dX4_undo_25 : decode cX4_undo 25 = .ok (.getfield 10, 3) := by decide +kernel
theorem dX4_undo_28 : decode cX4_undo 28 = .ok (.invokevirtual 199, 3) := by decide +kernel
theorem dX4_undo_31 : decode cX4_undo 31 = .ok (.aload_n 0, 1) := by decide +kernel
theorem dX4_undo_32 : decode cX4_undo 32 = .ok (.getfield 29, 3) := by decide +kernel
theorem dX4_undo_35 : decode cX4_undo 35 = .ok (.invokevirtual 196, 3) := by decide +kernel
theorem dX4_undo_38 : decode cX4_undo 38 = .ok (.ireturn, 1) := by decide +kernel
set_option maxRecDepth 20000 in
theorem ggX4_undo_X1_size : GoodIn wsX4_undo wsX1_size := goodIn_r _ [9, 10, 51, 52] (by decide +kernel) (by decide +kernel)
set_option maxRecDepth 20000 in
theorem gX4_undo_X1_size : GoodIn wsX4_undo (wsV RX4 196 RX1 yX1_size wsX1_size) := goodIn_app (goodIn_of _ (by decide +kernel)) ggX4_undo_X1_size
set_option maxRecDepth 20000 in
theorem ggX4_undo_X1_giveBack : GoodIn wsX4_undo wsX1_giveBack := goodIn_r _ [14, 10, 15, 16, 17, 18, 19, 20, 21, 22, 23, 24, 25, 26, 27, 28, 29, 30, 31, 32, 33, 34, 35, 36, 37, 38, 39, 40, 41, 42, 43, 51, 52, 53, 54, 55, 56, 57, 58, 59, 60, 61, 62] (by decide +kernel) (by decide +kernel)
set_option maxRecDepth 20000 in
theorem gX4_undo_X1_giveBack : GoodIn wsX4_undo (wsV RX4 199 RX1 yX1_giveBack wsX1_giveBack) := goodIn_app (goodIn_of _ (by decide +kernel)) ggX4_undo_X1_giveBack
theorem dX4_undoCount_0 : decode cX4_undoCount 0 = .ok (.aload_n 0, 1) := by decide +kernel
theorem dX4_undoCount_1 : decode cX4_undoCount 1 = .ok (.getfield 29, 3) := by decide +kernel
theorem dX4_undoCount_4 : decode cX4_undoCount 4 = .ok (.invokevirtual 196, 3) := by decide +kernel
theorem dX4_undoCount_7 : decode cX4_undoCount 7 = .ok (.ireturn, 1) := by decide +kernel
set_option maxRecDepth 20000 in
theorem ggX4_undoCount_X1_size : GoodIn wsX4_undoCount wsX1_size := goodIn_r _ [6, 7, 15, 16] (by decide +kernel) (by decide +kernel)
set_option maxRecDepth 20000 in
theorem gX4_undoCount_X1_size : GoodIn wsX4_undoCount (wsV RX4 196 RX1 yX1_size wsX1_size) := goodIn_app (goodIn_of _ (by decide +kernel)) ggX4_undoCount_X1_size
theorem Cv.tell {l : Launch} {D : va_G} {cy : Nat → ClassId} {y : MethodName} {ws : List Cond} {fr lo : Nat} {av : List Value} {w : va_W} {S S2 : Type} {post : S → Prop} {w' : S → va_W} {post2 : S2 → Prop} {w2 : S2 → va_W} (hM : Cv l D cy y ws fr lo av w post w') (himp : ∀ u, post u → ∃ u2, post2 u2 ∧ w' u = w2 u2) : Cv l D cy y ws fr lo av w post2 w2 := by
  intro sz p e ha hc hk s m args below hf happ hpre hT
  obtain ⟨n, o, h1, h2, h3, ⟨⟨u, ho, hp, hB⟩, hF⟩, hL⟩ := hM sz p e ha hc hk s m args below hf happ hpre hT
  obtain ⟨u2, hp2, hw2⟩ := himp u hp
  exact ⟨n, o, h1, h2, h3, ⟨⟨u2, ho, hp2, by show va_P D vwCl (w2 u2) _; rw [← hw2]; exact hB⟩, hF⟩, hL⟩
theorem Rep.cg {n : Int} {f g : Nat → Int32} {l : List Int32} (h : Rep n f l) (hg : ∀ j : Nat, (j : Int) < n → g j = f j) : Rep n g l := ⟨h.1, fun j hj => by rw [hg j (by have := h.1; omega)]; exact h.2 j hj⟩
theorem RS.cg {z : Nat → Int} {f g : Nat → Nat → Int32} {M : MS} (h : RS z f M) (hg : FA z g f) : RS z g M := ⟨h.1.cg hg.1, h.2.1.cg hg.2.1, h.2.2.1.cg hg.2.2, h.2.2.2⟩
theorem SB_of {z : Nat → Int} {f : Nat → Nat → Int32} {M : MS} (hR : RS z f M) (hM : MOk M) : SB z := by
  obtain ⟨r0, r1, r2, r3, r4, r5, r6, r7⟩ := hR
  obtain ⟨o1, o2, o3, o4, o5, o6, o7, o8, o9, o10, o11, o12, o13, o14, o15⟩ := hM
  have q0 := r0.1
  have q1 := r1.1
  have q2 := r2.1
  refine ⟨?_, ?_, ?_, ?_, ?_, ?_, ?_, ?_, ?_, ?_, ?_, ?_, ?_, ?_, ?_, ?_⟩ <;> omega
/-- the ring of recorded states -/
def RXH (nx ct : Int) (Zh : Nat → Nat → Int) (Fh : Nat → Nat → Nat → Int32) (h : List MS) : Prop := 0 ≤ nx ∧ nx < 6 ∧ ct = (h.length : Int) ∧ h.length ≤ 6 ∧ ∀ (i : Nat) (M : MS), h[i]? = some M → RS (Zh ((nx.toNat + 6 - h.length + i) % 6)) (Fh ((nx.toNat + 6 - h.length + i) % 6)) M ∧ MOk M
theorem zset_ne {α : Type} {Z : Nat → α} {i k : Nat} {z : α} (h : ¬ k = i) : zset Z i z k = Z k := if_neg h
theorem zset_eq {α : Type} {Z : Nat → α} {i k : Nat} {z : α} (h : k = i) : zset Z i z k = z := if_pos h
theorem RXH_push {nx ct : Int} {Zh : Nat → Nat → Int} {Fh : Nat → Nat → Nat → Int32} {h : List MS} {M : MS} {z : Nat → Int} {g : Nat → Nat → Int32} (hH : RXH nx ct Zh Fh h) (hM : MOk M) (hR : RS z g M) : RXH (if nx + 1 < 6 then nx + 1 else 0) (min (ct + 1) 6) (zset Zh nx.toNat z) (zset Fh nx.toNat g) (pushH h M) := by
  obtain ⟨h1, h2, h3, h4, h5⟩ := hH
  by_cases h6 : h.length = 6
  · have hp : pushH h M = h.drop 1 ++ [M] := by unfold pushH; rw [if_pos h6]
    have hl : (pushH h M).length = 6 := by rw [hp]; simp; omega
    refine ⟨by omega, by omega, by omega, by omega, fun i M2 e => ?_⟩
    rw [hl]
    have hi : i < 6 := by rw [← hl]; exact (List.getElem?_eq_some_iff.mp e).1
    rw [hp] at e
    by_cases e5 : i = 5
    · rw [List.getElem?_append_right (by simp; omega)] at e
      have e0 : i - (h.drop 1).length = 0 := by simp; omega
      rw [e0] at e
      have : M2 = M := by simpa using e.symm
      rw [this, zset_eq (by omega), zset_eq (by omega)]
      exact ⟨hR, hM⟩
    · rw [List.getElem?_append_left (by simp; omega), List.getElem?_drop] at e
      have := h5 (1 + i) M2 e
      rw [h6] at this
      rw [zset_ne (by omega), zset_ne (by omega)]
      rw [show ((if nx + 1 < 6 then nx + 1 else 0).toNat + 6 - 6 + i) % 6 = (nx.toNat + 6 - 6 + (1 + i)) % 6 by omega]
      exact this
  · have hp : pushH h M = h ++ [M] := by unfold pushH; rw [if_neg h6]
    have hl : (pushH h M).length = h.length + 1 := by rw [hp]; simp
    refine ⟨by omega, by omega, by omega, by omega, fun i M2 e => ?_⟩
    rw [hl]
    have hi : i < h.length + 1 := by rw [← hl]; exact (List.getElem?_eq_some_iff.mp e).1
    rw [hp] at e
    by_cases e5 : i = h.length
    · rw [List.getElem?_append_right (by omega)] at e
      have e0 : i - h.length = 0 := by omega
      rw [e0] at e
      have : M2 = M := by simpa using e.symm
      rw [this, zset_eq (by omega), zset_eq (by omega)]
      exact ⟨hR, hM⟩
    · rw [List.getElem?_append_left (by omega)] at e
      have := h5 i M2 e
      rw [zset_ne (by omega), zset_ne (by omega)]
      rw [show ((if nx + 1 < 6 then nx + 1 else 0).toNat + 6 - (h.length + 1) + i) % 6 = (nx.toNat + 6 - h.length + i) % 6 by omega]
      exact this
theorem RXH_pop {nx ct : Int} {Zh : Nat → Nat → Int} {Fh : Nat → Nat → Nat → Int32} {h : List MS} (hH : RXH nx ct Zh Fh h) (hn : ¬ h.length = 0) : ∃ M2 : MS, h[h.length - 1]? = some M2 ∧ RS (Zh (if 0 < nx then nx - 1 else 5).toNat) (Fh (if 0 < nx then nx - 1 else 5).toNat) M2 ∧ MOk M2 ∧ RXH (if 0 < nx then nx - 1 else 5) (ct - 1) Zh Fh (h.take (h.length - 1)) := by
  obtain ⟨h1, h2, h3, h4, h5⟩ := hH
  have hlt : h.length - 1 < h.length := by omega
  have hl : (h.take (h.length - 1)).length = h.length - 1 := by simp
  have e := h5 (h.length - 1) h[h.length - 1] (List.getElem?_eq_getElem hlt)
  rw [show (nx.toNat + 6 - h.length + (h.length - 1)) % 6 = (if 0 < nx then nx - 1 else 5).toNat by omega] at e
  refine ⟨h[h.length - 1], List.getElem?_eq_getElem hlt, e.1, e.2, by omega, by omega, by omega, by omega, fun i M2 e2 => ?_⟩
  rw [hl]
  have hi : i < h.length - 1 := by rw [← hl]; exact (List.getElem?_eq_some_iff.mp e2).1
  rw [List.getElem?_take, if_pos hi] at e2
  have := h5 i M2 e2
  rw [show ((if 0 < nx then nx - 1 else 5).toNat + 6 - (h.length - 1) + i) % 6 = (nx.toNat + 6 - h.length + i) % 6 by omega]
  exact this
/-! what a study gives -/
theorem skX_study {m : Nat} (hm : 0 < m) {W L W' L' : Nat → Int32} {B K : Nat → Int} {lr er pl d n : Int} (hW : ∀ j : Nat, j < m → W j = W' j) (hL : ∀ j : Nat, (j : Int) < n → L j = L' j) (h1 : -1 ≤ d ∧ d < m) (h2 : 0 ≤ pl ∧ pl + m ≤ n) : skX (studyB m W B K 0) (studyK m W B K) lr er m W L pl d = skS lr er m W' L' pl d := by
  obtain ⟨s1, s2⟩ := study_ok (W := W) B K hm
  simp only [skX, skS]
  by_cases hd : d = -1
  · rw [if_pos hd, if_pos hd, if_neg (by omega), s1, perF_congr hW]
  · rw [if_neg hd, if_neg hd, show (d + 1).toNat = d.toNat + 1 by omega, s2 d.toNat (by omega), endF_congr hW (by omega), lastF_congr hW, hL (pl + d).toNat (by omega)]
theorem study_end {z1 : Int} {f1 : Nat → Int32} {word : List Int32} (h : Rep z1 f1 word) {B K : Nat → Int} {x : Int} (hx : 0 ≤ x ∧ x < (word.length : Int)) : studyK z1.toNat f1 B K (x + 1).toNat = (endF word.length (gl word) x.toNat : Int) := by
  have e : z1.toNat = word.length := by have := h.1; omega
  rw [e, show (x + 1).toNat = x.toNat + 1 by omega, (study_ok (W := f1) B K (by omega)).2 x.toNat (by omega), endF_congr h.2 (by omega)]
  rfl
theorem study_per {z1 : Int} {f1 : Nat → Int32} {word : List Int32} (h : Rep z1 f1 word) {B K : Nat → Int} : (if z1 = 0 then 0 else studyB z1.toNat f1 B K 0) = (perF word.length (gl word) : Int) := by
  have e : z1.toNat = word.length := by have := h.1; omega
  by_cases h0 : z1 = 0
  · have hw : word.length = 0 := by omega
    rw [if_pos h0]
    unfold perF
    rw [if_pos (by omega)]
    rfl
  · rw [if_neg h0, e, (study_ok (W := f1) B K (by have := h.1; omega)).1, perF_congr h.2]
    rfl
theorem run_cg {n m : Nat} {W L W' L' : Nat → Int32} {sk sk' : Int → Int → Int} (hW : ∀ j : Nat, j < m → W j = W' j) (hL : ∀ j : Nat, j < n → L j = L' j) (hsk : 0 < m → ∀ pl : Int, 0 ≤ pl → pl + m ≤ n → sk pl (diffF m W' L' pl) = sk' pl (diffF m W' L' pl) ∧ 0 ≤ sk' pl (diffF m W' L' pl)) : ∀ (k : Nat) (t : LT), 0 ≤ t.1 → runS n m W L sk k t = runS n m W' L' sk' k t
  | 0, t, _ => rfl
  | k + 1, t, h0 => by
    simp only [runS]
    split
    · rfl
    · rename_i q
      have hd : diffF m W L t.1 = diffF m W' L' t.1 := diffF_congr h0 hW (fun j a b => hL j (by omega))
      obtain ⟨s1, s2⟩ := hsk (by omega) t.1 h0 (by omega)
      have hl : lookS m W L sk t = lookS m W' L' sk' t := by
        simp only [lookS]
        rw [hd, s1]
      rw [hl, run_cg hW hL hsk k (lookS m W' L' sk' t) (by simp only [lookS]; omega)]
theorem run_study {z0 z1 : Int} {f0 f1 : Nat → Int32} {line word : List Int32} (h0 : Rep z0 f0 line) (h1 : Rep z1 f1 word) {B K : Nat → Int} {lr er : Int} (hm : word.length ≤ 16) (k : Nat) (t : LT) (ht : 0 ≤ t.1) : runS z0.toNat z1.toNat f1 f0 (skX (studyB z1.toNat f1 B K 0) (studyK z1.toNat f1 B K) lr er z1.toNat f1 f0) k t = runS line.length word.length (gl word) (gl line) (skS lr er word.length (gl word) (gl line)) k t := by
  have e0 : z0.toNat = line.length := by have := h0.1; omega
  have e1 : z1.toNat = word.length := by have := h1.1; omega
  rw [e0, e1]
  refine run_cg h1.2 h0.2 (fun hp pl q1 q2 => ?_) k t ht
  have hd := diffF_rng word.length (gl word) (gl line) pl
  refine ⟨skX_study (n := (line.length : Int)) hp h1.2 (fun j hj => h0.2 j (by omega)) hd ⟨q1, q2⟩, ?_⟩
  exact Int.le_trans (show (0 : Int) ≤ 1 by omega) (skS_rng (lr := lr) (er := er) (L := gl line) (W := gl word) (pl := pl) ⟨hp, hm⟩ hd.1 hd.2).1
theorem RS_run {z0 z1 : Int} {f0 f1 g0 g1 : Nat → Int32} {M : MS} (r0 : Rep z0 f0 M.1) (r1 : Rep z1 f1 M.2.1) (hm : M.2.1.length ≤ 16) (h0 : ∀ j : Nat, (j : Int) < z0 → g0 j = f0 j) (h1 : ∀ j : Nat, (j : Int) < z1 → g1 j = f1 j) {B K : Nat → Int} {x y pl1 lk1 cp1 nf1 : Int} {Ff1 : Nat → Int32}
    (e1 : pl1 = (runS z0.toNat z1.toNat g1 g0 (skX (studyB z1.toNat g1 B K 0) (studyK z1.toNat g1 B K) x y z1.toNat g1 g0) 60 (0, 0, 0, [])).1.1)
    (e2 : lk1 = (runS z0.toNat z1.toNat g1 g0 (skX (studyB z1.toNat g1 B K 0) (studyK z1.toNat g1 B K) x y z1.toNat g1 g0) 60 (0, 0, 0, [])).1.2.1)
    (e3 : cp1 = (runS z0.toNat z1.toNat g1 g0 (skX (studyB z1.toNat g1 B K 0) (studyK z1.toNat g1 B K) x y z1.toNat g1 g0) 60 (0, 0, 0, [])).1.2.2.1)
    (e4 : Rep nf1 Ff1 (runS z0.toNat z1.toNat g1 g0 (skX (studyB z1.toNat g1 B K 0) (studyK z1.toNat g1 B K) x y z1.toNat g1 g0) 60 (0, 0, 0, [])).1.2.2.2) : RS (zL [z0, z1, nf1, x, y, pl1, lk1, cp1]) (fL [g0, g1, Ff1]) (mOf (mRules M x y) (mRun (mRules M x y)).1) := by
  have hr := run_study (r0.cg h0) (r1.cg h1) (B := B) (K := K) (lr := x) (er := y) hm 60 (0, 0, 0, []) (Int.le_refl _)
  rw [hr] at e1 e2 e3 e4
  exact ⟨r0.cg h0, r1.cg h1, e4, rfl, rfl, e1, e2, e3⟩
theorem occ_run {M : MS} (hM : MOk M) : ((mOf (mRules M 1 1) (mRun (mRules M 1 1)).1).2.2.1.length : Int) = occF M := by
  obtain ⟨o1, o2, _⟩ := hM
  show (((mRun (mRules M 1 1)).1.2.2.2).length : Int) = occF M
  have hrun : mRun (mRules M 1 1) = runS M.1.length M.2.1.length (gl M.2.1) (gl M.1) (skS 1 1 M.2.1.length (gl M.2.1) (gl M.1)) 60 (0, 0, 0, []) := rfl
  rw [hrun]
  unfold occF
  by_cases h0 : (M.2.1.length : Int) = 0
  · rw [if_pos h0, runS_over (Or.inl h0)]
    rfl
  · rw [if_neg h0]
    by_cases hle : M.2.1.length ≤ M.1.length
    · rw [run_cnt (by omega) o1 hle 60 0 0 0 [] (Int.le_refl _) (by omega) (by rw [show min (0 : Int).toNat (M.1.length - M.2.1.length + 1) = 0 by omega]; rfl)]
      congr 1
      omega
    · rw [runS_over (Or.inr (by show (M.1.length : Int) - (M.2.1.length : Int) + 1 ≤ (0 : Int); omega)), show M.1.length + 1 - M.2.1.length = 0 by omega]
      rfl
theorem RS_bgn {z : Nat → Int} {f : Nat → Nat → Int32} {M : MS} (h : RS z f M) : RS (zL [z 0, z 1, 0, z 3, z 4, 0, 0, 0]) f (bgn M) := ⟨h.1, h.2.1, ⟨rfl, fun j hj => absurd hj (Nat.not_lt_zero _)⟩, h.2.2.2.1, h.2.2.2.2.1, rfl, rfl, rfl⟩
theorem RS_rules {z : Nat → Int} {f : Nat → Nat → Int32} {M : MS} (h : RS z f M) {x y : Int} : RS (zL [z 0, z 1, 0, x, y, 0, 0, 0]) f (mRules M x y) := ⟨h.1, h.2.1, ⟨rfl, fun j hj => absurd hj (Nat.not_lt_zero _)⟩, rfl, rfl, rfl, rfl, rfl⟩
theorem Rep_set {n : Int} {f : Nat → Int32} {l : List Int32} (h : Rep n f l) (k : Nat) (v : Int32) : Rep n (upd f k v) (l.set k v) := by
  refine ⟨by rw [List.length_set]; exact h.1, fun j hj => ?_⟩
  rw [List.length_set] at hj
  by_cases e : j = k
  · subst e
    rw [upd_same]
    simp [List.getD_eq_getElem?_getD, hj]
  · have e2 : ¬ k = j := fun q => e q.symm
    rw [upd_ne _ _ e, h.2 j hj]
    simp [List.getD_eq_getElem?_getD, List.getElem?_set, e2]
theorem RS_set {z : Nat → Int} {f : Nat → Nat → Int32} {M : MS} (h : RS z f M) {k : Nat} {v : Int32} (hk : k < M.1.length) : RS (zL [z 0, z 1, 0, z 3, z 4, 0, 0, 0]) (fL [upd (f 0) k v, f 1, f 2]) (mSet M k v) := ⟨Rep_set h.1 k v, h.2.1, ⟨rfl, fun j hj => absurd hj (Nat.not_lt_zero _)⟩, h.2.2.2.1, h.2.2.2.2.1, rfl, rfl, rfl⟩
theorem RS_look {z : Nat → Int} {f : Nat → Nat → Int32} {M : MS} (hR : RS z f M) (hM : MOk M) (hno : ¬ mOver M) {B Kf : Nat → Int} {cp1 nf1 : Int} {Ff1 : Nat → Int32}
    (e1 : cp1 = z 7 + (z 1 - max (diffF (z 1).toNat (f 1) (f 0) (z 5)) 0))
    (e2 : ((diffF (z 1).toNat (f 1) (f 0) (z 5)) = -1 ∧ nf1 = z 2 + 1 ∧ Ff1 = upd (f 2) (z 2).toNat (iI (z 5))) ∨ (¬ (diffF (z 1).toNat (f 1) (f 0) (z 5)) = -1 ∧ nf1 = z 2 ∧ Ff1 = f 2)) :
    skX (studyB (z 1).toNat (f 1) B Kf 0) (studyK (z 1).toNat (f 1) B Kf) (z 3) (z 4) (z 1).toNat (f 1) (f 0) (z 5) (diffF (z 1).toNat (f 1) (f 0) (z 5)) = mSk M M.2.2.2.2.2.1 (mD M M.2.2.2.2.2.1) ∧ True ∧
    RS (zL [z 0, z 1, nf1, z 3, z 4, z 5 + skX (studyB (z 1).toNat (f 1) B Kf 0) (studyK (z 1).toNat (f 1) B Kf) (z 3) (z 4) (z 1).toNat (f 1) (f 0) (z 5) (diffF (z 1).toNat (f 1) (f 0) (z 5)), z 6 + 1, cp1]) (fL [f 0, f 1, Ff1]) (mLook M) := by
  obtain ⟨r0, r1, r2, r3, r4, r5, r6, r7⟩ := hR
  obtain ⟨o1, o2, o3, o4, o5, _⟩ := hM
  simp only [mOver] at hno
  have q0 := r0.1
  have q1 := r1.1
  have hD : diffF (z 1).toNat (f 1) (f 0) (z 5) = mD M M.2.2.2.2.2.1 := by rw [r5]; exact md_gl r0 r1 (by omega)
  have hd := diffF_rng M.2.1.length (gl M.2.1) (gl M.1) M.2.2.2.2.2.1
  have hs : skX (studyB (z 1).toNat (f 1) B Kf 0) (studyK (z 1).toNat (f 1) B Kf) (z 3) (z 4) (z 1).toNat (f 1) (f 0) (z 5) (diffF (z 1).toNat (f 1) (f 0) (z 5)) = mSk M M.2.2.2.2.2.1 (mD M M.2.2.2.2.2.1) := by
    rw [hD, r3, r4, r5, show (z 1).toNat = M.2.1.length by omega]
    exact skX_study (n := (M.1.length : Int)) (by omega) r1.2 (fun j hj => r0.2 j (by omega)) hd ⟨o5, by omega⟩
  refine ⟨hs, trivial, r0, r1, ?_, r3, r4, ?_, ?_, ?_⟩
  · have := look_rep r2 e2
    rw [hD, r5] at this
    exact this
  · show z 5 + _ = _
    rw [hs, r5]
    rfl
  · show z 6 + 1 = _
    rw [r6]
    rfl
  · show cp1 = _
    rw [e1, hD, r7, q1]
    rfl
theorem RS_fin {z : Nat → Int} {f : Nat → Nat → Int32} {M : MS} (hR : RS z f M) (hM : MOk M) {B Kf : Nat → Int} {pl1 lk1 cp1 nf1 : Int} {Ff1 : Nat → Int32}
    (e1 : pl1 = (runS (z 0).toNat (z 1).toNat (f 1) (f 0) (skX (studyB (z 1).toNat (f 1) B Kf 0) (studyK (z 1).toNat (f 1) B Kf) (z 3) (z 4) (z 1).toNat (f 1) (f 0)) 60 (z 5, z 6, z 7, M.2.2.1)).1.1)
    (e2 : lk1 = (runS (z 0).toNat (z 1).toNat (f 1) (f 0) (skX (studyB (z 1).toNat (f 1) B Kf 0) (studyK (z 1).toNat (f 1) B Kf) (z 3) (z 4) (z 1).toNat (f 1) (f 0)) 60 (z 5, z 6, z 7, M.2.2.1)).1.2.1)
    (e3 : cp1 = (runS (z 0).toNat (z 1).toNat (f 1) (f 0) (skX (studyB (z 1).toNat (f 1) B Kf 0) (studyK (z 1).toNat (f 1) B Kf) (z 3) (z 4) (z 1).toNat (f 1) (f 0)) 60 (z 5, z 6, z 7, M.2.2.1)).1.2.2.1)
    (e4 : Rep nf1 Ff1 (runS (z 0).toNat (z 1).toNat (f 1) (f 0) (skX (studyB (z 1).toNat (f 1) B Kf 0) (studyK (z 1).toNat (f 1) B Kf) (z 3) (z 4) (z 1).toNat (f 1) (f 0)) 60 (z 5, z 6, z 7, M.2.2.1)).1.2.2.2) :
    (runS (z 0).toNat (z 1).toNat (f 1) (f 0) (skX (studyB (z 1).toNat (f 1) B Kf 0) (studyK (z 1).toNat (f 1) B Kf) (z 3) (z 4) (z 1).toNat (f 1) (f 0)) 60 (z 5, z 6, z 7, M.2.2.1)).2 = (mRun M).2 ∧ RS (zL [z 0, z 1, nf1, z 3, z 4, pl1, lk1, cp1]) (fL [f 0, f 1, Ff1]) (mOf M (mRun M).1) := by
  obtain ⟨r0, r1, r2, r3, r4, r5, r6, r7⟩ := hR
  obtain ⟨o1, o2, o3, o4, o5, _⟩ := hM
  have hr := run_study r0 r1 (B := B) (K := Kf) (lr := z 3) (er := z 4) o2 60 (z 5, z 6, z 7, M.2.2.1) (by show 0 ≤ z 5; omega)
  rw [hr, r3, r4, r5, r6, r7] at e1 e2 e3 e4
  refine ⟨by rw [hr, r3, r4, r5, r6, r7]; rfl, r0, r1, e4, r3, r4, e1, e2, e3⟩

set_option maxHeartbeats 4000000 in
theorem c_X1_keepA (l : Launch) (D : va_G) (cy : Nat → ClassId) (ad : Nat → Nat) (nx : Int) (ct : Int) (Zh : Nat → Nat → Int) (Fh : Nat → Nat → Nat → Int32) (h : List MS) (z : Nat → Int) (f : Nat → Nat → Int32) (M : MS) (hR : RS z f M) (hM : MOk M) (hH : RXH nx ct Zh Fh h) : Cv l D cy yX1_keep wsX1_keep 3 64 [.ref (ad 18), .ref (ad 1)] (List.flatten [wHb ad ct, wKb cy ad nx, wSt cy ad 20 (Zh 0) (Fh 0), wSt cy ad 27 (Zh 1) (Fh 1), wSt cy ad 34 (Zh 2) (Fh 2), wSt cy ad 41 (Zh 3) (Fh 3), wSt cy ad 48 (Zh 4) (Fh 4), wSt cy ad 55 (Zh 5) (Fh 5), wSt cy ad 1 z f]) (fun (u : Int × Int × (Nat → Nat → Int) × (Nat → Nat → Nat → Int32)) => RXH u.1 u.2.1 u.2.2.1 u.2.2.2 (pushH h M)) (fun u : Int × Int × (Nat → Nat → Int) × (Nat → Nat → Nat → Int32) => (List.flatten [wHb ad u.2.1, wKb cy ad u.1, wSt cy ad 20 (u.2.2.1 0) (u.2.2.2 0), wSt cy ad 27 (u.2.2.1 1) (u.2.2.2 1), wSt cy ad 34 (u.2.2.1 2) (u.2.2.2 2), wSt cy ad 41 (u.2.2.1 3) (u.2.2.2 3), wSt cy ad 48 (u.2.2.1 4) (u.2.2.2 4), wSt cy ad 55 (u.2.2.1 5) (u.2.2.2 5), wSt cy ad 1 z f])) := by
  have hz := SB_of hR hM
  have hn := hH.1
  exact Cv.tell (c_X1_keepF l D cy ad nx ct Zh Fh z f hz ⟨hH.1, hH.2.1, by have := hH.2.2.1; omega, by have := hH.2.2.1; have := hH.2.2.2.1; omega⟩) (fun g hg => ⟨(_, _, zset Zh nx.toNat z, zset Fh nx.toNat g), RXH_push hH hM (hR.cg hg), rfl⟩)
set_option maxHeartbeats 4000000 in
theorem c_X1_giveA (l : Launch) (D : va_G) (cy : Nat → ClassId) (ad : Nat → Nat) (nx : Int) (ct : Int) (Zh : Nat → Nat → Int) (Fh : Nat → Nat → Nat → Int32) (h : List MS) (z : Nat → Int) (f : Nat → Nat → Int32) (hH : RXH nx ct Zh Fh h) (hn : ¬ h.length = 0) : Cv l D cy yX1_giveBack wsX1_giveBack 3 64 [.ref (ad 18), .ref (ad 1)] (List.flatten [wHb ad ct, wKb cy ad nx, wSt cy ad 20 (Zh 0) (Fh 0), wSt cy ad 27 (Zh 1) (Fh 1), wSt cy ad 34 (Zh 2) (Fh 2), wSt cy ad 41 (Zh 3) (Fh 3), wSt cy ad 48 (Zh 4) (Fh 4), wSt cy ad 55 (Zh 5) (Fh 5), wSt cy ad 1 z f]) (fun (u : Int × Int × (Nat → Int) × (Nat → Nat → Int32)) => RXH u.1 u.2.1 Zh Fh (h.take (h.length - 1)) ∧ ∀ M2 : MS, h[h.length - 1]? = some M2 → RS u.2.2.1 u.2.2.2 M2) (fun u : Int × Int × (Nat → Int) × (Nat → Nat → Int32) => (List.flatten [wHb ad u.2.1, wKb cy ad u.1, wSt cy ad 20 (Zh 0) (Fh 0), wSt cy ad 27 (Zh 1) (Fh 1), wSt cy ad 34 (Zh 2) (Fh 2), wSt cy ad 41 (Zh 3) (Fh 3), wSt cy ad 48 (Zh 4) (Fh 4), wSt cy ad 55 (Zh 5) (Fh 5), wSt cy ad 1 u.2.2.1 u.2.2.2])) := by
  obtain ⟨M2, e2, r2, m2, hp⟩ := RXH_pop hH hn
  exact Cv.tell (c_X1_giveF l D cy ad nx ct Zh Fh z f (SB_of r2 m2) ⟨hH.1, hH.2.1, by have := hH.2.2.1; omega, by have := hH.2.2.1; have := hH.2.2.2.1; omega⟩) (fun g hg => ⟨(_, _, _, g), ⟨hp, fun M3 e3 => by
    rw [e2] at e3
    rw [← Option.some.inj e3]
    exact r2.cg hg⟩, rfl⟩)
set_option maxHeartbeats 4000000 in
set_option maxRecDepth 100000 in
theorem c_X4_endSkip (l : Launch) (hfl : l.stackTraces = false) (D : va_G) (cy : Nat → ClassId) (ad : Nat → Nat) (z : Nat → Int) (f : Nat → Nat → Int32) (M : MS) (en : Int) (B : Nat → Int) (Kf : Nat → Int) (x : Int) (hR : RS z f M) (hM : MOk M) (hk : ∀ j : Nat, 0 ≤ Kf j ∧ Kf j ≤ 17) (hx1 : -2147483648 ≤ x ∧ x < 2147483648) : Xi l D cy yX4_endSkip wsX4_endSkip 7 113 1 [.ref (ad 0), .int (iI x)] (List.flatten [wTop ad, wSt cy ad 1 z f, wEn cy ad en B Kf]) (fun (r : Int32) (u : Int × (Nat → Int) × (Nat → Int)) => ((0 ≤ x ∧ x < (M.2.1.length : Int)) ∧ r = iI (endF M.2.1.length (gl M.2.1) x.toNat : Int)) ∧ ∀ j : Nat, 0 ≤ u.2.2 j ∧ u.2.2 j ≤ 17) (fun u : Int × (Nat → Int) × (Nat → Int) => (List.flatten [wTop ad, wSt cy ad 1 z f, wEn cy ad u.1 u.2.1 u.2.2])) (fun E => E = xIOB ∧ ¬ (0 ≤ x ∧ x < (M.2.1.length : Int))) := by
  refine Xi_of (cc := cX4_endSkip) (maxL := 2) (ret := (some .int)) (by decide) rfl rfl ?_
  intro p e s m args below meth c A hx hb hr hts hown hlocks hml htab hP hK hD hT hC hZ hA ls hl
  have hS : va_S A s.heap s.heap [] := va_S.rf
  have hl : lv_has ls 2 [(0, .ref (ad 0)), (1, .int (iI x))] := hl
  have hP : va_P D vwCl (List.flatten [wTop ad, wSt cy ad 1 z f, wEn cy ad en B Kf]) s.heap := hP
  have hD : va_D A (List.flatten [wTop ad, wSt cy ad 1 z f, wEn cy ad en B Kf]) := hD
  have hiX3 : ∀ w ∈ wsX30, w ∈ wsX4_endSkip := by decide +kernel
  have hiX4 : ∀ w ∈ wsX40, w ∈ wsX4_endSkip := by decide +kernel
  obtain ⟨r0, r1, r2, r3, r4, r5, r6, r7⟩ := id hR
  obtain ⟨o1, o2, o3, o4, o5, o6, o7, o8, o9, o10, o11, o12, o13, o14, o15⟩ := id hM
  have q0 := r0.1
  have q1 := r1.1
  have q2 := r2.1
  have hsr := study_rng (m := (z 1).toNat) (W := f 1) (B := B) (by omega) hk
  refine lv_aload_n hx hb dX4_endSkip_0 rfl (lv_at hl 0 rfl) ?_
  refine va_get (D := D) (ci := 4) (v := .ref (ad 1)) (C := RX4) (T := TX4) (N := 7) hx hb hts hiX4 hown hK hP 0 rfl rfl 0 (by decide) (hts (.fieldLink RX4 10 "BackwardSearch" "state" "LBackwardSearch$State;") (by decide +kernel)) (fun _ h9 => h9) rfl dX4_endSkip_1 ?_
  refine va_getN (D := D) (ci := 3) (v := .ref (ad 4)) (C := RX3) (T := TX3) (N := 8) (host := RX4) hx hb hts hiX3 hown hK hP 1 rfl rfl 1 (by decide) (va_Nw.use rfl (hT.1 _ (List.mem_of_getElem? (i := 1) rfl))) (fun _ h9 => h9) rfl dX4_endSkip_4 ?_
  refine lv_iload_n hx hb dX4_endSkip_7 rfl (lv_at hl 1 rfl) ?_
  refine x_gSv (n := 2) (As := [.ref (ad 4), .int (iI x)]) (rest := []) ⟨hx, hb, hml, hown, hts⟩ (c_X4_refuseUnlessIn l hfl D cy (ad 4) (ad 5) (z 1) x (by first | assumption | omega) (by first | assumption | omega)) gX4_endSkip_X4_refuseUnlessIn rfl (by decide +kernel) ⟨Nat.le_of_ble_eq_true rfl, Nat.le_of_ble_eq_true rfl⟩ hK hT hC hZ htab hlocks hS (Fp.same hP hD hS hA [4] rfl rfl (fun _ => rfl)) (fun _ => rfl) (fun E hE => ⟨hE.1, fun h => hE.2 (by omega)⟩) () rfl hl.1 rfl (Nat.le_of_ble_eq_true rfl) dX4_endSkip_8 ⟨by decide, by decide⟩ (by decide) (by decide) (fun  u_1 H locs hw_1 hP hD hS => ?_)
  have hw_1 : 0 ≤ x ∧ x < (z 1) := hw_1
  have hP : va_P D vwCl (List.flatten [wTop ad, wSt cy ad 1 z f, wEn cy ad en B Kf]) H := hP
  have hD : va_D A (List.flatten [wTop ad, wSt cy ad 1 z f, wEn cy ad en B Kf]) := hD
  refine lv_aload_n hx hb dX4_endSkip_11 rfl (lv_at hl 0 rfl) ?_
  refine va_get (D := D) (ci := 4) (v := .ref (ad 15)) (C := RX4) (T := TX4) (N := 7) hx hb hts hiX4 hown hK hP 0 rfl rfl 2 (by decide) (hts (.fieldLink RX4 22 "BackwardSearch" "ends" "LBackwardSearch$Ends;") (by decide +kernel)) (fun _ h9 => h9) rfl dX4_endSkip_12 ?_
  refine lv_aload_n hx hb dX4_endSkip_15 rfl (lv_at hl 0 rfl) ?_
  refine va_get (D := D) (ci := 4) (v := .ref (ad 1)) (C := RX4) (T := TX4) (N := 7) hx hb hts hiX4 hown hK hP 0 rfl rfl 0 (by decide) (hts (.fieldLink RX4 10 "BackwardSearch" "state" "LBackwardSearch$State;") (by decide +kernel)) (fun _ h9 => h9) rfl dX4_endSkip_16 ?_
  refine va_getN (D := D) (ci := 3) (v := .ref (ad 4)) (C := RX3) (T := TX3) (N := 8) (host := RX4) hx hb hts hiX3 hown hK hP 1 rfl rfl 1 (by decide) (va_Nw.use rfl (hT.1 _ (List.mem_of_getElem? (i := 1) rfl))) (fun _ h9 => h9) rfl dX4_endSkip_19 ?_
  refine z_gVv (n := 1) (b := ad 15) (As := [.ref (ad 4)]) (rest := []) ⟨hx, hb, hml, hown, hts⟩ (c_X0_studyB l D cy (ad 15) (ad 16) (ad 17) en B Kf (ad 1) (ad 2) (ad 3) (ad 4) (ad 5) (ad 6) (ad 7) (z 0) (f 0) (z 1) (f 1) (z 2) (f 2) (z 3) (z 4) (z 5) (z 6) (z 7) (by first | assumption | omega) (hk)) gX4_endSkip_X0_study rfl (by decide +kernel) ⟨Nat.le_of_ble_eq_true rfl, Nat.le_of_ble_eq_true rfl⟩ hK hT hP hS (Fp.blocks hP hD hS hA (cs := [wEn cy ad en B Kf, wSt cy ad 1 z f]) (nb := fun (u : (Nat → Int) × (Nat → Int)) => [wEn cy ad (z 1) u.1 u.2, wSt cy ad 1 (zL [(z 0), (z 1), (z 2), (z 3), (z 4), (z 5), (z 6), (z 7)]) (fL [(f 0), (f 1), (f 2)])]) (nbs := fun (u : (Nat → Int) × (Nat → Int)) => [wTop ad, wSt cy ad 1 (zL [(z 0), (z 1), (z 2), (z 3), (z 4), (z 5), (z 6), (z 7)]) (fL [(f 0), (f 1), (f 2)]), wEn cy ad (z 1) u.1 u.2]) [2, 1] rfl rfl rfl (fun _ => rfl) (fun _ => rfl) (fun _ => rfl)) 8 0 rfl rfl rfl rfl hl.1 rfl (Nat.le_of_ble_eq_true rfl) dX4_endSkip_22 ⟨by decide, by decide⟩ (fun  u_2 H locs hw_2 hP hD hS => ?_)
  obtain ⟨B1_2, K1_2⟩ := u_2
  have hw_2 : B1_2 = studyB (z 1).toNat (f 1) B Kf ∧ K1_2 = studyK (z 1).toNat (f 1) B Kf := hw_2
  have hP : va_P D vwCl (List.flatten [wTop ad, wSt cy ad 1 (zL [(z 0), (z 1), (z 2), (z 3), (z 4), (z 5), (z 6), (z 7)]) (fL [(f 0), (f 1), (f 2)]), wEn cy ad (z 1) B1_2 K1_2]) H := hP
  have hD : va_D A (List.flatten [wTop ad, wSt cy ad 1 (zL [(z 0), (z 1), (z 2), (z 3), (z 4), (z 5), (z 6), (z 7)]) (fL [(f 0), (f 1), (f 2)]), wEn cy ad (z 1) B1_2 K1_2]) := hD
  obtain ⟨rfl, rfl⟩ := hw_2
  refine lv_aload_n hx hb dX4_endSkip_25 rfl (lv_at hl 0 rfl) ?_
  refine va_get (D := D) (ci := 4) (v := .ref (ad 15)) (C := RX4) (T := TX4) (N := 7) hx hb hts hiX4 hown hK hP 0 rfl rfl 2 (by decide) (hts (.fieldLink RX4 22 "BackwardSearch" "ends" "LBackwardSearch$Ends;") (by decide +kernel)) (fun _ h9 => h9) rfl dX4_endSkip_26 ?_
  refine lv_iload_n hx hb dX4_endSkip_29 rfl (lv_at hl 1 rfl) ?_
  refine z_gVi (n := 1) (b := ad 15) (As := [.int (iI x)]) (rest := []) ⟨hx, hb, hml, hown, hts⟩ (c_X0_skipAt l D cy (ad 15) (ad 16) (ad 17) (z 1) (studyK (z 1).toNat (f 1) B Kf) x (by first | assumption | omega)) gX4_endSkip_X0_skipAt rfl (by decide +kernel) ⟨Nat.le_of_ble_eq_true rfl, Nat.le_of_ble_eq_true rfl⟩ hK hT hP hS (Fp.same hP hD hS hA [8, 10] rfl rfl (fun _ => rfl)) 8 0 rfl rfl rfl rfl hl.1 rfl (Nat.le_of_ble_eq_true rfl) dX4_endSkip_30 ⟨by decide, by decide⟩ (fun r_3 u_3 H locs hw_3 hP hD hS => ?_)
  have hw_3 : r_3 = iI ((studyK (z 1).toNat (f 1) B Kf) (x + 1).toNat) := hw_3
  have hP : va_P D vwCl (List.flatten [wTop ad, wSt cy ad 1 (zL [(z 0), (z 1), (z 2), (z 3), (z 4), (z 5), (z 6), (z 7)]) (fL [(f 0), (f 1), (f 2)]), wEn cy ad (z 1) (studyB (z 1).toNat (f 1) B Kf) (studyK (z 1).toNat (f 1) B Kf)]) H := hP
  have hD : va_D A (List.flatten [wTop ad, wSt cy ad 1 (zL [(z 0), (z 1), (z 2), (z 3), (z 4), (z 5), (z 6), (z 7)]) (fL [(f 0), (f 1), (f 2)]), wEn cy ad (z 1) (studyB (z 1).toNat (f 1) B Kf) (studyK (z 1).toNat (f 1) B Kf)]) := hD
  obtain rfl := hw_3
  exact x_iret hx hb hr hlocks hS ((z 1), studyB (z 1).toNat (f 1) B Kf, studyK (z 1).toNat (f 1) B Kf) (show ((0 ≤ x ∧ x < (M.2.1.length : Int)) ∧ (iI ((studyK (z 1).toNat (f 1) B Kf) (x + 1).toNat)) = iI (endF M.2.1.length (gl M.2.1) x.toNat : Int)) ∧ ∀ j : Nat, 0 ≤ (studyK (z 1).toNat (f 1) B Kf) j ∧ (studyK (z 1).toNat (f 1) B Kf) j ≤ 17 from ⟨⟨by omega, congrArg iI (study_end r1 (by omega))⟩, hsr.1⟩) hP dX4_endSkip_33 (by decide) (by decide)
set_option maxHeartbeats 4000000 in
set_option maxRecDepth 100000 in
theorem c_X4_border (l : Launch) (D : va_G) (cy : Nat → ClassId) (ad : Nat → Nat) (z : Nat → Int) (f : Nat → Nat → Int32) (M : MS) (en : Int) (B : Nat → Int) (Kf : Nat → Int) (hR : RS z f M) (hM : MOk M) (hk : ∀ j : Nat, 0 ≤ Kf j ∧ Kf j ≤ 17) : Ci l D cy yX4_border wsX4_border 5 112 [.ref (ad 0)] (List.flatten [wTop ad, wSt cy ad 1 z f, wEn cy ad en B Kf]) (fun (r : Int32) (u : Int × (Nat → Int) × (Nat → Int)) => r = iI ((M.2.1.length : Int) - (perF M.2.1.length (gl M.2.1) : Int)) ∧ ∀ j : Nat, 0 ≤ u.2.2 j ∧ u.2.2 j ≤ 17) (fun u : Int × (Nat → Int) × (Nat → Int) => (List.flatten [wTop ad, wSt cy ad 1 z f, wEn cy ad u.1 u.2.1 u.2.2])) := by
  refine Ci_of (cc := cX4_border) (maxL := 1) (ret := (some .int)) (by decide) rfl rfl ?_
  intro p e s m args below meth c A hx hb hr hts hown hlocks hml hP hK hD hT hA ls hl
  have hS : va_S A s.heap s.heap [] := va_S.rf
  have hl : lv_has ls 1 [(0, .ref (ad 0))] := hl
  have hP : va_P D vwCl (List.flatten [wTop ad, wSt cy ad 1 z f, wEn cy ad en B Kf]) s.heap := hP
  have hD : va_D A (List.flatten [wTop ad, wSt cy ad 1 z f, wEn cy ad en B Kf]) := hD
  have hiX3 : ∀ w ∈ wsX30, w ∈ wsX4_border := by decide +kernel
  have hiX4 : ∀ w ∈ wsX40, w ∈ wsX4_border := by decide +kernel
  obtain ⟨r0, r1, r2, r3, r4, r5, r6, r7⟩ := id hR
  obtain ⟨o1, o2, o3, o4, o5, o6, o7, o8, o9, o10, o11, o12, o13, o14, o15⟩ := id hM
  have q0 := r0.1
  have q1 := r1.1
  have q2 := r2.1
  have hsr := study_rng (m := (z 1).toNat) (W := f 1) (B := B) (by omega) hk
  refine lv_aload_n hx hb dX4_border_0 rfl (lv_at hl 0 rfl) ?_
  refine va_get (D := D) (ci := 4) (v := .ref (ad 15)) (C := RX4) (T := TX4) (N := 7) hx hb hts hiX4 hown hK hP 0 rfl rfl 2 (by decide) (hts (.fieldLink RX4 22 "BackwardSearch" "ends" "LBackwardSearch$Ends;") (by decide +kernel)) (fun _ h9 => h9) rfl dX4_border_1 ?_
  refine lv_aload_n hx hb dX4_border_4 rfl (lv_at hl 0 rfl) ?_
  refine va_get (D := D) (ci := 4) (v := .ref (ad 1)) (C := RX4) (T := TX4) (N := 7) hx hb hts hiX4 hown hK hP 0 rfl rfl 0 (by decide) (hts (.fieldLink RX4 10 "BackwardSearch" "state" "LBackwardSearch$State;") (by decide +kernel)) (fun _ h9 => h9) rfl dX4_border_5 ?_
  refine va_getN (D := D) (ci := 3) (v := .ref (ad 4)) (C := RX3) (T := TX3) (N := 8) (host := RX4) hx hb hts hiX3 hown hK hP 1 rfl rfl 1 (by decide) (va_Nw.use rfl (hT.1 _ (List.mem_of_getElem? (i := 1) rfl))) (fun _ h9 => h9) rfl dX4_border_8 ?_
  refine z_gVv (n := 1) (b := ad 15) (As := [.ref (ad 4)]) (rest := []) ⟨hx, hb, hml, hown, hts⟩ (c_X0_studyB l D cy (ad 15) (ad 16) (ad 17) en B Kf (ad 1) (ad 2) (ad 3) (ad 4) (ad 5) (ad 6) (ad 7) (z 0) (f 0) (z 1) (f 1) (z 2) (f 2) (z 3) (z 4) (z 5) (z 6) (z 7) (by first | assumption | omega) (hk)) gX4_border_X0_study rfl (by decide +kernel) ⟨Nat.le_of_ble_eq_true rfl, Nat.le_of_ble_eq_true rfl⟩ hK hT hP hS (Fp.blocks hP hD hS hA (cs := [wEn cy ad en B Kf, wSt cy ad 1 z f]) (nb := fun (u : (Nat → Int) × (Nat → Int)) => [wEn cy ad (z 1) u.1 u.2, wSt cy ad 1 (zL [(z 0), (z 1), (z 2), (z 3), (z 4), (z 5), (z 6), (z 7)]) (fL [(f 0), (f 1), (f 2)])]) (nbs := fun (u : (Nat → Int) × (Nat → Int)) => [wTop ad, wSt cy ad 1 (zL [(z 0), (z 1), (z 2), (z 3), (z 4), (z 5), (z 6), (z 7)]) (fL [(f 0), (f 1), (f 2)]), wEn cy ad (z 1) u.1 u.2]) [2, 1] rfl rfl rfl (fun _ => rfl) (fun _ => rfl) (fun _ => rfl)) 8 0 rfl rfl rfl rfl hl.1 rfl (Nat.le_of_ble_eq_true rfl) dX4_border_11 ⟨Nat.zero_le _, Nat.zero_le _⟩ (fun  u_1 H locs hw_1 hP hD hS => ?_)
  obtain ⟨B1_1, K1_1⟩ := u_1
  have hw_1 : B1_1 = studyB (z 1).toNat (f 1) B Kf ∧ K1_1 = studyK (z 1).toNat (f 1) B Kf := hw_1
  have hP : va_P D vwCl (List.flatten [wTop ad, wSt cy ad 1 (zL [(z 0), (z 1), (z 2), (z 3), (z 4), (z 5), (z 6), (z 7)]) (fL [(f 0), (f 1), (f 2)]), wEn cy ad (z 1) B1_1 K1_1]) H := hP
  have hD : va_D A (List.flatten [wTop ad, wSt cy ad 1 (zL [(z 0), (z 1), (z 2), (z 3), (z 4), (z 5), (z 6), (z 7)]) (fL [(f 0), (f 1), (f 2)]), wEn cy ad (z 1) B1_1 K1_1]) := hD
  obtain ⟨rfl, rfl⟩ := hw_1
  refine lv_aload_n hx hb dX4_border_14 rfl (lv_at hl 0 rfl) ?_
  refine va_get (D := D) (ci := 4) (v := .ref (ad 1)) (C := RX4) (T := TX4) (N := 7) hx hb hts hiX4 hown hK hP 0 rfl rfl 0 (by decide) (hts (.fieldLink RX4 10 "BackwardSearch" "state" "LBackwardSearch$State;") (by decide +kernel)) (fun _ h9 => h9) rfl dX4_border_15 ?_
  refine va_getN (D := D) (ci := 3) (v := .ref (ad 4)) (C := RX3) (T := TX3) (N := 8) (host := RX4) hx hb hts hiX3 hown hK hP 1 rfl rfl 1 (by decide) (va_Nw.use rfl (hT.1 _ (List.mem_of_getElem? (i := 1) rfl))) (fun _ h9 => h9) rfl dX4_border_18 ?_
  refine z_gVi (n := 0) (b := (ad 4)) (As := []) (rest := []) ⟨hx, hb, hml, hown, hts⟩ (c_X2_size l D cy (ad 4) (ad 5) (z 1) ) gX4_border_X2_size rfl (by decide +kernel) ⟨Nat.le_of_ble_eq_true rfl, Nat.le_of_ble_eq_true rfl⟩ hK hT hP hS (Fp.same hP hD hS hA [4] rfl rfl (fun _ => rfl)) 4 2 rfl rfl rfl rfl hl.1 rfl (Nat.le_of_ble_eq_true rfl) dX4_border_21 ⟨Nat.zero_le _, Nat.zero_le _⟩ (fun r_2 u_2 H locs hw_2 hP hD hS => ?_)
  have hw_2 : r_2 = iI (z 1) := hw_2
  have hP : va_P D vwCl (List.flatten [wTop ad, wSt cy ad 1 (zL [(z 0), (z 1), (z 2), (z 3), (z 4), (z 5), (z 6), (z 7)]) (fL [(f 0), (f 1), (f 2)]), wEn cy ad (z 1) (studyB (z 1).toNat (f 1) B Kf) (studyK (z 1).toNat (f 1) B Kf)]) H := hP
  have hD : va_D A (List.flatten [wTop ad, wSt cy ad 1 (zL [(z 0), (z 1), (z 2), (z 3), (z 4), (z 5), (z 6), (z 7)]) (fL [(f 0), (f 1), (f 2)]), wEn cy ad (z 1) (studyB (z 1).toNat (f 1) B Kf) (studyK (z 1).toNat (f 1) B Kf)]) := hD
  obtain rfl := hw_2
  refine lv_aload_n hx hb dX4_border_24 rfl (lv_at hl 0 rfl) ?_
  refine va_get (D := D) (ci := 4) (v := .ref (ad 15)) (C := RX4) (T := TX4) (N := 7) hx hb hts hiX4 hown hK hP 0 rfl rfl 2 (by decide) (hts (.fieldLink RX4 22 "BackwardSearch" "ends" "LBackwardSearch$Ends;") (by decide +kernel)) (fun _ h9 => h9) rfl dX4_border_25 ?_
  refine z_gVi (n := 0) (b := ad 15) (As := []) (rest := [.int (iI (z 1))]) ⟨hx, hb, hml, hown, hts⟩ (c_X0_wordPeriod l D cy (ad 15) (ad 16) (ad 17) (z 1) (studyB (z 1).toNat (f 1) B Kf) (by first | assumption | omega)) gX4_border_X0_wordPeriod rfl (by decide +kernel) ⟨Nat.le_of_ble_eq_true rfl, Nat.le_of_ble_eq_true rfl⟩ hK hT hP hS (Fp.same hP hD hS hA [8, 9] rfl rfl (fun _ => rfl)) 8 0 rfl rfl rfl rfl hl.1 rfl (Nat.le_of_ble_eq_true rfl) dX4_border_28 ⟨Nat.zero_le _, Nat.zero_le _⟩ (fun r_3 u_3 H locs hw_3 hP hD hS => ?_)
  have hw_3 : r_3 = iI (if (z 1) = 0 then 0 else (studyB (z 1).toNat (f 1) B Kf) 0) := hw_3
  have hP : va_P D vwCl (List.flatten [wTop ad, wSt cy ad 1 (zL [(z 0), (z 1), (z 2), (z 3), (z 4), (z 5), (z 6), (z 7)]) (fL [(f 0), (f 1), (f 2)]), wEn cy ad (z 1) (studyB (z 1).toNat (f 1) B Kf) (studyK (z 1).toNat (f 1) B Kf)]) H := hP
  have hD : va_D A (List.flatten [wTop ad, wSt cy ad 1 (zL [(z 0), (z 1), (z 2), (z 3), (z 4), (z 5), (z 6), (z 7)]) (fL [(f 0), (f 1), (f 2)]), wEn cy ad (z 1) (studyB (z 1).toNat (f 1) B Kf) (studyK (z 1).toNat (f 1) B Kf)]) := hD
  obtain rfl := hw_3
  refine z_sub hx hb dX4_border_31 ?_
  exact z_iret hx hb hr hlocks hS ((z 1), studyB (z 1).toNat (f 1) B Kf, studyK (z 1).toNat (f 1) B Kf) (show (iI ((z 1) - (if (z 1) = 0 then 0 else (studyB (z 1).toNat (f 1) B Kf) 0))) = iI ((M.2.1.length : Int) - (perF M.2.1.length (gl M.2.1) : Int)) ∧ ∀ j : Nat, 0 ≤ (studyK (z 1).toNat (f 1) B Kf) j ∧ (studyK (z 1).toNat (f 1) B Kf) j ≤ 17 from ⟨(congrArg iI (by rw [study_per r1]; omega)), hsr.1⟩) hP dX4_border_32
set_option maxHeartbeats 4000000 in
set_option maxRecDepth 100000 in
theorem c_X4_period (l : Launch) (D : va_G) (cy : Nat → ClassId) (ad : Nat → Nat) (z : Nat → Int) (f : Nat → Nat → Int32) (M : MS) (en : Int) (B : Nat → Int) (Kf : Nat → Int) (hR : RS z f M) (hM : MOk M) (hk : ∀ j : Nat, 0 ≤ Kf j ∧ Kf j ≤ 17) : Ci l D cy yX4_period wsX4_period 5 112 [.ref (ad 0)] (List.flatten [wTop ad, wSt cy ad 1 z f, wEn cy ad en B Kf]) (fun (r : Int32) (u : Int × (Nat → Int) × (Nat → Int)) => r = iI ((perF M.2.1.length (gl M.2.1) : Int)) ∧ ∀ j : Nat, 0 ≤ u.2.2 j ∧ u.2.2 j ≤ 17) (fun u : Int × (Nat → Int) × (Nat → Int) => (List.flatten [wTop ad, wSt cy ad 1 z f, wEn cy ad u.1 u.2.1 u.2.2])) := by
  refine Ci_of (cc := cX4_period) (maxL := 1) (ret := (some .int)) (by decide) rfl rfl ?_
  intro p e s m args below meth c A hx hb hr hts hown hlocks hml hP hK hD hT hA ls hl
  have hS : va_S A s.heap s.heap [] := va_S.rf
  have hl : lv_has ls 1 [(0, .ref (ad 0))] := hl
  have hP : va_P D vwCl (List.flatten [wTop ad, wSt cy ad 1 z f, wEn cy ad en B Kf]) s.heap := hP
  have hD : va_D A (List.flatten [wTop ad, wSt cy ad 1 z f, wEn cy ad en B Kf]) := hD
  have hiX3 : ∀ w ∈ wsX30, w ∈ wsX4_period := by decide +kernel
  have hiX4 : ∀ w ∈ wsX40, w ∈ wsX4_period := by decide +kernel
  obtain ⟨r0, r1, r2, r3, r4, r5, r6, r7⟩ := id hR
  obtain ⟨o1, o2, o3, o4, o5, o6, o7, o8, o9, o10, o11, o12, o13, o14, o15⟩ := id hM
  have q0 := r0.1
  have q1 := r1.1
  have q2 := r2.1
  have hsr := study_rng (m := (z 1).toNat) (W := f 1) (B := B) (by omega) hk
  refine lv_aload_n hx hb dX4_period_0 rfl (lv_at hl 0 rfl) ?_
  refine va_get (D := D) (ci := 4) (v := .ref (ad 15)) (C := RX4) (T := TX4) (N := 7) hx hb hts hiX4 hown hK hP 0 rfl rfl 2 (by decide) (hts (.fieldLink RX4 22 "BackwardSearch" "ends" "LBackwardSearch$Ends;") (by decide +kernel)) (fun _ h9 => h9) rfl dX4_period_1 ?_
  refine lv_aload_n hx hb dX4_period_4 rfl (lv_at hl 0 rfl) ?_
  refine va_get (D := D) (ci := 4) (v := .ref (ad 1)) (C := RX4) (T := TX4) (N := 7) hx hb hts hiX4 hown hK hP 0 rfl rfl 0 (by decide) (hts (.fieldLink RX4 10 "BackwardSearch" "state" "LBackwardSearch$State;") (by decide +kernel)) (fun _ h9 => h9) rfl dX4_period_5 ?_
  refine va_getN (D := D) (ci := 3) (v := .ref (ad 4)) (C := RX3) (T := TX3) (N := 8) (host := RX4) hx hb hts hiX3 hown hK hP 1 rfl rfl 1 (by decide) (va_Nw.use rfl (hT.1 _ (List.mem_of_getElem? (i := 1) rfl))) (fun _ h9 => h9) rfl dX4_period_8 ?_
  refine z_gVv (n := 1) (b := ad 15) (As := [.ref (ad 4)]) (rest := []) ⟨hx, hb, hml, hown, hts⟩ (c_X0_studyB l D cy (ad 15) (ad 16) (ad 17) en B Kf (ad 1) (ad 2) (ad 3) (ad 4) (ad 5) (ad 6) (ad 7) (z 0) (f 0) (z 1) (f 1) (z 2) (f 2) (z 3) (z 4) (z 5) (z 6) (z 7) (by first | assumption | omega) (hk)) gX4_period_X0_study rfl (by decide +kernel) ⟨Nat.le_of_ble_eq_true rfl, Nat.le_of_ble_eq_true rfl⟩ hK hT hP hS (Fp.blocks hP hD hS hA (cs := [wEn cy ad en B Kf, wSt cy ad 1 z f]) (nb := fun (u : (Nat → Int) × (Nat → Int)) => [wEn cy ad (z 1) u.1 u.2, wSt cy ad 1 (zL [(z 0), (z 1), (z 2), (z 3), (z 4), (z 5), (z 6), (z 7)]) (fL [(f 0), (f 1), (f 2)])]) (nbs := fun (u : (Nat → Int) × (Nat → Int)) => [wTop ad, wSt cy ad 1 (zL [(z 0), (z 1), (z 2), (z 3), (z 4), (z 5), (z 6), (z 7)]) (fL [(f 0), (f 1), (f 2)]), wEn cy ad (z 1) u.1 u.2]) [2, 1] rfl rfl rfl (fun _ => rfl) (fun _ => rfl) (fun _ => rfl)) 8 0 rfl rfl rfl rfl hl.1 rfl (Nat.le_of_ble_eq_true rfl) dX4_period_11 ⟨Nat.zero_le _, Nat.zero_le _⟩ (fun  u_1 H locs hw_1 hP hD hS => ?_)
  obtain ⟨B1_1, K1_1⟩ := u_1
  have hw_1 : B1_1 = studyB (z 1).toNat (f 1) B Kf ∧ K1_1 = studyK (z 1).toNat (f 1) B Kf := hw_1
  have hP : va_P D vwCl (List.flatten [wTop ad, wSt cy ad 1 (zL [(z 0), (z 1), (z 2), (z 3), (z 4), (z 5), (z 6), (z 7)]) (fL [(f 0), (f 1), (f 2)]), wEn cy ad (z 1) B1_1 K1_1]) H := hP
  have hD : va_D A (List.flatten [wTop ad, wSt cy ad 1 (zL [(z 0), (z 1), (z 2), (z 3), (z 4), (z 5), (z 6), (z 7)]) (fL [(f 0), (f 1), (f 2)]), wEn cy ad (z 1) B1_1 K1_1]) := hD
  obtain ⟨rfl, rfl⟩ := hw_1
  refine lv_aload_n hx hb dX4_period_14 rfl (lv_at hl 0 rfl) ?_
  refine va_get (D := D) (ci := 4) (v := .ref (ad 15)) (C := RX4) (T := TX4) (N := 7) hx hb hts hiX4 hown hK hP 0 rfl rfl 2 (by decide) (hts (.fieldLink RX4 22 "BackwardSearch" "ends" "LBackwardSearch$Ends;") (by decide +kernel)) (fun _ h9 => h9) rfl dX4_period_15 ?_
  refine z_gVi (n := 0) (b := ad 15) (As := []) (rest := []) ⟨hx, hb, hml, hown, hts⟩ (c_X0_wordPeriod l D cy (ad 15) (ad 16) (ad 17) (z 1) (studyB (z 1).toNat (f 1) B Kf) (by first | assumption | omega)) gX4_period_X0_wordPeriod rfl (by decide +kernel) ⟨Nat.le_of_ble_eq_true rfl, Nat.le_of_ble_eq_true rfl⟩ hK hT hP hS (Fp.same hP hD hS hA [8, 9] rfl rfl (fun _ => rfl)) 8 0 rfl rfl rfl rfl hl.1 rfl (Nat.le_of_ble_eq_true rfl) dX4_period_18 ⟨Nat.zero_le _, Nat.zero_le _⟩ (fun r_2 u_2 H locs hw_2 hP hD hS => ?_)
  have hw_2 : r_2 = iI (if (z 1) = 0 then 0 else (studyB (z 1).toNat (f 1) B Kf) 0) := hw_2
  have hP : va_P D vwCl (List.flatten [wTop ad, wSt cy ad 1 (zL [(z 0), (z 1), (z 2), (z 3), (z 4), (z 5), (z 6), (z 7)]) (fL [(f 0), (f 1), (f 2)]), wEn cy ad (z 1) (studyB (z 1).toNat (f 1) B Kf) (studyK (z 1).toNat (f 1) B Kf)]) H := hP
  have hD : va_D A (List.flatten [wTop ad, wSt cy ad 1 (zL [(z 0), (z 1), (z 2), (z 3), (z 4), (z 5), (z 6), (z 7)]) (fL [(f 0), (f 1), (f 2)]), wEn cy ad (z 1) (studyB (z 1).toNat (f 1) B Kf) (studyK (z 1).toNat (f 1) B Kf)]) := hD
  obtain rfl := hw_2
  exact z_iret hx hb hr hlocks hS ((z 1), studyB (z 1).toNat (f 1) B Kf, studyK (z 1).toNat (f 1) B Kf) (show (iI (if (z 1) = 0 then 0 else (studyB (z 1).toNat (f 1) B Kf) 0)) = iI ((perF M.2.1.length (gl M.2.1) : Int)) ∧ ∀ j : Nat, 0 ≤ (studyK (z 1).toNat (f 1) B Kf) j ∧ (studyK (z 1).toNat (f 1) B Kf) j ≤ 17 from ⟨(congrArg iI (study_per r1)), hsr.1⟩) hP dX4_period_21
set_option maxHeartbeats 4000000 in
set_option maxRecDepth 100000 in
theorem c_X4_tryToTheEnd (l : Launch) (D : va_G) (cy : Nat → ClassId) (ad : Nat → Nat) (z : Nat → Int) (f : Nat → Nat → Int32) (M : MS) (zt : Nat → Int) (ft : Nat → Nat → Int32) (en : Int) (B : Nat → Int) (Kf : Nat → Int) (x : Int) (y : Int) (hR : RS z f M) (hM : MOk M) (hk : ∀ j : Nat, 0 ≤ Kf j ∧ Kf j ≤ 17) (hxy : 0 ≤ x ∧ x ≤ 1 ∧ 0 ≤ y ∧ y ≤ 1) : Cv l D cy yX4_tryToTheEnd wsX4_tryToTheEnd 5 112 [.ref (ad 0), .int (iI x), .int (iI y)] (List.flatten [wTop ad, wSt cy ad 1 z f, wSt cy ad 8 zt ft, wEn cy ad en B Kf]) (fun (u : (Nat → Int) × (Nat → Nat → Int32) × Int × (Nat → Int) × (Nat → Int)) => RS u.1 u.2.1 (mOf (mRules M x y) (mRun (mRules M x y)).1) ∧ ∀ j : Nat, 0 ≤ u.2.2.2.2 j ∧ u.2.2.2.2 j ≤ 17) (fun u : (Nat → Int) × (Nat → Nat → Int32) × Int × (Nat → Int) × (Nat → Int) => (List.flatten [wTop ad, wSt cy ad 1 z f, wSt cy ad 8 u.1 u.2.1, wEn cy ad u.2.2.1 u.2.2.2.1 u.2.2.2.2])) := by
  refine Cv_of (cc := cX4_tryToTheEnd) (maxL := 3) (ret := none) (by decide) rfl rfl ?_
  intro p e s m args below meth c A hx hb hr hts hown hlocks hml hP hK hD hT hA ls hl
  have hS : va_S A s.heap s.heap [] := va_S.rf
  have hl : lv_has ls 3 [(0, .ref (ad 0)), (1, .int (iI x)), (2, .int (iI y))] := hl
  have hP : va_P D vwCl (List.flatten [wTop ad, wSt cy ad 1 z f, wSt cy ad 8 zt ft, wEn cy ad en B Kf]) s.heap := hP
  have hD : va_D A (List.flatten [wTop ad, wSt cy ad 1 z f, wSt cy ad 8 zt ft, wEn cy ad en B Kf]) := hD
  have hiX3 : ∀ w ∈ wsX30, w ∈ wsX4_tryToTheEnd := by decide +kernel
  have hiX4 : ∀ w ∈ wsX40, w ∈ wsX4_tryToTheEnd := by decide +kernel
  obtain ⟨r0, r1, r2, r3, r4, r5, r6, r7⟩ := id hR
  obtain ⟨o1, o2, o3, o4, o5, o6, o7, o8, o9, o10, o11, o12, o13, o14, o15⟩ := id hM
  have q0 := r0.1
  have q1 := r1.1
  have q2 := r2.1
  refine lv_aload_n hx hb dX4_tryToTheEnd_0 rfl (lv_at hl 0 rfl) ?_
  refine va_get (D := D) (ci := 4) (v := .ref (ad 8)) (C := RX4) (T := TX4) (N := 7) hx hb hts hiX4 hown hK hP 0 rfl rfl 1 (by decide) (hts (.fieldLink RX4 16 "BackwardSearch" "trial" "LBackwardSearch$State;") (by decide +kernel)) (fun _ h9 => h9) rfl dX4_tryToTheEnd_1 ?_
  refine lv_aload_n hx hb dX4_tryToTheEnd_4 rfl (lv_at hl 0 rfl) ?_
  refine va_get (D := D) (ci := 4) (v := .ref (ad 1)) (C := RX4) (T := TX4) (N := 7) hx hb hts hiX4 hown hK hP 0 rfl rfl 0 (by decide) (hts (.fieldLink RX4 10 "BackwardSearch" "state" "LBackwardSearch$State;") (by decide +kernel)) (fun _ h9 => h9) rfl dX4_tryToTheEnd_5 ?_
  refine z_gVv (n := 1) (b := ad 8) (As := [.ref (ad 1)]) (rest := []) ⟨hx, hb, hml, hown, hts⟩ (c_X3_copy l D cy (ad 8) (ad 9) (ad 10) (ad 11) (ad 12) (ad 13) (ad 14) (zt 0) (ft 0) (zt 1) (ft 1) (zt 2) (ft 2) (zt 3) (zt 4) (zt 5) (zt 6) (zt 7) (ad 1) (ad 2) (ad 3) (ad 4) (ad 5) (ad 6) (ad 7) (z 0) (f 0) (z 1) (f 1) (z 2) (f 2) (z 3) (z 4) (z 5) (z 6) (z 7) (by first | assumption | omega)) gX4_tryToTheEnd_X3_copy rfl (by decide +kernel) ⟨Nat.le_of_ble_eq_true rfl, Nat.le_of_ble_eq_true rfl⟩ hK hT hP hS (Fp.blocks hP hD hS hA (cs := [wSt cy ad 8 zt ft, wSt cy ad 1 z f]) (nb := fun (u : (Nat → Int32) × (Nat → Int32) × (Nat → Int32)) => [wSt cy ad 8 (zL [(z 0), (z 1), (z 2), (z 3), (z 4), (z 5), (z 6), (z 7)]) (fL [u.1, u.2.1, u.2.2]), wSt cy ad 1 (zL [(z 0), (z 1), (z 2), (z 3), (z 4), (z 5), (z 6), (z 7)]) (fL [(f 0), (f 1), (f 2)])]) (nbs := fun (u : (Nat → Int32) × (Nat → Int32) × (Nat → Int32)) => [wTop ad, wSt cy ad 1 (zL [(z 0), (z 1), (z 2), (z 3), (z 4), (z 5), (z 6), (z 7)]) (fL [(f 0), (f 1), (f 2)]), wSt cy ad 8 (zL [(z 0), (z 1), (z 2), (z 3), (z 4), (z 5), (z 6), (z 7)]) (fL [u.1, u.2.1, u.2.2]), wEn cy ad en B Kf]) [2, 1] rfl rfl rfl (fun _ => rfl) (fun _ => rfl) (fun _ => rfl)) 8 3 rfl rfl rfl rfl hl.1 rfl (Nat.le_of_ble_eq_true rfl) dX4_tryToTheEnd_8 ⟨Nat.zero_le _, Nat.zero_le _⟩ (fun  u_1 H locs hw_1 hP hD hS => ?_)
  obtain ⟨Gl_1, Gw_1, Gf_1⟩ := u_1
  have hw_1 : (∀ j : Nat, (j : Int) < (z 0) → Gl_1 j = (f 0) j) ∧ (∀ j : Nat, (j : Int) < (z 1) → Gw_1 j = (f 1) j) ∧ ∀ j : Nat, (j : Int) < (z 2) → Gf_1 j = (f 2) j := hw_1
  have hP : va_P D vwCl (List.flatten [wTop ad, wSt cy ad 1 (zL [(z 0), (z 1), (z 2), (z 3), (z 4), (z 5), (z 6), (z 7)]) (fL [(f 0), (f 1), (f 2)]), wSt cy ad 8 (zL [(z 0), (z 1), (z 2), (z 3), (z 4), (z 5), (z 6), (z 7)]) (fL [Gl_1, Gw_1, Gf_1]), wEn cy ad en B Kf]) H := hP
  have hD : va_D A (List.flatten [wTop ad, wSt cy ad 1 (zL [(z 0), (z 1), (z 2), (z 3), (z 4), (z 5), (z 6), (z 7)]) (fL [(f 0), (f 1), (f 2)]), wSt cy ad 8 (zL [(z 0), (z 1), (z 2), (z 3), (z 4), (z 5), (z 6), (z 7)]) (fL [Gl_1, Gw_1, Gf_1]), wEn cy ad en B Kf]) := hD
  have hsr := study_rng (m := (z 1).toNat) (W := Gw_1) (B := B) (by omega) hk
  refine lv_aload_n hx hb dX4_tryToTheEnd_11 rfl (lv_at hl 0 rfl) ?_
  refine va_get (D := D) (ci := 4) (v := .ref (ad 8)) (C := RX4) (T := TX4) (N := 7) hx hb hts hiX4 hown hK hP 0 rfl rfl 1 (by decide) (hts (.fieldLink RX4 16 "BackwardSearch" "trial" "LBackwardSearch$State;") (by decide +kernel)) (fun _ h9 => h9) rfl dX4_tryToTheEnd_12 ?_
  refine lv_iload_n hx hb dX4_tryToTheEnd_15 rfl (lv_at hl 1 rfl) ?_
  refine lv_iload_n hx hb dX4_tryToTheEnd_16 rfl (lv_at hl 2 rfl) ?_
  refine z_gVv (n := 2) (b := ad 8) (As := [.int (iI x), .int (iI y)]) (rest := []) ⟨hx, hb, hml, hown, hts⟩ (c_X3_useRules l D cy (ad 8) (ad 9) (ad 11) (ad 13) (z 3) (z 4) (z 5) (z 6) (z 7) x y (by first | assumption | omega) (by first | assumption | omega)) gX4_tryToTheEnd_X3_useRules rfl (by decide +kernel) ⟨Nat.le_of_ble_eq_true rfl, Nat.le_of_ble_eq_true rfl⟩ hK hT hP hS (Fp.part hP hD hS hA (nbl := fun (u : Unit) => wSt cy ad 8 (zL [(z 0), (z 1), (z 2), x, y, (z 5), (z 6), (z 7)]) (fL [Gl_1, Gw_1, Gf_1])) (nbs := fun (u : Unit) => [wTop ad, wSt cy ad 1 (zL [(z 0), (z 1), (z 2), (z 3), (z 4), (z 5), (z 6), (z 7)]) (fL [(f 0), (f 1), (f 2)]), wSt cy ad 8 (zL [(z 0), (z 1), (z 2), x, y, (z 5), (z 6), (z 7)]) (fL [Gl_1, Gw_1, Gf_1]), wEn cy ad en B Kf]) 2 rfl [0] rfl rfl (fun _ => rfl) (fun _ => rfl) (fun _ => rfl)) 8 3 rfl rfl rfl rfl hl.1 rfl (Nat.le_of_ble_eq_true rfl) dX4_tryToTheEnd_17 ⟨Nat.zero_le _, Nat.zero_le _⟩ (fun  u_2 H locs hw_2 hP hD hS => ?_)
  have hw_2 : True := hw_2
  have hP : va_P D vwCl (List.flatten [wTop ad, wSt cy ad 1 (zL [(z 0), (z 1), (z 2), (z 3), (z 4), (z 5), (z 6), (z 7)]) (fL [(f 0), (f 1), (f 2)]), wSt cy ad 8 (zL [(z 0), (z 1), (z 2), x, y, (z 5), (z 6), (z 7)]) (fL [Gl_1, Gw_1, Gf_1]), wEn cy ad en B Kf]) H := hP
  have hD : va_D A (List.flatten [wTop ad, wSt cy ad 1 (zL [(z 0), (z 1), (z 2), (z 3), (z 4), (z 5), (z 6), (z 7)]) (fL [(f 0), (f 1), (f 2)]), wSt cy ad 8 (zL [(z 0), (z 1), (z 2), x, y, (z 5), (z 6), (z 7)]) (fL [Gl_1, Gw_1, Gf_1]), wEn cy ad en B Kf]) := hD
  refine lv_aload_n hx hb dX4_tryToTheEnd_20 rfl (lv_at hl 0 rfl) ?_
  refine va_get (D := D) (ci := 4) (v := .ref (ad 8)) (C := RX4) (T := TX4) (N := 7) hx hb hts hiX4 hown hK hP 0 rfl rfl 1 (by decide) (hts (.fieldLink RX4 16 "BackwardSearch" "trial" "LBackwardSearch$State;") (by decide +kernel)) (fun _ h9 => h9) rfl dX4_tryToTheEnd_21 ?_
  refine z_gVv (n := 0) (b := ad 8) (As := []) (rest := []) ⟨hx, hb, hml, hown, hts⟩ (c_X3_beginAnew l D cy (ad 8) (ad 9) (ad 11) (ad 13) (ad 14) (z 2) x y (z 5) (z 6) (z 7) ) gX4_tryToTheEnd_X3_beginAnew rfl (by decide +kernel) ⟨Nat.le_of_ble_eq_true rfl, Nat.le_of_ble_eq_true rfl⟩ hK hT hP hS (Fp.part hP hD hS hA (nbl := fun (u : Unit) => wSt cy ad 8 (zL [(z 0), (z 1), 0, x, y, 0, 0, 0]) (fL [Gl_1, Gw_1, Gf_1])) (nbs := fun (u : Unit) => [wTop ad, wSt cy ad 1 (zL [(z 0), (z 1), (z 2), (z 3), (z 4), (z 5), (z 6), (z 7)]) (fL [(f 0), (f 1), (f 2)]), wSt cy ad 8 (zL [(z 0), (z 1), 0, x, y, 0, 0, 0]) (fL [Gl_1, Gw_1, Gf_1]), wEn cy ad en B Kf]) 2 rfl [0, 5] rfl rfl (fun _ => rfl) (fun _ => rfl) (fun _ => rfl)) 8 3 rfl rfl rfl rfl hl.1 rfl (Nat.le_of_ble_eq_true rfl) dX4_tryToTheEnd_24 ⟨Nat.zero_le _, Nat.zero_le _⟩ (fun  u_3 H locs hw_3 hP hD hS => ?_)
  have hw_3 : True := hw_3
  have hP : va_P D vwCl (List.flatten [wTop ad, wSt cy ad 1 (zL [(z 0), (z 1), (z 2), (z 3), (z 4), (z 5), (z 6), (z 7)]) (fL [(f 0), (f 1), (f 2)]), wSt cy ad 8 (zL [(z 0), (z 1), 0, x, y, 0, 0, 0]) (fL [Gl_1, Gw_1, Gf_1]), wEn cy ad en B Kf]) H := hP
  have hD : va_D A (List.flatten [wTop ad, wSt cy ad 1 (zL [(z 0), (z 1), (z 2), (z 3), (z 4), (z 5), (z 6), (z 7)]) (fL [(f 0), (f 1), (f 2)]), wSt cy ad 8 (zL [(z 0), (z 1), 0, x, y, 0, 0, 0]) (fL [Gl_1, Gw_1, Gf_1]), wEn cy ad en B Kf]) := hD
  refine lv_aload_n hx hb dX4_tryToTheEnd_27 rfl (lv_at hl 0 rfl) ?_
  refine va_get (D := D) (ci := 4) (v := .ref (ad 15)) (C := RX4) (T := TX4) (N := 7) hx hb hts hiX4 hown hK hP 0 rfl rfl 2 (by decide) (hts (.fieldLink RX4 22 "BackwardSearch" "ends" "LBackwardSearch$Ends;") (by decide +kernel)) (fun _ h9 => h9) rfl dX4_tryToTheEnd_28 ?_
  refine lv_aload_n hx hb dX4_tryToTheEnd_31 rfl (lv_at hl 0 rfl) ?_
  refine va_get (D := D) (ci := 4) (v := .ref (ad 8)) (C := RX4) (T := TX4) (N := 7) hx hb hts hiX4 hown hK hP 0 rfl rfl 1 (by decide) (hts (.fieldLink RX4 16 "BackwardSearch" "trial" "LBackwardSearch$State;") (by decide +kernel)) (fun _ h9 => h9) rfl dX4_tryToTheEnd_32 ?_
  refine va_getN (D := D) (ci := 3) (v := .ref (ad 11)) (C := RX3) (T := TX3) (N := 8) (host := RX4) hx hb hts hiX3 hown hK hP 8 rfl rfl 1 (by decide) (va_Nw.use rfl (hT.1 _ (List.mem_of_getElem? (i := 1) rfl))) (fun _ h9 => h9) rfl dX4_tryToTheEnd_35 ?_
  refine z_gVv (n := 1) (b := ad 15) (As := [.ref (ad 11)]) (rest := []) ⟨hx, hb, hml, hown, hts⟩ (c_X0_studyB l D cy (ad 15) (ad 16) (ad 17) en B Kf (ad 8) (ad 9) (ad 10) (ad 11) (ad 12) (ad 13) (ad 14) (z 0) Gl_1 (z 1) Gw_1 (0 : Int) Gf_1 x y (0 : Int) (0 : Int) (0 : Int) (by first | assumption | omega) (hk)) gX4_tryToTheEnd_X0_study rfl (by decide +kernel) ⟨Nat.le_of_ble_eq_true rfl, Nat.le_of_ble_eq_true rfl⟩ hK hT hP hS (Fp.blocks hP hD hS hA (cs := [wEn cy ad en B Kf, wSt cy ad 8 (zL [(z 0), (z 1), 0, x, y, 0, 0, 0]) (fL [Gl_1, Gw_1, Gf_1])]) (nb := fun (u : (Nat → Int) × (Nat → Int)) => [wEn cy ad (z 1) u.1 u.2, wSt cy ad 8 (zL [(z 0), (z 1), (0 : Int), x, y, (0 : Int), (0 : Int), (0 : Int)]) (fL [Gl_1, Gw_1, Gf_1])]) (nbs := fun (u : (Nat → Int) × (Nat → Int)) => [wTop ad, wSt cy ad 1 (zL [(z 0), (z 1), (z 2), (z 3), (z 4), (z 5), (z 6), (z 7)]) (fL [(f 0), (f 1), (f 2)]), wSt cy ad 8 (zL [(z 0), (z 1), (0 : Int), x, y, (0 : Int), (0 : Int), (0 : Int)]) (fL [Gl_1, Gw_1, Gf_1]), wEn cy ad (z 1) u.1 u.2]) [3, 2] rfl rfl rfl (fun _ => rfl) (fun _ => rfl) (fun _ => rfl)) 15 0 rfl rfl rfl rfl hl.1 rfl (Nat.le_of_ble_eq_true rfl) dX4_tryToTheEnd_38 ⟨Nat.zero_le _, Nat.zero_le _⟩ (fun  u_4 H locs hw_4 hP hD hS => ?_)
  obtain ⟨B1_4, K1_4⟩ := u_4
  have hw_4 : B1_4 = studyB (z 1).toNat Gw_1 B Kf ∧ K1_4 = studyK (z 1).toNat Gw_1 B Kf := hw_4
  have hP : va_P D vwCl (List.flatten [wTop ad, wSt cy ad 1 (zL [(z 0), (z 1), (z 2), (z 3), (z 4), (z 5), (z 6), (z 7)]) (fL [(f 0), (f 1), (f 2)]), wSt cy ad 8 (zL [(z 0), (z 1), (0 : Int), x, y, (0 : Int), (0 : Int), (0 : Int)]) (fL [Gl_1, Gw_1, Gf_1]), wEn cy ad (z 1) B1_4 K1_4]) H := hP
  have hD : va_D A (List.flatten [wTop ad, wSt cy ad 1 (zL [(z 0), (z 1), (z 2), (z 3), (z 4), (z 5), (z 6), (z 7)]) (fL [(f 0), (f 1), (f 2)]), wSt cy ad 8 (zL [(z 0), (z 1), (0 : Int), x, y, (0 : Int), (0 : Int), (0 : Int)]) (fL [Gl_1, Gw_1, Gf_1]), wEn cy ad (z 1) B1_4 K1_4]) := hD
  obtain ⟨rfl, rfl⟩ := hw_4
  refine lv_aload_n hx hb dX4_tryToTheEnd_41 rfl (lv_at hl 0 rfl) ?_
  refine va_get (D := D) (ci := 4) (v := .ref (ad 8)) (C := RX4) (T := TX4) (N := 7) hx hb hts hiX4 hown hK hP 0 rfl rfl 1 (by decide) (hts (.fieldLink RX4 16 "BackwardSearch" "trial" "LBackwardSearch$State;") (by decide +kernel)) (fun _ h9 => h9) rfl dX4_tryToTheEnd_42 ?_
  refine lv_aload_n hx hb dX4_tryToTheEnd_45 rfl (lv_at hl 0 rfl) ?_
  refine va_get (D := D) (ci := 4) (v := .ref (ad 15)) (C := RX4) (T := TX4) (N := 7) hx hb hts hiX4 hown hK hP 0 rfl rfl 2 (by decide) (hts (.fieldLink RX4 22 "BackwardSearch" "ends" "LBackwardSearch$Ends;") (by decide +kernel)) (fun _ h9 => h9) rfl dX4_tryToTheEnd_46 ?_
  refine z_gVi (n := 1) (b := ad 8) (As := [.ref (ad 15)]) (rest := []) ⟨hx, hb, hml, hown, hts⟩ (c_X3_lookToTheEnd l D cy (ad 8) (ad 9) (ad 10) (ad 11) (ad 12) (ad 13) (ad 14) (z 0) Gl_1 (z 1) Gw_1 (0 : Int) Gf_1 x y (0 : Int) (0 : Int) (0 : Int) (ad 15) (ad 16) (ad 17) (z 1) (studyB (z 1).toNat Gw_1 B Kf) (studyK (z 1).toNat Gw_1 B Kf) ([] : List Int32) (by first | assumption | omega) (by first | assumption | omega) (hsr.1) (⟨by omega, by omega, fun _ => by omega⟩) (⟨rfl, fun j hj => absurd hj (Nat.not_lt_zero _)⟩)) gX4_tryToTheEnd_X3_lookToTheEnd rfl (by decide +kernel) ⟨Nat.le_of_ble_eq_true rfl, Nat.le_of_ble_eq_true rfl⟩ hK hT hP hS (Fp.blocks hP hD hS hA (cs := [wSt cy ad 8 (zL [(z 0), (z 1), (0 : Int), x, y, (0 : Int), (0 : Int), (0 : Int)]) (fL [Gl_1, Gw_1, Gf_1]), wEn cy ad (z 1) (studyB (z 1).toNat Gw_1 B Kf) (studyK (z 1).toNat Gw_1 B Kf)]) (nb := fun (u : Int × Int × Int × Int × (Nat → Int32)) => [wSt cy ad 8 (zL [(z 0), (z 1), u.2.2.2.1, x, y, u.1, u.2.1, u.2.2.1]) (fL [Gl_1, Gw_1, u.2.2.2.2]), wEn cy ad (z 1) (studyB (z 1).toNat Gw_1 B Kf) (studyK (z 1).toNat Gw_1 B Kf)]) (nbs := fun (u : Int × Int × Int × Int × (Nat → Int32)) => [wTop ad, wSt cy ad 1 (zL [(z 0), (z 1), (z 2), (z 3), (z 4), (z 5), (z 6), (z 7)]) (fL [(f 0), (f 1), (f 2)]), wSt cy ad 8 (zL [(z 0), (z 1), u.2.2.2.1, x, y, u.1, u.2.1, u.2.2.1]) (fL [Gl_1, Gw_1, u.2.2.2.2]), wEn cy ad (z 1) (studyB (z 1).toNat Gw_1 B Kf) (studyK (z 1).toNat Gw_1 B Kf)]) [2, 3] rfl rfl rfl (fun _ => rfl) (fun _ => rfl) (fun _ => rfl)) 8 3 rfl rfl rfl rfl hl.1 rfl (Nat.le_of_ble_eq_true rfl) dX4_tryToTheEnd_49 ⟨Nat.zero_le _, Nat.zero_le _⟩ (fun r_5 u_5 H locs hw_5 hP hD hS => ?_)
  obtain ⟨pl1_5, lk1_5, cp1_5, nf1_5, Ff1_5⟩ := u_5
  have hw_5 : r_5 = iI (runS (z 0).toNat (z 1).toNat Gw_1 Gl_1 (skX ((studyB (z 1).toNat Gw_1 B Kf) 0) (studyK (z 1).toNat Gw_1 B Kf) x y (z 1).toNat Gw_1 Gl_1) 60 ((0 : Int), (0 : Int), (0 : Int), ([] : List Int32))).2 ∧ pl1_5 = (runS (z 0).toNat (z 1).toNat Gw_1 Gl_1 (skX ((studyB (z 1).toNat Gw_1 B Kf) 0) (studyK (z 1).toNat Gw_1 B Kf) x y (z 1).toNat Gw_1 Gl_1) 60 ((0 : Int), (0 : Int), (0 : Int), ([] : List Int32))).1.1 ∧ lk1_5 = (runS (z 0).toNat (z 1).toNat Gw_1 Gl_1 (skX ((studyB (z 1).toNat Gw_1 B Kf) 0) (studyK (z 1).toNat Gw_1 B Kf) x y (z 1).toNat Gw_1 Gl_1) 60 ((0 : Int), (0 : Int), (0 : Int), ([] : List Int32))).1.2.1 ∧ cp1_5 = (runS (z 0).toNat (z 1).toNat Gw_1 Gl_1 (skX ((studyB (z 1).toNat Gw_1 B Kf) 0) (studyK (z 1).toNat Gw_1 B Kf) x y (z 1).toNat Gw_1 Gl_1) 60 ((0 : Int), (0 : Int), (0 : Int), ([] : List Int32))).1.2.2.1 ∧ Rep nf1_5 Ff1_5 (runS (z 0).toNat (z 1).toNat Gw_1 Gl_1 (skX ((studyB (z 1).toNat Gw_1 B Kf) 0) (studyK (z 1).toNat Gw_1 B Kf) x y (z 1).toNat Gw_1 Gl_1) 60 ((0 : Int), (0 : Int), (0 : Int), ([] : List Int32))).1.2.2.2 ∧ (0 ≤ (z 0) ∧ (z 0) ≤ 60 ∧ 0 ≤ (z 1) ∧ (z 1) ≤ 16 ∧ 0 ≤ nf1_5 ∧ nf1_5 ≤ pl1_5 ∧ pl1_5 ≤ 100 ∧ nf1_5 ≤ 60 ∧ 0 ≤ lk1_5 ∧ lk1_5 ≤ pl1_5 ∧ 0 ≤ cp1_5 ∧ cp1_5 ≤ 16 * lk1_5 ∧ 0 ≤ x ∧ x ≤ 1 ∧ 0 ≤ y ∧ y ≤ 1) := hw_5
  have hP : va_P D vwCl (List.flatten [wTop ad, wSt cy ad 1 (zL [(z 0), (z 1), (z 2), (z 3), (z 4), (z 5), (z 6), (z 7)]) (fL [(f 0), (f 1), (f 2)]), wSt cy ad 8 (zL [(z 0), (z 1), nf1_5, x, y, pl1_5, lk1_5, cp1_5]) (fL [Gl_1, Gw_1, Ff1_5]), wEn cy ad (z 1) (studyB (z 1).toNat Gw_1 B Kf) (studyK (z 1).toNat Gw_1 B Kf)]) H := hP
  have hD : va_D A (List.flatten [wTop ad, wSt cy ad 1 (zL [(z 0), (z 1), (z 2), (z 3), (z 4), (z 5), (z 6), (z 7)]) (fL [(f 0), (f 1), (f 2)]), wSt cy ad 8 (zL [(z 0), (z 1), nf1_5, x, y, pl1_5, lk1_5, cp1_5]) (fL [Gl_1, Gw_1, Ff1_5]), wEn cy ad (z 1) (studyB (z 1).toNat Gw_1 B Kf) (studyK (z 1).toNat Gw_1 B Kf)]) := hD
  refine lv_pop hx hb dX4_tryToTheEnd_52 rfl ?_
  exact z_vret hx hb hr hlocks hS ((zL [(z 0), (z 1), nf1_5, x, y, pl1_5, lk1_5, cp1_5]), (fL [Gl_1, Gw_1, Ff1_5]), (z 1), (studyB (z 1).toNat Gw_1 B Kf), (studyK (z 1).toNat Gw_1 B Kf)) (show RS (zL [(z 0), (z 1), nf1_5, x, y, pl1_5, lk1_5, cp1_5]) (fL [Gl_1, Gw_1, Ff1_5]) (mOf (mRules M x y) (mRun (mRules M x y)).1) ∧ ∀ j : Nat, 0 ≤ (studyK (z 1).toNat Gw_1 B Kf) j ∧ (studyK (z 1).toNat Gw_1 B Kf) j ≤ 17 from ⟨RS_run r0 r1 (by omega) hw_1.1 hw_1.2.1 hw_5.2.1 hw_5.2.2.1 hw_5.2.2.2.1 hw_5.2.2.2.2.1, hsr.1⟩) hP dX4_tryToTheEnd_53
set_option maxHeartbeats 4000000 in
set_option maxRecDepth 100000 in
theorem c_X4_occurrences (l : Launch) (D : va_G) (cy : Nat → ClassId) (ad : Nat → Nat) (z : Nat → Int) (f : Nat → Nat → Int32) (M : MS) (zt : Nat → Int) (ft : Nat → Nat → Int32) (en : Int) (B : Nat → Int) (Kf : Nat → Int) (hR : RS z f M) (hM : MOk M) (hk : ∀ j : Nat, 0 ≤ Kf j ∧ Kf j ≤ 17) : Ci l D cy yX4_occurrences wsX4_occurrences 6 134 [.ref (ad 0)] (List.flatten [wTop ad, wSt cy ad 1 z f, wSt cy ad 8 zt ft, wEn cy ad en B Kf]) (fun (r : Int32) (u : (Nat → Int) × (Nat → Nat → Int32) × Int × (Nat → Int) × (Nat → Int)) => r = iI (occF M) ∧ ∀ j : Nat, 0 ≤ u.2.2.2.2 j ∧ u.2.2.2.2 j ≤ 17) (fun u : (Nat → Int) × (Nat → Nat → Int32) × Int × (Nat → Int) × (Nat → Int) => (List.flatten [wTop ad, wSt cy ad 1 z f, wSt cy ad 8 u.1 u.2.1, wEn cy ad u.2.2.1 u.2.2.2.1 u.2.2.2.2])) := by
  refine Ci_of (cc := cX4_occurrences) (maxL := 1) (ret := (some .int)) (by decide) rfl rfl ?_
  intro p e s m args below meth c A hx hb hr hts hown hlocks hml hP hK hD hT hA ls hl
  have hS : va_S A s.heap s.heap [] := va_S.rf
  have hl : lv_has ls 1 [(0, .ref (ad 0))] := hl
  have hP : va_P D vwCl (List.flatten [wTop ad, wSt cy ad 1 z f, wSt cy ad 8 zt ft, wEn cy ad en B Kf]) s.heap := hP
  have hD : va_D A (List.flatten [wTop ad, wSt cy ad 1 z f, wSt cy ad 8 zt ft, wEn cy ad en B Kf]) := hD
  have hiX3 : ∀ w ∈ wsX30, w ∈ wsX4_occurrences := by decide +kernel
  have hiX4 : ∀ w ∈ wsX40, w ∈ wsX4_occurrences := by decide +kernel
  obtain ⟨r0, r1, r2, r3, r4, r5, r6, r7⟩ := id hR
  obtain ⟨o1, o2, o3, o4, o5, o6, o7, o8, o9, o10, o11, o12, o13, o14, o15⟩ := id hM
  have q0 := r0.1
  have q1 := r1.1
  have q2 := r2.1
  refine lv_aload_n hx hb dX4_occurrences_0 rfl (lv_at hl 0 rfl) ?_
  refine lv_iconst (v := iI 1) hx hb dX4_occurrences_1 rfl ?_
  refine lv_iconst (v := iI 1) hx hb dX4_occurrences_2 rfl ?_
  refine z_gVv (n := 2) (b := ad 0) (As := [.int (iI 1), .int (iI 1)]) (rest := []) ⟨hx, hb, hml, hown, hts⟩ (c_X4_tryToTheEnd l D cy ad z f M zt ft en B Kf (1 : Int) (1 : Int) (hR) (hM) (hk) (by first | assumption | omega)) gX4_occurrences_X4_tryToTheEnd rfl (by decide +kernel) ⟨Nat.le_of_ble_eq_true rfl, Nat.le_of_ble_eq_true rfl⟩ hK hT hP hS (Fp.blocks hP hD hS hA (cs := [wTop ad, wSt cy ad 1 z f, wSt cy ad 8 zt ft, wEn cy ad en B Kf]) (nb := fun (u : (Nat → Int) × (Nat → Nat → Int32) × Int × (Nat → Int) × (Nat → Int)) => [wTop ad, wSt cy ad 1 z f, wSt cy ad 8 u.1 u.2.1, wEn cy ad u.2.2.1 u.2.2.2.1 u.2.2.2.2]) (nbs := fun (u : (Nat → Int) × (Nat → Nat → Int32) × Int × (Nat → Int) × (Nat → Int)) => [wTop ad, wSt cy ad 1 z f, wSt cy ad 8 u.1 u.2.1, wEn cy ad u.2.2.1 u.2.2.2.1 u.2.2.2.2]) [0, 1, 2, 3] rfl rfl rfl (fun _ => rfl) (fun _ => rfl) (fun _ => rfl)) 0 4 rfl rfl rfl rfl hl.1 rfl (Nat.le_of_ble_eq_true rfl) dX4_occurrences_3 ⟨Nat.zero_le _, Nat.zero_le _⟩ (fun  u_1 H locs hw_1 hP hD hS => ?_)
  obtain ⟨zt1_1, ft1_1, en1_1, B1_1, K1_1⟩ := u_1
  have hw_1 : RS zt1_1 ft1_1 (mOf (mRules M (1 : Int) (1 : Int)) (mRun (mRules M (1 : Int) (1 : Int))).1) ∧ ∀ j : Nat, 0 ≤ K1_1 j ∧ K1_1 j ≤ 17 := hw_1
  have hP : va_P D vwCl (List.flatten [wTop ad, wSt cy ad 1 z f, wSt cy ad 8 zt1_1 ft1_1, wEn cy ad en1_1 B1_1 K1_1]) H := hP
  have hD : va_D A (List.flatten [wTop ad, wSt cy ad 1 z f, wSt cy ad 8 zt1_1 ft1_1, wEn cy ad en1_1 B1_1 K1_1]) := hD
  refine lv_aload_n hx hb dX4_occurrences_6 rfl (lv_at hl 0 rfl) ?_
  refine va_get (D := D) (ci := 4) (v := .ref (ad 8)) (C := RX4) (T := TX4) (N := 7) hx hb hts hiX4 hown hK hP 0 rfl rfl 1 (by decide) (hts (.fieldLink RX4 16 "BackwardSearch" "trial" "LBackwardSearch$State;") (by decide +kernel)) (fun _ h9 => h9) rfl dX4_occurrences_7 ?_
  refine va_getN (D := D) (ci := 3) (v := .ref (ad 13)) (C := RX3) (T := TX3) (N := 8) (host := RX4) hx hb hts hiX3 hown hK hP 8 rfl rfl 2 (by decide) (va_Nw.use rfl (hT.1 _ (List.mem_of_getElem? (i := 2) rfl))) (fun _ h9 => h9) rfl dX4_occurrences_10 ?_
  refine z_gVi (n := 0) (b := ad 13) (As := []) (rest := []) ⟨hx, hb, hml, hown, hts⟩ (c_X2_size l D cy (ad 13) (ad 14) (zt1_1 2) ) gX4_occurrences_X2_size rfl (by decide +kernel) ⟨Nat.le_of_ble_eq_true rfl, Nat.le_of_ble_eq_true rfl⟩ hK hT hP hS (Fp.same hP hD hS hA [13] rfl rfl (fun _ => rfl)) 13 2 rfl rfl rfl rfl hl.1 rfl (Nat.le_of_ble_eq_true rfl) dX4_occurrences_13 ⟨Nat.zero_le _, Nat.zero_le _⟩ (fun r_2 u_2 H locs hw_2 hP hD hS => ?_)
  have hw_2 : r_2 = iI (zt1_1 2) := hw_2
  have hP : va_P D vwCl (List.flatten [wTop ad, wSt cy ad 1 z f, wSt cy ad 8 zt1_1 ft1_1, wEn cy ad en1_1 B1_1 K1_1]) H := hP
  have hD : va_D A (List.flatten [wTop ad, wSt cy ad 1 z f, wSt cy ad 8 zt1_1 ft1_1, wEn cy ad en1_1 B1_1 K1_1]) := hD
  obtain rfl := hw_2
  exact z_iret hx hb hr hlocks hS (zt1_1, ft1_1, en1_1, B1_1, K1_1) (show (iI (zt1_1 2)) = iI (occF M) ∧ ∀ j : Nat, 0 ≤ K1_1 j ∧ K1_1 j ≤ 17 from ⟨congrArg iI (hw_1.1.2.2.1.1.trans (occ_run hM)), hw_1.2⟩) hP dX4_occurrences_16
set_option maxHeartbeats 4000000 in
set_option maxRecDepth 100000 in
theorem c_X4_comparedWith (l : Launch) (D : va_G) (cy : Nat → ClassId) (ad : Nat → Nat) (z : Nat → Int) (f : Nat → Nat → Int32) (M : MS) (zt : Nat → Int) (ft : Nat → Nat → Int32) (en : Int) (B : Nat → Int) (Kf : Nat → Int) (x : Int) (y : Int) (hR : RS z f M) (hM : MOk M) (hk : ∀ j : Nat, 0 ≤ Kf j ∧ Kf j ≤ 17) (hxy : 0 ≤ x ∧ x ≤ 1 ∧ 0 ≤ y ∧ y ≤ 1) : Ci l D cy yX4_comparedWith wsX4_comparedWith 6 134 [.ref (ad 0), .int (iI x), .int (iI y)] (List.flatten [wTop ad, wSt cy ad 1 z f, wSt cy ad 8 zt ft, wEn cy ad en B Kf]) (fun (r : Int32) (u : (Nat → Int) × (Nat → Nat → Int32) × Int × (Nat → Int) × (Nat → Int)) => r = iI (mRun (mRules M x y)).1.2.2.1 ∧ ∀ j : Nat, 0 ≤ u.2.2.2.2 j ∧ u.2.2.2.2 j ≤ 17) (fun u : (Nat → Int) × (Nat → Nat → Int32) × Int × (Nat → Int) × (Nat → Int) => (List.flatten [wTop ad, wSt cy ad 1 z f, wSt cy ad 8 u.1 u.2.1, wEn cy ad u.2.2.1 u.2.2.2.1 u.2.2.2.2])) := by
  refine Ci_of (cc := cX4_comparedWith) (maxL := 3) (ret := (some .int)) (by decide) rfl rfl ?_
  intro p e s m args below meth c A hx hb hr hts hown hlocks hml hP hK hD hT hA ls hl
  have hS : va_S A s.heap s.heap [] := va_S.rf
  have hl : lv_has ls 3 [(0, .ref (ad 0)), (1, .int (iI x)), (2, .int (iI y))] := hl
  have hP : va_P D vwCl (List.flatten [wTop ad, wSt cy ad 1 z f, wSt cy ad 8 zt ft, wEn cy ad en B Kf]) s.heap := hP
  have hD : va_D A (List.flatten [wTop ad, wSt cy ad 1 z f, wSt cy ad 8 zt ft, wEn cy ad en B Kf]) := hD
  have hiX3 : ∀ w ∈ wsX30, w ∈ wsX4_comparedWith := by decide +kernel
  have hiX4 : ∀ w ∈ wsX40, w ∈ wsX4_comparedWith := by decide +kernel
  obtain ⟨r0, r1, r2, r3, r4, r5, r6, r7⟩ := id hR
  obtain ⟨o1, o2, o3, o4, o5, o6, o7, o8, o9, o10, o11, o12, o13, o14, o15⟩ := id hM
  have q0 := r0.1
  have q1 := r1.1
  have q2 := r2.1
  refine lv_aload_n hx hb dX4_comparedWith_0 rfl (lv_at hl 0 rfl) ?_
  refine lv_iload_n hx hb dX4_comparedWith_1 rfl (lv_at hl 1 rfl) ?_
  refine lv_iload_n hx hb dX4_comparedWith_2 rfl (lv_at hl 2 rfl) ?_
  refine z_gVv (n := 2) (b := ad 0) (As := [.int (iI x), .int (iI y)]) (rest := []) ⟨hx, hb, hml, hown, hts⟩ (c_X4_tryToTheEnd l D cy ad z f M zt ft en B Kf x y (hR) (hM) (hk) (by first | assumption | omega)) gX4_comparedWith_X4_tryToTheEnd rfl (by decide +kernel) ⟨Nat.le_of_ble_eq_true rfl, Nat.le_of_ble_eq_true rfl⟩ hK hT hP hS (Fp.blocks hP hD hS hA (cs := [wTop ad, wSt cy ad 1 z f, wSt cy ad 8 zt ft, wEn cy ad en B Kf]) (nb := fun (u : (Nat → Int) × (Nat → Nat → Int32) × Int × (Nat → Int) × (Nat → Int)) => [wTop ad, wSt cy ad 1 z f, wSt cy ad 8 u.1 u.2.1, wEn cy ad u.2.2.1 u.2.2.2.1 u.2.2.2.2]) (nbs := fun (u : (Nat → Int) × (Nat → Nat → Int32) × Int × (Nat → Int) × (Nat → Int)) => [wTop ad, wSt cy ad 1 z f, wSt cy ad 8 u.1 u.2.1, wEn cy ad u.2.2.1 u.2.2.2.1 u.2.2.2.2]) [0, 1, 2, 3] rfl rfl rfl (fun _ => rfl) (fun _ => rfl) (fun _ => rfl)) 0 4 rfl rfl rfl rfl hl.1 rfl (Nat.le_of_ble_eq_true rfl) dX4_comparedWith_3 ⟨Nat.zero_le _, Nat.zero_le _⟩ (fun  u_1 H locs hw_1 hP hD hS => ?_)
  obtain ⟨zt1_1, ft1_1, en1_1, B1_1, K1_1⟩ := u_1
  have hw_1 : RS zt1_1 ft1_1 (mOf (mRules M x y) (mRun (mRules M x y)).1) ∧ ∀ j : Nat, 0 ≤ K1_1 j ∧ K1_1 j ≤ 17 := hw_1
  have hP : va_P D vwCl (List.flatten [wTop ad, wSt cy ad 1 z f, wSt cy ad 8 zt1_1 ft1_1, wEn cy ad en1_1 B1_1 K1_1]) H := hP
  have hD : va_D A (List.flatten [wTop ad, wSt cy ad 1 z f, wSt cy ad 8 zt1_1 ft1_1, wEn cy ad en1_1 B1_1 K1_1]) := hD
  refine lv_aload_n hx hb dX4_comparedWith_6 rfl (lv_at hl 0 rfl) ?_
  refine va_get (D := D) (ci := 4) (v := .ref (ad 8)) (C := RX4) (T := TX4) (N := 7) hx hb hts hiX4 hown hK hP 0 rfl rfl 1 (by decide) (hts (.fieldLink RX4 16 "BackwardSearch" "trial" "LBackwardSearch$State;") (by decide +kernel)) (fun _ h9 => h9) rfl dX4_comparedWith_7 ?_
  refine va_getN (D := D) (ci := 3) (v := .int (iI (zt1_1 7))) (C := RX3) (T := TX3) (N := 8) (host := RX4) hx hb hts hiX3 hown hK hP 8 rfl rfl 7 (by decide) (va_Nw.use rfl (hT.1 _ (List.mem_of_getElem? (i := 5) rfl))) (fun _ h9 => h9) rfl dX4_comparedWith_10 ?_
  exact z_iret hx hb hr hlocks hS (zt1_1, ft1_1, en1_1, B1_1, K1_1) (show (iI (zt1_1 7)) = iI (mRun (mRules M x y)).1.2.2.1 ∧ ∀ j : Nat, 0 ≤ K1_1 j ∧ K1_1 j ≤ 17 from ⟨congrArg iI hw_1.1.2.2.2.2.2.2.2, hw_1.2⟩) hP dX4_comparedWith_13
set_option maxHeartbeats 4000000 in
set_option maxRecDepth 100000 in
theorem c_X4_setRules (l : Launch) (D : va_G) (cy : Nat → ClassId) (ad : Nat → Nat) (z : Nat → Int) (f : Nat → Nat → Int32) (M : MS) (nx : Int) (ct : Int) (Zh : Nat → Nat → Int) (Fh : Nat → Nat → Nat → Int32) (h : List MS) (x : Int) (y : Int) (hR : RS z f M) (hM : MOk M) (hH : RXH nx ct Zh Fh h) (hxy : 0 ≤ x ∧ x ≤ 1 ∧ 0 ≤ y ∧ y ≤ 1) : Ci l D cy yX4_setRules wsX4_setRules 4 87 [.ref (ad 0), .int (iI x), .int (iI y)] (List.flatten [wTop ad, wSt cy ad 1 z f, wHb ad ct, wKb cy ad nx, wSt cy ad 20 (Zh 0) (Fh 0), wSt cy ad 27 (Zh 1) (Fh 1), wSt cy ad 34 (Zh 2) (Fh 2), wSt cy ad 41 (Zh 3) (Fh 3), wSt cy ad 48 (Zh 4) (Fh 4), wSt cy ad 55 (Zh 5) (Fh 5)]) (fun (r : Int32) (u : (Nat → Int) × (Nat → Nat → Int32) × Int × Int × (Nat → Nat → Int) × (Nat → Nat → Nat → Int32)) => r = iI (M.2.2.2.1 + M.2.2.2.2.1) ∧ RS u.1 u.2.1 (mRules M x y) ∧ RXH u.2.2.1 u.2.2.2.1 u.2.2.2.2.1 u.2.2.2.2.2 (pushH h M)) (fun u : (Nat → Int) × (Nat → Nat → Int32) × Int × Int × (Nat → Nat → Int) × (Nat → Nat → Nat → Int32) => (List.flatten [wTop ad, wSt cy ad 1 u.1 u.2.1, wHb ad u.2.2.2.1, wKb cy ad u.2.2.1, wSt cy ad 20 (u.2.2.2.2.1 0) (u.2.2.2.2.2 0), wSt cy ad 27 (u.2.2.2.2.1 1) (u.2.2.2.2.2 1), wSt cy ad 34 (u.2.2.2.2.1 2) (u.2.2.2.2.2 2), wSt cy ad 41 (u.2.2.2.2.1 3) (u.2.2.2.2.2 3), wSt cy ad 48 (u.2.2.2.2.1 4) (u.2.2.2.2.2 4), wSt cy ad 55 (u.2.2.2.2.1 5) (u.2.2.2.2.2 5)])) := by
  refine Ci_of (cc := cX4_setRules) (maxL := 4) (ret := (some .int)) (by decide) rfl rfl ?_
  intro p e s m args below meth c A hx hb hr hts hown hlocks hml hP hK hD hT hA ls hl
  have hS : va_S A s.heap s.heap [] := va_S.rf
  have hl : lv_has ls 4 [(0, .ref (ad 0)), (1, .int (iI x)), (2, .int (iI y))] := hl
  have hP : va_P D vwCl (List.flatten [wTop ad, wSt cy ad 1 z f, wHb ad ct, wKb cy ad nx, wSt cy ad 20 (Zh 0) (Fh 0), wSt cy ad 27 (Zh 1) (Fh 1), wSt cy ad 34 (Zh 2) (Fh 2), wSt cy ad 41 (Zh 3) (Fh 3), wSt cy ad 48 (Zh 4) (Fh 4), wSt cy ad 55 (Zh 5) (Fh 5)]) s.heap := hP
  have hD : va_D A (List.flatten [wTop ad, wSt cy ad 1 z f, wHb ad ct, wKb cy ad nx, wSt cy ad 20 (Zh 0) (Fh 0), wSt cy ad 27 (Zh 1) (Fh 1), wSt cy ad 34 (Zh 2) (Fh 2), wSt cy ad 41 (Zh 3) (Fh 3), wSt cy ad 48 (Zh 4) (Fh 4), wSt cy ad 55 (Zh 5) (Fh 5)]) := hD
  have hiX4 : ∀ w ∈ wsX40, w ∈ wsX4_setRules := by decide +kernel
  obtain ⟨r0, r1, r2, r3, r4, r5, r6, r7⟩ := id hR
  obtain ⟨o1, o2, o3, o4, o5, o6, o7, o8, o9, o10, o11, o12, o13, o14, o15⟩ := id hM
  have q0 := r0.1
  have q1 := r1.1
  have q2 := r2.1
  refine lv_aload_n hx hb dX4_setRules_0 rfl (lv_at hl 0 rfl) ?_
  refine va_get (D := D) (ci := 4) (v := .ref (ad 18)) (C := RX4) (T := TX4) (N := 7) hx hb hts hiX4 hown hK hP 0 rfl rfl 3 (by decide) (hts (.fieldLink RX4 29 "BackwardSearch" "history" "LBackwardSearch$History;") (by decide +kernel)) (fun _ h9 => h9) rfl dX4_setRules_1 ?_
  refine lv_aload_n hx hb dX4_setRules_4 rfl (lv_at hl 0 rfl) ?_
  refine va_get (D := D) (ci := 4) (v := .ref (ad 1)) (C := RX4) (T := TX4) (N := 7) hx hb hts hiX4 hown hK hP 0 rfl rfl 0 (by decide) (hts (.fieldLink RX4 10 "BackwardSearch" "state" "LBackwardSearch$State;") (by decide +kernel)) (fun _ h9 => h9) rfl dX4_setRules_5 ?_
  refine z_gVv (n := 1) (b := ad 18) (As := [.ref (ad 1)]) (rest := []) ⟨hx, hb, hml, hown, hts⟩ (c_X1_keepA l D cy ad nx ct Zh Fh h z f M (hR) (hM) (hH)) gX4_setRules_X1_keep rfl (by decide +kernel) ⟨Nat.le_of_ble_eq_true rfl, Nat.le_of_ble_eq_true rfl⟩ hK hT hP hS (Fp.blocks hP hD hS hA (cs := [wHb ad ct, wKb cy ad nx, wSt cy ad 20 (Zh 0) (Fh 0), wSt cy ad 27 (Zh 1) (Fh 1), wSt cy ad 34 (Zh 2) (Fh 2), wSt cy ad 41 (Zh 3) (Fh 3), wSt cy ad 48 (Zh 4) (Fh 4), wSt cy ad 55 (Zh 5) (Fh 5), wSt cy ad 1 z f]) (nb := fun (u : Int × Int × (Nat → Nat → Int) × (Nat → Nat → Nat → Int32)) => [wHb ad u.2.1, wKb cy ad u.1, wSt cy ad 20 (u.2.2.1 0) (u.2.2.2 0), wSt cy ad 27 (u.2.2.1 1) (u.2.2.2 1), wSt cy ad 34 (u.2.2.1 2) (u.2.2.2 2), wSt cy ad 41 (u.2.2.1 3) (u.2.2.2 3), wSt cy ad 48 (u.2.2.1 4) (u.2.2.2 4), wSt cy ad 55 (u.2.2.1 5) (u.2.2.2 5), wSt cy ad 1 z f]) (nbs := fun (u : Int × Int × (Nat → Nat → Int) × (Nat → Nat → Nat → Int32)) => [wTop ad, wSt cy ad 1 z f, wHb ad u.2.1, wKb cy ad u.1, wSt cy ad 20 (u.2.2.1 0) (u.2.2.2 0), wSt cy ad 27 (u.2.2.1 1) (u.2.2.2 1), wSt cy ad 34 (u.2.2.1 2) (u.2.2.2 2), wSt cy ad 41 (u.2.2.1 3) (u.2.2.2 3), wSt cy ad 48 (u.2.2.1 4) (u.2.2.2 4), wSt cy ad 55 (u.2.2.1 5) (u.2.2.2 5)]) [2, 3, 4, 5, 6, 7, 8, 9, 1] rfl rfl rfl (fun _ => rfl) (fun _ => rfl) (fun _ => rfl)) 8 1 rfl rfl rfl rfl hl.1 rfl (Nat.le_of_ble_eq_true rfl) dX4_setRules_8 ⟨Nat.zero_le _, Nat.zero_le _⟩ (fun  u_1 H locs hw_1 hP hD hS => ?_)
  obtain ⟨nx1_1, ct1_1, Zh1_1, Fh1_1⟩ := u_1
  have hw_1 : RXH nx1_1 ct1_1 Zh1_1 Fh1_1 (pushH h M) := hw_1
  have hP : va_P D vwCl (List.flatten [wTop ad, wSt cy ad 1 z f, wHb ad ct1_1, wKb cy ad nx1_1, wSt cy ad 20 (Zh1_1 0) (Fh1_1 0), wSt cy ad 27 (Zh1_1 1) (Fh1_1 1), wSt cy ad 34 (Zh1_1 2) (Fh1_1 2), wSt cy ad 41 (Zh1_1 3) (Fh1_1 3), wSt cy ad 48 (Zh1_1 4) (Fh1_1 4), wSt cy ad 55 (Zh1_1 5) (Fh1_1 5)]) H := hP
  have hD : va_D A (List.flatten [wTop ad, wSt cy ad 1 z f, wHb ad ct1_1, wKb cy ad nx1_1, wSt cy ad 20 (Zh1_1 0) (Fh1_1 0), wSt cy ad 27 (Zh1_1 1) (Fh1_1 1), wSt cy ad 34 (Zh1_1 2) (Fh1_1 2), wSt cy ad 41 (Zh1_1 3) (Fh1_1 3), wSt cy ad 48 (Zh1_1 4) (Fh1_1 4), wSt cy ad 55 (Zh1_1 5) (Fh1_1 5)]) := hD
  refine lv_aload_n hx hb dX4_setRules_11 rfl (lv_at hl 0 rfl) ?_
  refine va_get (D := D) (ci := 4) (v := .ref (ad 1)) (C := RX4) (T := TX4) (N := 7) hx hb hts hiX4 hown hK hP 0 rfl rfl 0 (by decide) (hts (.fieldLink RX4 10 "BackwardSearch" "state" "LBackwardSearch$State;") (by decide +kernel)) (fun _ h9 => h9) rfl dX4_setRules_12 ?_
  refine z_gVi (n := 0) (b := ad 1) (As := []) (rest := []) ⟨hx, hb, hml, hown, hts⟩ (c_X3_rulesOn l D cy (ad 1) (ad 2) (ad 4) (ad 6) (z 3) (z 4) (z 5) (z 6) (z 7) (by first | assumption | omega)) gX4_setRules_X3_rulesOn rfl (by decide +kernel) ⟨Nat.le_of_ble_eq_true rfl, Nat.le_of_ble_eq_true rfl⟩ hK hT hP hS (Fp.same hP hD hS hA [1] rfl rfl (fun _ => rfl)) 1 3 rfl rfl rfl rfl hl.1 rfl (Nat.le_of_ble_eq_true rfl) dX4_setRules_15 ⟨Nat.zero_le _, Nat.zero_le _⟩ (fun r_2 u_2 H locs hw_2 hP hD hS => ?_)
  have hw_2 : r_2 = iI ((z 3) + (z 4)) := hw_2
  have hP : va_P D vwCl (List.flatten [wTop ad, wSt cy ad 1 z f, wHb ad ct1_1, wKb cy ad nx1_1, wSt cy ad 20 (Zh1_1 0) (Fh1_1 0), wSt cy ad 27 (Zh1_1 1) (Fh1_1 1), wSt cy ad 34 (Zh1_1 2) (Fh1_1 2), wSt cy ad 41 (Zh1_1 3) (Fh1_1 3), wSt cy ad 48 (Zh1_1 4) (Fh1_1 4), wSt cy ad 55 (Zh1_1 5) (Fh1_1 5)]) H := hP
  have hD : va_D A (List.flatten [wTop ad, wSt cy ad 1 z f, wHb ad ct1_1, wKb cy ad nx1_1, wSt cy ad 20 (Zh1_1 0) (Fh1_1 0), wSt cy ad 27 (Zh1_1 1) (Fh1_1 1), wSt cy ad 34 (Zh1_1 2) (Fh1_1 2), wSt cy ad 41 (Zh1_1 3) (Fh1_1 3), wSt cy ad 48 (Zh1_1 4) (Fh1_1 4), wSt cy ad 55 (Zh1_1 5) (Fh1_1 5)]) := hD
  obtain rfl := hw_2
  refine lv_istore_n (lv' := [(3, .int (iI ((z 3) + (z 4)))), (0, .ref (ad 0)), (1, .int (iI x)), (2, .int (iI y))]) hx hb dX4_setRules_18 rfl hl (by decide) rfl (fun ls hl => ?_)
  refine lv_aload_n hx hb dX4_setRules_19 rfl (lv_at hl 1 rfl) ?_
  refine va_get (D := D) (ci := 4) (v := .ref (ad 1)) (C := RX4) (T := TX4) (N := 7) hx hb hts hiX4 hown hK hP 0 rfl rfl 0 (by decide) (hts (.fieldLink RX4 10 "BackwardSearch" "state" "LBackwardSearch$State;") (by decide +kernel)) (fun _ h9 => h9) rfl dX4_setRules_20 ?_
  refine lv_iload_n hx hb dX4_setRules_23 rfl (lv_at hl 2 rfl) ?_
  refine lv_iload_n hx hb dX4_setRules_24 rfl (lv_at hl 3 rfl) ?_
  refine z_gVv (n := 2) (b := ad 1) (As := [.int (iI x), .int (iI y)]) (rest := []) ⟨hx, hb, hml, hown, hts⟩ (c_X3_useRules l D cy (ad 1) (ad 2) (ad 4) (ad 6) (z 3) (z 4) (z 5) (z 6) (z 7) x y (by first | assumption | omega) (by first | assumption | omega)) gX4_setRules_X3_useRules rfl (by decide +kernel) ⟨Nat.le_of_ble_eq_true rfl, Nat.le_of_ble_eq_true rfl⟩ hK hT hP hS (Fp.part hP hD hS hA (nbl := fun (u : Unit) => wSt cy ad 1 (zL [z 0, z 1, z 2, x, y, (z 5), (z 6), (z 7)]) f) (nbs := fun (u : Unit) => [wTop ad, wSt cy ad 1 (zL [z 0, z 1, z 2, x, y, (z 5), (z 6), (z 7)]) f, wHb ad ct1_1, wKb cy ad nx1_1, wSt cy ad 20 (Zh1_1 0) (Fh1_1 0), wSt cy ad 27 (Zh1_1 1) (Fh1_1 1), wSt cy ad 34 (Zh1_1 2) (Fh1_1 2), wSt cy ad 41 (Zh1_1 3) (Fh1_1 3), wSt cy ad 48 (Zh1_1 4) (Fh1_1 4), wSt cy ad 55 (Zh1_1 5) (Fh1_1 5)]) 1 rfl [0] rfl rfl (fun _ => rfl) (fun _ => rfl) (fun _ => rfl)) 1 3 rfl rfl rfl rfl hl.1 rfl (Nat.le_of_ble_eq_true rfl) dX4_setRules_25 ⟨Nat.zero_le _, Nat.zero_le _⟩ (fun  u_3 H locs hw_3 hP hD hS => ?_)
  have hw_3 : True := hw_3
  have hP : va_P D vwCl (List.flatten [wTop ad, wSt cy ad 1 (zL [z 0, z 1, z 2, x, y, (z 5), (z 6), (z 7)]) f, wHb ad ct1_1, wKb cy ad nx1_1, wSt cy ad 20 (Zh1_1 0) (Fh1_1 0), wSt cy ad 27 (Zh1_1 1) (Fh1_1 1), wSt cy ad 34 (Zh1_1 2) (Fh1_1 2), wSt cy ad 41 (Zh1_1 3) (Fh1_1 3), wSt cy ad 48 (Zh1_1 4) (Fh1_1 4), wSt cy ad 55 (Zh1_1 5) (Fh1_1 5)]) H := hP
  have hD : va_D A (List.flatten [wTop ad, wSt cy ad 1 (zL [z 0, z 1, z 2, x, y, (z 5), (z 6), (z 7)]) f, wHb ad ct1_1, wKb cy ad nx1_1, wSt cy ad 20 (Zh1_1 0) (Fh1_1 0), wSt cy ad 27 (Zh1_1 1) (Fh1_1 1), wSt cy ad 34 (Zh1_1 2) (Fh1_1 2), wSt cy ad 41 (Zh1_1 3) (Fh1_1 3), wSt cy ad 48 (Zh1_1 4) (Fh1_1 4), wSt cy ad 55 (Zh1_1 5) (Fh1_1 5)]) := hD
  refine lv_aload_n hx hb dX4_setRules_28 rfl (lv_at hl 1 rfl) ?_
  refine va_get (D := D) (ci := 4) (v := .ref (ad 1)) (C := RX4) (T := TX4) (N := 7) hx hb hts hiX4 hown hK hP 0 rfl rfl 0 (by decide) (hts (.fieldLink RX4 10 "BackwardSearch" "state" "LBackwardSearch$State;") (by decide +kernel)) (fun _ h9 => h9) rfl dX4_setRules_29 ?_
  refine z_gVv (n := 0) (b := ad 1) (As := []) (rest := []) ⟨hx, hb, hml, hown, hts⟩ (c_X3_beginAnew l D cy (ad 1) (ad 2) (ad 4) (ad 6) (ad 7) (z 2) x y (z 5) (z 6) (z 7) ) gX4_setRules_X3_beginAnew rfl (by decide +kernel) ⟨Nat.le_of_ble_eq_true rfl, Nat.le_of_ble_eq_true rfl⟩ hK hT hP hS (Fp.part hP hD hS hA (nbl := fun (u : Unit) => wSt cy ad 1 (zL [z 0, z 1, 0, x, y, 0, 0, 0]) f) (nbs := fun (u : Unit) => [wTop ad, wSt cy ad 1 (zL [z 0, z 1, 0, x, y, 0, 0, 0]) f, wHb ad ct1_1, wKb cy ad nx1_1, wSt cy ad 20 (Zh1_1 0) (Fh1_1 0), wSt cy ad 27 (Zh1_1 1) (Fh1_1 1), wSt cy ad 34 (Zh1_1 2) (Fh1_1 2), wSt cy ad 41 (Zh1_1 3) (Fh1_1 3), wSt cy ad 48 (Zh1_1 4) (Fh1_1 4), wSt cy ad 55 (Zh1_1 5) (Fh1_1 5)]) 1 rfl [0, 5] rfl rfl (fun _ => rfl) (fun _ => rfl) (fun _ => rfl)) 1 3 rfl rfl rfl rfl hl.1 rfl (Nat.le_of_ble_eq_true rfl) dX4_setRules_32 ⟨Nat.zero_le _, Nat.zero_le _⟩ (fun  u_4 H locs hw_4 hP hD hS => ?_)
  have hw_4 : True := hw_4
  have hP : va_P D vwCl (List.flatten [wTop ad, wSt cy ad 1 (zL [z 0, z 1, 0, x, y, 0, 0, 0]) f, wHb ad ct1_1, wKb cy ad nx1_1, wSt cy ad 20 (Zh1_1 0) (Fh1_1 0), wSt cy ad 27 (Zh1_1 1) (Fh1_1 1), wSt cy ad 34 (Zh1_1 2) (Fh1_1 2), wSt cy ad 41 (Zh1_1 3) (Fh1_1 3), wSt cy ad 48 (Zh1_1 4) (Fh1_1 4), wSt cy ad 55 (Zh1_1 5) (Fh1_1 5)]) H := hP
  have hD : va_D A (List.flatten [wTop ad, wSt cy ad 1 (zL [z 0, z 1, 0, x, y, 0, 0, 0]) f, wHb ad ct1_1, wKb cy ad nx1_1, wSt cy ad 20 (Zh1_1 0) (Fh1_1 0), wSt cy ad 27 (Zh1_1 1) (Fh1_1 1), wSt cy ad 34 (Zh1_1 2) (Fh1_1 2), wSt cy ad 41 (Zh1_1 3) (Fh1_1 3), wSt cy ad 48 (Zh1_1 4) (Fh1_1 4), wSt cy ad 55 (Zh1_1 5) (Fh1_1 5)]) := hD
  refine lv_iload_n hx hb dX4_setRules_35 rfl (lv_at hl 0 rfl) ?_
  exact z_iret hx hb hr hlocks hS ((zL [z 0, z 1, 0, x, y, 0, 0, 0]), f, nx1_1, ct1_1, Zh1_1, Fh1_1) (show (iI ((z 3) + (z 4))) = iI (M.2.2.2.1 + M.2.2.2.2.1) ∧ RS (zL [z 0, z 1, 0, x, y, 0, 0, 0]) f (mRules M x y) ∧ RXH nx1_1 ct1_1 Zh1_1 Fh1_1 (pushH h M) from ⟨congrArg iI (by omega), RS_rules hR, hw_1⟩) hP dX4_setRules_36
set_option maxHeartbeats 4000000 in
set_option maxRecDepth 100000 in
theorem c_X4_rewind (l : Launch) (D : va_G) (cy : Nat → ClassId) (ad : Nat → Nat) (z : Nat → Int) (f : Nat → Nat → Int32) (M : MS) (nx : Int) (ct : Int) (Zh : Nat → Nat → Int) (Fh : Nat → Nat → Nat → Int32) (h : List MS) (hR : RS z f M) (hM : MOk M) (hH : RXH nx ct Zh Fh h) : Ci l D cy yX4_rewind wsX4_rewind 4 87 [.ref (ad 0)] (List.flatten [wTop ad, wSt cy ad 1 z f, wHb ad ct, wKb cy ad nx, wSt cy ad 20 (Zh 0) (Fh 0), wSt cy ad 27 (Zh 1) (Fh 1), wSt cy ad 34 (Zh 2) (Fh 2), wSt cy ad 41 (Zh 3) (Fh 3), wSt cy ad 48 (Zh 4) (Fh 4), wSt cy ad 55 (Zh 5) (Fh 5)]) (fun (r : Int32) (u : (Nat → Int) × (Nat → Nat → Int32) × Int × Int × (Nat → Nat → Int) × (Nat → Nat → Nat → Int32)) => r = iI M.2.2.2.2.2.2.1 ∧ RS u.1 u.2.1 (bgn M) ∧ RXH u.2.2.1 u.2.2.2.1 u.2.2.2.2.1 u.2.2.2.2.2 (pushH h M)) (fun u : (Nat → Int) × (Nat → Nat → Int32) × Int × Int × (Nat → Nat → Int) × (Nat → Nat → Nat → Int32) => (List.flatten [wTop ad, wSt cy ad 1 u.1 u.2.1, wHb ad u.2.2.2.1, wKb cy ad u.2.2.1, wSt cy ad 20 (u.2.2.2.2.1 0) (u.2.2.2.2.2 0), wSt cy ad 27 (u.2.2.2.2.1 1) (u.2.2.2.2.2 1), wSt cy ad 34 (u.2.2.2.2.1 2) (u.2.2.2.2.2 2), wSt cy ad 41 (u.2.2.2.2.1 3) (u.2.2.2.2.2 3), wSt cy ad 48 (u.2.2.2.2.1 4) (u.2.2.2.2.2 4), wSt cy ad 55 (u.2.2.2.2.1 5) (u.2.2.2.2.2 5)])) := by
  refine Ci_of (cc := cX4_rewind) (maxL := 2) (ret := (some .int)) (by decide) rfl rfl ?_
  intro p e s m args below meth c A hx hb hr hts hown hlocks hml hP hK hD hT hA ls hl
  have hS : va_S A s.heap s.heap [] := va_S.rf
  have hl : lv_has ls 2 [(0, .ref (ad 0))] := hl
  have hP : va_P D vwCl (List.flatten [wTop ad, wSt cy ad 1 z f, wHb ad ct, wKb cy ad nx, wSt cy ad 20 (Zh 0) (Fh 0), wSt cy ad 27 (Zh 1) (Fh 1), wSt cy ad 34 (Zh 2) (Fh 2), wSt cy ad 41 (Zh 3) (Fh 3), wSt cy ad 48 (Zh 4) (Fh 4), wSt cy ad 55 (Zh 5) (Fh 5)]) s.heap := hP
  have hD : va_D A (List.flatten [wTop ad, wSt cy ad 1 z f, wHb ad ct, wKb cy ad nx, wSt cy ad 20 (Zh 0) (Fh 0), wSt cy ad 27 (Zh 1) (Fh 1), wSt cy ad 34 (Zh 2) (Fh 2), wSt cy ad 41 (Zh 3) (Fh 3), wSt cy ad 48 (Zh 4) (Fh 4), wSt cy ad 55 (Zh 5) (Fh 5)]) := hD
  have hiX3 : ∀ w ∈ wsX30, w ∈ wsX4_rewind := by decide +kernel
  have hiX4 : ∀ w ∈ wsX40, w ∈ wsX4_rewind := by decide +kernel
  obtain ⟨r0, r1, r2, r3, r4, r5, r6, r7⟩ := id hR
  obtain ⟨o1, o2, o3, o4, o5, o6, o7, o8, o9, o10, o11, o12, o13, o14, o15⟩ := id hM
  have q0 := r0.1
  have q1 := r1.1
  have q2 := r2.1
  refine lv_aload_n hx hb dX4_rewind_0 rfl (lv_at hl 0 rfl) ?_
  refine va_get (D := D) (ci := 4) (v := .ref (ad 18)) (C := RX4) (T := TX4) (N := 7) hx hb hts hiX4 hown hK hP 0 rfl rfl 3 (by decide) (hts (.fieldLink RX4 29 "BackwardSearch" "history" "LBackwardSearch$History;") (by decide +kernel)) (fun _ h9 => h9) rfl dX4_rewind_1 ?_
  refine lv_aload_n hx hb dX4_rewind_4 rfl (lv_at hl 0 rfl) ?_
  refine va_get (D := D) (ci := 4) (v := .ref (ad 1)) (C := RX4) (T := TX4) (N := 7) hx hb hts hiX4 hown hK hP 0 rfl rfl 0 (by decide) (hts (.fieldLink RX4 10 "BackwardSearch" "state" "LBackwardSearch$State;") (by decide +kernel)) (fun _ h9 => h9) rfl dX4_rewind_5 ?_
  refine z_gVv (n := 1) (b := ad 18) (As := [.ref (ad 1)]) (rest := []) ⟨hx, hb, hml, hown, hts⟩ (c_X1_keepA l D cy ad nx ct Zh Fh h z f M (hR) (hM) (hH)) gX4_rewind_X1_keep rfl (by decide +kernel) ⟨Nat.le_of_ble_eq_true rfl, Nat.le_of_ble_eq_true rfl⟩ hK hT hP hS (Fp.blocks hP hD hS hA (cs := [wHb ad ct, wKb cy ad nx, wSt cy ad 20 (Zh 0) (Fh 0), wSt cy ad 27 (Zh 1) (Fh 1), wSt cy ad 34 (Zh 2) (Fh 2), wSt cy ad 41 (Zh 3) (Fh 3), wSt cy ad 48 (Zh 4) (Fh 4), wSt cy ad 55 (Zh 5) (Fh 5), wSt cy ad 1 z f]) (nb := fun (u : Int × Int × (Nat → Nat → Int) × (Nat → Nat → Nat → Int32)) => [wHb ad u.2.1, wKb cy ad u.1, wSt cy ad 20 (u.2.2.1 0) (u.2.2.2 0), wSt cy ad 27 (u.2.2.1 1) (u.2.2.2 1), wSt cy ad 34 (u.2.2.1 2) (u.2.2.2 2), wSt cy ad 41 (u.2.2.1 3) (u.2.2.2 3), wSt cy ad 48 (u.2.2.1 4) (u.2.2.2 4), wSt cy ad 55 (u.2.2.1 5) (u.2.2.2 5), wSt cy ad 1 z f]) (nbs := fun (u : Int × Int × (Nat → Nat → Int) × (Nat → Nat → Nat → Int32)) => [wTop ad, wSt cy ad 1 z f, wHb ad u.2.1, wKb cy ad u.1, wSt cy ad 20 (u.2.2.1 0) (u.2.2.2 0), wSt cy ad 27 (u.2.2.1 1) (u.2.2.2 1), wSt cy ad 34 (u.2.2.1 2) (u.2.2.2 2), wSt cy ad 41 (u.2.2.1 3) (u.2.2.2 3), wSt cy ad 48 (u.2.2.1 4) (u.2.2.2 4), wSt cy ad 55 (u.2.2.1 5) (u.2.2.2 5)]) [2, 3, 4, 5, 6, 7, 8, 9, 1] rfl rfl rfl (fun _ => rfl) (fun _ => rfl) (fun _ => rfl)) 8 1 rfl rfl rfl rfl hl.1 rfl (Nat.le_of_ble_eq_true rfl) dX4_rewind_8 ⟨Nat.zero_le _, Nat.zero_le _⟩ (fun  u_1 H locs hw_1 hP hD hS => ?_)
  obtain ⟨nx1_1, ct1_1, Zh1_1, Fh1_1⟩ := u_1
  have hw_1 : RXH nx1_1 ct1_1 Zh1_1 Fh1_1 (pushH h M) := hw_1
  have hP : va_P D vwCl (List.flatten [wTop ad, wSt cy ad 1 z f, wHb ad ct1_1, wKb cy ad nx1_1, wSt cy ad 20 (Zh1_1 0) (Fh1_1 0), wSt cy ad 27 (Zh1_1 1) (Fh1_1 1), wSt cy ad 34 (Zh1_1 2) (Fh1_1 2), wSt cy ad 41 (Zh1_1 3) (Fh1_1 3), wSt cy ad 48 (Zh1_1 4) (Fh1_1 4), wSt cy ad 55 (Zh1_1 5) (Fh1_1 5)]) H := hP
  have hD : va_D A (List.flatten [wTop ad, wSt cy ad 1 z f, wHb ad ct1_1, wKb cy ad nx1_1, wSt cy ad 20 (Zh1_1 0) (Fh1_1 0), wSt cy ad 27 (Zh1_1 1) (Fh1_1 1), wSt cy ad 34 (Zh1_1 2) (Fh1_1 2), wSt cy ad 41 (Zh1_1 3) (Fh1_1 3), wSt cy ad 48 (Zh1_1 4) (Fh1_1 4), wSt cy ad 55 (Zh1_1 5) (Fh1_1 5)]) := hD
  refine lv_aload_n hx hb dX4_rewind_11 rfl (lv_at hl 0 rfl) ?_
  refine va_get (D := D) (ci := 4) (v := .ref (ad 1)) (C := RX4) (T := TX4) (N := 7) hx hb hts hiX4 hown hK hP 0 rfl rfl 0 (by decide) (hts (.fieldLink RX4 10 "BackwardSearch" "state" "LBackwardSearch$State;") (by decide +kernel)) (fun _ h9 => h9) rfl dX4_rewind_12 ?_
  refine va_getN (D := D) (ci := 3) (v := .int (iI (z 6))) (C := RX3) (T := TX3) (N := 8) (host := RX4) hx hb hts hiX3 hown hK hP 1 rfl rfl 6 (by decide) (va_Nw.use rfl (hT.1 _ (List.mem_of_getElem? (i := 4) rfl))) (fun _ h9 => h9) rfl dX4_rewind_15 ?_
  refine lv_istore_n (lv' := [(1, .int (iI (z 6))), (0, .ref (ad 0))]) hx hb dX4_rewind_18 rfl hl (by decide) rfl (fun ls hl => ?_)
  refine lv_aload_n hx hb dX4_rewind_19 rfl (lv_at hl 1 rfl) ?_
  refine va_get (D := D) (ci := 4) (v := .ref (ad 1)) (C := RX4) (T := TX4) (N := 7) hx hb hts hiX4 hown hK hP 0 rfl rfl 0 (by decide) (hts (.fieldLink RX4 10 "BackwardSearch" "state" "LBackwardSearch$State;") (by decide +kernel)) (fun _ h9 => h9) rfl dX4_rewind_20 ?_
  refine z_gVv (n := 0) (b := ad 1) (As := []) (rest := []) ⟨hx, hb, hml, hown, hts⟩ (c_X3_beginAnew l D cy (ad 1) (ad 2) (ad 4) (ad 6) (ad 7) (z 2) (z 3) (z 4) (z 5) (z 6) (z 7) ) gX4_rewind_X3_beginAnew rfl (by decide +kernel) ⟨Nat.le_of_ble_eq_true rfl, Nat.le_of_ble_eq_true rfl⟩ hK hT hP hS (Fp.part hP hD hS hA (nbl := fun (u : Unit) => wSt cy ad 1 (zL [z 0, z 1, 0, (z 3), (z 4), 0, 0, 0]) f) (nbs := fun (u : Unit) => [wTop ad, wSt cy ad 1 (zL [z 0, z 1, 0, (z 3), (z 4), 0, 0, 0]) f, wHb ad ct1_1, wKb cy ad nx1_1, wSt cy ad 20 (Zh1_1 0) (Fh1_1 0), wSt cy ad 27 (Zh1_1 1) (Fh1_1 1), wSt cy ad 34 (Zh1_1 2) (Fh1_1 2), wSt cy ad 41 (Zh1_1 3) (Fh1_1 3), wSt cy ad 48 (Zh1_1 4) (Fh1_1 4), wSt cy ad 55 (Zh1_1 5) (Fh1_1 5)]) 1 rfl [0, 5] rfl rfl (fun _ => rfl) (fun _ => rfl) (fun _ => rfl)) 1 3 rfl rfl rfl rfl hl.1 rfl (Nat.le_of_ble_eq_true rfl) dX4_rewind_23 ⟨Nat.zero_le _, Nat.zero_le _⟩ (fun  u_2 H locs hw_2 hP hD hS => ?_)
  have hw_2 : True := hw_2
  have hP : va_P D vwCl (List.flatten [wTop ad, wSt cy ad 1 (zL [z 0, z 1, 0, (z 3), (z 4), 0, 0, 0]) f, wHb ad ct1_1, wKb cy ad nx1_1, wSt cy ad 20 (Zh1_1 0) (Fh1_1 0), wSt cy ad 27 (Zh1_1 1) (Fh1_1 1), wSt cy ad 34 (Zh1_1 2) (Fh1_1 2), wSt cy ad 41 (Zh1_1 3) (Fh1_1 3), wSt cy ad 48 (Zh1_1 4) (Fh1_1 4), wSt cy ad 55 (Zh1_1 5) (Fh1_1 5)]) H := hP
  have hD : va_D A (List.flatten [wTop ad, wSt cy ad 1 (zL [z 0, z 1, 0, (z 3), (z 4), 0, 0, 0]) f, wHb ad ct1_1, wKb cy ad nx1_1, wSt cy ad 20 (Zh1_1 0) (Fh1_1 0), wSt cy ad 27 (Zh1_1 1) (Fh1_1 1), wSt cy ad 34 (Zh1_1 2) (Fh1_1 2), wSt cy ad 41 (Zh1_1 3) (Fh1_1 3), wSt cy ad 48 (Zh1_1 4) (Fh1_1 4), wSt cy ad 55 (Zh1_1 5) (Fh1_1 5)]) := hD
  refine lv_iload_n hx hb dX4_rewind_26 rfl (lv_at hl 0 rfl) ?_
  exact z_iret hx hb hr hlocks hS ((zL [z 0, z 1, 0, (z 3), (z 4), 0, 0, 0]), f, nx1_1, ct1_1, Zh1_1, Fh1_1) (show (iI (z 6)) = iI M.2.2.2.2.2.2.1 ∧ RS (zL [z 0, z 1, 0, (z 3), (z 4), 0, 0, 0]) f (bgn M) ∧ RXH nx1_1 ct1_1 Zh1_1 Fh1_1 (pushH h M) from ⟨congrArg iI r6, RS_bgn hR, hw_1⟩) hP dX4_rewind_27
set_option maxHeartbeats 4000000 in
set_option maxRecDepth 100000 in
theorem c_X4_setLetter (l : Launch) (hfl : l.stackTraces = false) (D : va_G) (cy : Nat → ClassId) (ad : Nat → Nat) (z : Nat → Int) (f : Nat → Nat → Int32) (M : MS) (nx : Int) (ct : Int) (Zh : Nat → Nat → Int) (Fh : Nat → Nat → Nat → Int32) (h : List MS) (x : Int) (y : Int) (hR : RS z f M) (hM : MOk M) (hH : RXH nx ct Zh Fh h) (hx1 : -2147483648 ≤ x ∧ x < 2147483648) (hy1 : -2147483648 ≤ y ∧ y < 2147483648) : Xi l D cy yX4_setLetter wsX4_setLetter 7 113 2 [.ref (ad 0), .int (iI x), .int (iI y)] (List.flatten [wTop ad, wSt cy ad 1 z f, wHb ad ct, wKb cy ad nx, wSt cy ad 20 (Zh 0) (Fh 0), wSt cy ad 27 (Zh 1) (Fh 1), wSt cy ad 34 (Zh 2) (Fh 2), wSt cy ad 41 (Zh 3) (Fh 3), wSt cy ad 48 (Zh 4) (Fh 4), wSt cy ad 55 (Zh 5) (Fh 5)]) (fun (r : Int32) (u : (Nat → Int) × (Nat → Nat → Int32) × Int × Int × (Nat → Nat → Int) × (Nat → Nat → Nat → Int32)) => (0 ≤ x ∧ x < (M.1.length : Int)) ∧ (0 ≤ y ∧ y ≤ 25) ∧ r = gl M.1 x.toNat ∧ RS u.1 u.2.1 (mSet M x.toNat (iI y)) ∧ RXH u.2.2.1 u.2.2.2.1 u.2.2.2.2.1 u.2.2.2.2.2 (pushH h M)) (fun u : (Nat → Int) × (Nat → Nat → Int32) × Int × Int × (Nat → Nat → Int) × (Nat → Nat → Nat → Int32) => (List.flatten [wTop ad, wSt cy ad 1 u.1 u.2.1, wHb ad u.2.2.2.1, wKb cy ad u.2.2.1, wSt cy ad 20 (u.2.2.2.2.1 0) (u.2.2.2.2.2 0), wSt cy ad 27 (u.2.2.2.2.1 1) (u.2.2.2.2.2 1), wSt cy ad 34 (u.2.2.2.2.1 2) (u.2.2.2.2.2 2), wSt cy ad 41 (u.2.2.2.2.1 3) (u.2.2.2.2.2 3), wSt cy ad 48 (u.2.2.2.2.1 4) (u.2.2.2.2.2 4), wSt cy ad 55 (u.2.2.2.2.1 5) (u.2.2.2.2.2 5)])) (fun E => (E = xIOB ∧ ¬ (0 ≤ x ∧ x < (M.1.length : Int))) ∨ (E = xIAE ∧ (0 ≤ x ∧ x < (M.1.length : Int)) ∧ ¬ (0 ≤ y ∧ y ≤ 25))) := by
  refine Xi_of (cc := cX4_setLetter) (maxL := 4) (ret := (some .int)) (by decide) rfl rfl ?_
  intro p e s m args below meth c A hx hb hr hts hown hlocks hml htab hP hK hD hT hC hZ hA ls hl
  have hS : va_S A s.heap s.heap [] := va_S.rf
  have hl : lv_has ls 4 [(0, .ref (ad 0)), (1, .int (iI x)), (2, .int (iI y))] := hl
  have hP : va_P D vwCl (List.flatten [wTop ad, wSt cy ad 1 z f, wHb ad ct, wKb cy ad nx, wSt cy ad 20 (Zh 0) (Fh 0), wSt cy ad 27 (Zh 1) (Fh 1), wSt cy ad 34 (Zh 2) (Fh 2), wSt cy ad 41 (Zh 3) (Fh 3), wSt cy ad 48 (Zh 4) (Fh 4), wSt cy ad 55 (Zh 5) (Fh 5)]) s.heap := hP
  have hD : va_D A (List.flatten [wTop ad, wSt cy ad 1 z f, wHb ad ct, wKb cy ad nx, wSt cy ad 20 (Zh 0) (Fh 0), wSt cy ad 27 (Zh 1) (Fh 1), wSt cy ad 34 (Zh 2) (Fh 2), wSt cy ad 41 (Zh 3) (Fh 3), wSt cy ad 48 (Zh 4) (Fh 4), wSt cy ad 55 (Zh 5) (Fh 5)]) := hD
  have hiX3 : ∀ w ∈ wsX30, w ∈ wsX4_setLetter := by decide +kernel
  have hiX4 : ∀ w ∈ wsX40, w ∈ wsX4_setLetter := by decide +kernel
  obtain ⟨r0, r1, r2, r3, r4, r5, r6, r7⟩ := id hR
  obtain ⟨o1, o2, o3, o4, o5, o6, o7, o8, o9, o10, o11, o12, o13, o14, o15⟩ := id hM
  have q0 := r0.1
  have q1 := r1.1
  have q2 := r2.1
  refine lv_aload_n hx hb dX4_setLetter_0 rfl (lv_at hl 0 rfl) ?_
  refine va_get (D := D) (ci := 4) (v := .ref (ad 1)) (C := RX4) (T := TX4) (N := 7) hx hb hts hiX4 hown hK hP 0 rfl rfl 0 (by decide) (hts (.fieldLink RX4 10 "BackwardSearch" "state" "LBackwardSearch$State;") (by decide +kernel)) (fun _ h9 => h9) rfl dX4_setLetter_1 ?_
  refine va_getN (D := D) (ci := 3) (v := .ref (ad 2)) (C := RX3) (T := TX3) (N := 8) (host := RX4) hx hb hts hiX3 hown hK hP 1 rfl rfl 0 (by decide) (va_Nw.use rfl (hT.1 _ (List.mem_of_getElem? (i := 0) rfl))) (fun _ h9 => h9) rfl dX4_setLetter_4 ?_
  refine lv_iload_n hx hb dX4_setLetter_7 rfl (lv_at hl 1 rfl) ?_
  refine x_gSv (n := 2) (As := [.ref (ad 2), .int (iI x)]) (rest := []) ⟨hx, hb, hml, hown, hts⟩ (c_X4_refuseUnlessIn l hfl D cy (ad 2) (ad 3) (z 0) x (by first | assumption | omega) (by first | assumption | omega)) gX4_setLetter_X4_refuseUnlessIn rfl (by decide +kernel) ⟨Nat.le_of_ble_eq_true rfl, Nat.le_of_ble_eq_true rfl⟩ hK hT hC hZ htab hlocks hS (Fp.same hP hD hS hA [2] rfl rfl (fun _ => rfl)) (fun _ => rfl) (fun E hE => Or.inl ⟨hE.1, fun h => hE.2 (by omega)⟩) () rfl hl.1 rfl (Nat.le_of_ble_eq_true rfl) dX4_setLetter_8 ⟨by decide, by decide⟩ (by decide) (by decide) (fun  u_1 H locs hw_1 hP hD hS => ?_)
  have hw_1 : 0 ≤ x ∧ x < (z 0) := hw_1
  have hP : va_P D vwCl (List.flatten [wTop ad, wSt cy ad 1 z f, wHb ad ct, wKb cy ad nx, wSt cy ad 20 (Zh 0) (Fh 0), wSt cy ad 27 (Zh 1) (Fh 1), wSt cy ad 34 (Zh 2) (Fh 2), wSt cy ad 41 (Zh 3) (Fh 3), wSt cy ad 48 (Zh 4) (Fh 4), wSt cy ad 55 (Zh 5) (Fh 5)]) H := hP
  have hD : va_D A (List.flatten [wTop ad, wSt cy ad 1 z f, wHb ad ct, wKb cy ad nx, wSt cy ad 20 (Zh 0) (Fh 0), wSt cy ad 27 (Zh 1) (Fh 1), wSt cy ad 34 (Zh 2) (Fh 2), wSt cy ad 41 (Zh 3) (Fh 3), wSt cy ad 48 (Zh 4) (Fh 4), wSt cy ad 55 (Zh 5) (Fh 5)]) := hD
  refine lv_iload_n hx hb dX4_setLetter_11 rfl (lv_at hl 2 rfl) ?_
  refine x_gSv (n := 1) (As := [.int (iI y)]) (rest := []) ⟨hx, hb, hml, hown, hts⟩ (c_X4_refuseUnlessLetter l hfl D cy y (by first | assumption | omega)) gX4_setLetter_X4_refuseUnlessLetter rfl (by decide +kernel) ⟨Nat.le_of_ble_eq_true rfl, Nat.le_of_ble_eq_true rfl⟩ hK hT hC hZ htab hlocks hS (Fp.same hP hD hS hA [] rfl rfl (fun _ => rfl)) (fun _ => rfl) (fun E hE => Or.inr ⟨hE.1, by omega, hE.2⟩) () rfl hl.1 rfl (Nat.le_of_ble_eq_true rfl) dX4_setLetter_12 ⟨by decide, by decide⟩ (by decide) (by decide) (fun  u_2 H locs hw_2 hP hD hS => ?_)
  have hw_2 : 0 ≤ y ∧ y ≤ 25 := hw_2
  have hP : va_P D vwCl (List.flatten [wTop ad, wSt cy ad 1 z f, wHb ad ct, wKb cy ad nx, wSt cy ad 20 (Zh 0) (Fh 0), wSt cy ad 27 (Zh 1) (Fh 1), wSt cy ad 34 (Zh 2) (Fh 2), wSt cy ad 41 (Zh 3) (Fh 3), wSt cy ad 48 (Zh 4) (Fh 4), wSt cy ad 55 (Zh 5) (Fh 5)]) H := hP
  have hD : va_D A (List.flatten [wTop ad, wSt cy ad 1 z f, wHb ad ct, wKb cy ad nx, wSt cy ad 20 (Zh 0) (Fh 0), wSt cy ad 27 (Zh 1) (Fh 1), wSt cy ad 34 (Zh 2) (Fh 2), wSt cy ad 41 (Zh 3) (Fh 3), wSt cy ad 48 (Zh 4) (Fh 4), wSt cy ad 55 (Zh 5) (Fh 5)]) := hD
  refine lv_aload_n hx hb dX4_setLetter_15 rfl (lv_at hl 0 rfl) ?_
  refine va_get (D := D) (ci := 4) (v := .ref (ad 18)) (C := RX4) (T := TX4) (N := 7) hx hb hts hiX4 hown hK hP 0 rfl rfl 3 (by decide) (hts (.fieldLink RX4 29 "BackwardSearch" "history" "LBackwardSearch$History;") (by decide +kernel)) (fun _ h9 => h9) rfl dX4_setLetter_16 ?_
  refine lv_aload_n hx hb dX4_setLetter_19 rfl (lv_at hl 0 rfl) ?_
  refine va_get (D := D) (ci := 4) (v := .ref (ad 1)) (C := RX4) (T := TX4) (N := 7) hx hb hts hiX4 hown hK hP 0 rfl rfl 0 (by decide) (hts (.fieldLink RX4 10 "BackwardSearch" "state" "LBackwardSearch$State;") (by decide +kernel)) (fun _ h9 => h9) rfl dX4_setLetter_20 ?_
  refine z_gVv (n := 1) (b := ad 18) (As := [.ref (ad 1)]) (rest := []) ⟨hx, hb, hml, hown, hts⟩ (c_X1_keepA l D cy ad nx ct Zh Fh h z f M (hR) (hM) (hH)) gX4_setLetter_X1_keep rfl (by decide +kernel) ⟨Nat.le_of_ble_eq_true rfl, Nat.le_of_ble_eq_true rfl⟩ hK hT hP hS (Fp.blocks hP hD hS hA (cs := [wHb ad ct, wKb cy ad nx, wSt cy ad 20 (Zh 0) (Fh 0), wSt cy ad 27 (Zh 1) (Fh 1), wSt cy ad 34 (Zh 2) (Fh 2), wSt cy ad 41 (Zh 3) (Fh 3), wSt cy ad 48 (Zh 4) (Fh 4), wSt cy ad 55 (Zh 5) (Fh 5), wSt cy ad 1 z f]) (nb := fun (u : Int × Int × (Nat → Nat → Int) × (Nat → Nat → Nat → Int32)) => [wHb ad u.2.1, wKb cy ad u.1, wSt cy ad 20 (u.2.2.1 0) (u.2.2.2 0), wSt cy ad 27 (u.2.2.1 1) (u.2.2.2 1), wSt cy ad 34 (u.2.2.1 2) (u.2.2.2 2), wSt cy ad 41 (u.2.2.1 3) (u.2.2.2 3), wSt cy ad 48 (u.2.2.1 4) (u.2.2.2 4), wSt cy ad 55 (u.2.2.1 5) (u.2.2.2 5), wSt cy ad 1 z f]) (nbs := fun (u : Int × Int × (Nat → Nat → Int) × (Nat → Nat → Nat → Int32)) => [wTop ad, wSt cy ad 1 z f, wHb ad u.2.1, wKb cy ad u.1, wSt cy ad 20 (u.2.2.1 0) (u.2.2.2 0), wSt cy ad 27 (u.2.2.1 1) (u.2.2.2 1), wSt cy ad 34 (u.2.2.1 2) (u.2.2.2 2), wSt cy ad 41 (u.2.2.1 3) (u.2.2.2 3), wSt cy ad 48 (u.2.2.1 4) (u.2.2.2 4), wSt cy ad 55 (u.2.2.1 5) (u.2.2.2 5)]) [2, 3, 4, 5, 6, 7, 8, 9, 1] rfl rfl rfl (fun _ => rfl) (fun _ => rfl) (fun _ => rfl)) 8 1 rfl rfl rfl rfl hl.1 rfl (Nat.le_of_ble_eq_true rfl) dX4_setLetter_23 ⟨by decide, by decide⟩ (fun  u_3 H locs hw_3 hP hD hS => ?_)
  obtain ⟨nx1_3, ct1_3, Zh1_3, Fh1_3⟩ := u_3
  have hw_3 : RXH nx1_3 ct1_3 Zh1_3 Fh1_3 (pushH h M) := hw_3
  have hP : va_P D vwCl (List.flatten [wTop ad, wSt cy ad 1 z f, wHb ad ct1_3, wKb cy ad nx1_3, wSt cy ad 20 (Zh1_3 0) (Fh1_3 0), wSt cy ad 27 (Zh1_3 1) (Fh1_3 1), wSt cy ad 34 (Zh1_3 2) (Fh1_3 2), wSt cy ad 41 (Zh1_3 3) (Fh1_3 3), wSt cy ad 48 (Zh1_3 4) (Fh1_3 4), wSt cy ad 55 (Zh1_3 5) (Fh1_3 5)]) H := hP
  have hD : va_D A (List.flatten [wTop ad, wSt cy ad 1 z f, wHb ad ct1_3, wKb cy ad nx1_3, wSt cy ad 20 (Zh1_3 0) (Fh1_3 0), wSt cy ad 27 (Zh1_3 1) (Fh1_3 1), wSt cy ad 34 (Zh1_3 2) (Fh1_3 2), wSt cy ad 41 (Zh1_3 3) (Fh1_3 3), wSt cy ad 48 (Zh1_3 4) (Fh1_3 4), wSt cy ad 55 (Zh1_3 5) (Fh1_3 5)]) := hD
  refine lv_aload_n hx hb dX4_setLetter_26 rfl (lv_at hl 0 rfl) ?_
  refine va_get (D := D) (ci := 4) (v := .ref (ad 1)) (C := RX4) (T := TX4) (N := 7) hx hb hts hiX4 hown hK hP 0 rfl rfl 0 (by decide) (hts (.fieldLink RX4 10 "BackwardSearch" "state" "LBackwardSearch$State;") (by decide +kernel)) (fun _ h9 => h9) rfl dX4_setLetter_27 ?_
  refine va_getN (D := D) (ci := 3) (v := .ref (ad 2)) (C := RX3) (T := TX3) (N := 8) (host := RX4) hx hb hts hiX3 hown hK hP 1 rfl rfl 0 (by decide) (va_Nw.use rfl (hT.1 _ (List.mem_of_getElem? (i := 0) rfl))) (fun _ h9 => h9) rfl dX4_setLetter_30 ?_
  refine lv_iload_n hx hb dX4_setLetter_33 rfl (lv_at hl 1 rfl) ?_
  refine z_gVi (n := 1) (b := ad 2) (As := [.int (iI x)]) (rest := []) ⟨hx, hb, hml, hown, hts⟩ (c_X2_at l D cy (ad 2) (ad 3) 60 (z 0) (f 0) x (by first | assumption | omega) (by first | assumption | omega)) gX4_setLetter_X2_at rfl (by decide +kernel) ⟨Nat.le_of_ble_eq_true rfl, Nat.le_of_ble_eq_true rfl⟩ hK hT hP hS (Fp.same hP hD hS hA [2, 3] rfl rfl (fun _ => rfl)) 2 2 rfl rfl rfl rfl hl.1 rfl (Nat.le_of_ble_eq_true rfl) dX4_setLetter_34 ⟨by decide, by decide⟩ (fun r_4 u_4 H locs hw_4 hP hD hS => ?_)
  have hw_4 : (0 ≤ x ∧ x < (z 0) ∧ r_4 = (f 0) x.toNat) ∨ (¬ (0 ≤ x ∧ x < (z 0)) ∧ r_4 = iI (-1)) := hw_4
  have hP : va_P D vwCl (List.flatten [wTop ad, wSt cy ad 1 z f, wHb ad ct1_3, wKb cy ad nx1_3, wSt cy ad 20 (Zh1_3 0) (Fh1_3 0), wSt cy ad 27 (Zh1_3 1) (Fh1_3 1), wSt cy ad 34 (Zh1_3 2) (Fh1_3 2), wSt cy ad 41 (Zh1_3 3) (Fh1_3 3), wSt cy ad 48 (Zh1_3 4) (Fh1_3 4), wSt cy ad 55 (Zh1_3 5) (Fh1_3 5)]) H := hP
  have hD : va_D A (List.flatten [wTop ad, wSt cy ad 1 z f, wHb ad ct1_3, wKb cy ad nx1_3, wSt cy ad 20 (Zh1_3 0) (Fh1_3 0), wSt cy ad 27 (Zh1_3 1) (Fh1_3 1), wSt cy ad 34 (Zh1_3 2) (Fh1_3 2), wSt cy ad 41 (Zh1_3 3) (Fh1_3 3), wSt cy ad 48 (Zh1_3 4) (Fh1_3 4), wSt cy ad 55 (Zh1_3 5) (Fh1_3 5)]) := hD
  rcases hw_4 with ⟨h_4, g_4, rfl⟩ | ⟨h_4, rfl⟩
  · --
    refine lv_istore_n (lv' := [(3, .int ((f 0) x.toNat)), (0, .ref (ad 0)), (1, .int (iI x)), (2, .int (iI y))]) hx hb dX4_setLetter_37 rfl hl (by decide) rfl (fun ls hl => ?_)
    refine lv_aload_n hx hb dX4_setLetter_38 rfl (lv_at hl 1 rfl) ?_
    refine va_get (D := D) (ci := 4) (v := .ref (ad 1)) (C := RX4) (T := TX4) (N := 7) hx hb hts hiX4 hown hK hP 0 rfl rfl 0 (by decide) (hts (.fieldLink RX4 10 "BackwardSearch" "state" "LBackwardSearch$State;") (by decide +kernel)) (fun _ h9 => h9) rfl dX4_setLetter_39 ?_
    refine va_getN (D := D) (ci := 3) (v := .ref (ad 2)) (C := RX3) (T := TX3) (N := 8) (host := RX4) hx hb hts hiX3 hown hK hP 1 rfl rfl 0 (by decide) (va_Nw.use rfl (hT.1 _ (List.mem_of_getElem? (i := 0) rfl))) (fun _ h9 => h9) rfl dX4_setLetter_42 ?_
    refine lv_iload_n hx hb dX4_setLetter_45 rfl (lv_at hl 2 rfl) ?_
    refine lv_iload_n hx hb dX4_setLetter_46 rfl (lv_at hl 3 rfl) ?_
    refine z_gVv (n := 2) (b := ad 2) (As := [.int (iI x), .int (iI y)]) (rest := []) ⟨hx, hb, hml, hown, hts⟩ (c_X2_put l D cy (ad 2) (ad 3) 60 (z 0) (f 0) x (iI y) (by first | assumption | omega) (by first | assumption | omega)) gX4_setLetter_X2_put rfl (by decide +kernel) ⟨Nat.le_of_ble_eq_true rfl, Nat.le_of_ble_eq_true rfl⟩ hK hT hP hS (Fp.part hP hD hS hA (nbl := fun (u : (Nat → Int32)) => wSt cy ad 1 (zL [(z 0), z 1, z 2, z 3, z 4, z 5, z 6, z 7]) (fL [u, f 1, f 2])) (nbs := fun (u : (Nat → Int32)) => [wTop ad, wSt cy ad 1 (zL [(z 0), z 1, z 2, z 3, z 4, z 5, z 6, z 7]) (fL [u, f 1, f 2]), wHb ad ct1_3, wKb cy ad nx1_3, wSt cy ad 20 (Zh1_3 0) (Fh1_3 0), wSt cy ad 27 (Zh1_3 1) (Fh1_3 1), wSt cy ad 34 (Zh1_3 2) (Fh1_3 2), wSt cy ad 41 (Zh1_3 3) (Fh1_3 3), wSt cy ad 48 (Zh1_3 4) (Fh1_3 4), wSt cy ad 55 (Zh1_3 5) (Fh1_3 5)]) 1 rfl [1, 2] rfl rfl (fun _ => rfl) (fun _ => rfl) (fun _ => rfl)) 2 2 rfl rfl rfl rfl hl.1 rfl (Nat.le_of_ble_eq_true rfl) dX4_setLetter_47 ⟨by decide, by decide⟩ (fun  u_5 H locs hw_5 hP hD hS => ?_)
    obtain ⟨f1_5, rfl⟩ : ∃ z, z = u_5 := ⟨_, rfl⟩
    have hw_5 : (0 ≤ x ∧ x < (z 0) ∧ f1_5 = upd (f 0) x.toNat (iI y)) ∨ (¬ (0 ≤ x ∧ x < (z 0)) ∧ f1_5 = (f 0)) := hw_5
    have hP : va_P D vwCl (List.flatten [wTop ad, wSt cy ad 1 (zL [(z 0), z 1, z 2, z 3, z 4, z 5, z 6, z 7]) (fL [f1_5, f 1, f 2]), wHb ad ct1_3, wKb cy ad nx1_3, wSt cy ad 20 (Zh1_3 0) (Fh1_3 0), wSt cy ad 27 (Zh1_3 1) (Fh1_3 1), wSt cy ad 34 (Zh1_3 2) (Fh1_3 2), wSt cy ad 41 (Zh1_3 3) (Fh1_3 3), wSt cy ad 48 (Zh1_3 4) (Fh1_3 4), wSt cy ad 55 (Zh1_3 5) (Fh1_3 5)]) H := hP
    have hD : va_D A (List.flatten [wTop ad, wSt cy ad 1 (zL [(z 0), z 1, z 2, z 3, z 4, z 5, z 6, z 7]) (fL [f1_5, f 1, f 2]), wHb ad ct1_3, wKb cy ad nx1_3, wSt cy ad 20 (Zh1_3 0) (Fh1_3 0), wSt cy ad 27 (Zh1_3 1) (Fh1_3 1), wSt cy ad 34 (Zh1_3 2) (Fh1_3 2), wSt cy ad 41 (Zh1_3 3) (Fh1_3 3), wSt cy ad 48 (Zh1_3 4) (Fh1_3 4), wSt cy ad 55 (Zh1_3 5) (Fh1_3 5)]) := hD
    rcases hw_5 with ⟨h_5, g_5, rfl⟩ | ⟨h_5, rfl⟩
    · --
      refine lv_aload_n hx hb dX4_setLetter_50 rfl (lv_at hl 1 rfl) ?_
      refine va_get (D := D) (ci := 4) (v := .ref (ad 1)) (C := RX4) (T := TX4) (N := 7) hx hb hts hiX4 hown hK hP 0 rfl rfl 0 (by decide) (hts (.fieldLink RX4 10 "BackwardSearch" "state" "LBackwardSearch$State;") (by decide +kernel)) (fun _ h9 => h9) rfl dX4_setLetter_51 ?_
      refine z_gVv (n := 0) (b := ad 1) (As := []) (rest := []) ⟨hx, hb, hml, hown, hts⟩ (c_X3_beginAnew l D cy (ad 1) (ad 2) (ad 4) (ad 6) (ad 7) (z 2) (z 3) (z 4) (z 5) (z 6) (z 7) ) gX4_setLetter_X3_beginAnew rfl (by decide +kernel) ⟨Nat.le_of_ble_eq_true rfl, Nat.le_of_ble_eq_true rfl⟩ hK hT hP hS (Fp.part hP hD hS hA (nbl := fun (u : Unit) => wSt cy ad 1 (zL [(z 0), z 1, 0, (z 3), (z 4), 0, 0, 0]) (fL [upd (f 0) x.toNat (iI y), f 1, f 2])) (nbs := fun (u : Unit) => [wTop ad, wSt cy ad 1 (zL [(z 0), z 1, 0, (z 3), (z 4), 0, 0, 0]) (fL [upd (f 0) x.toNat (iI y), f 1, f 2]), wHb ad ct1_3, wKb cy ad nx1_3, wSt cy ad 20 (Zh1_3 0) (Fh1_3 0), wSt cy ad 27 (Zh1_3 1) (Fh1_3 1), wSt cy ad 34 (Zh1_3 2) (Fh1_3 2), wSt cy ad 41 (Zh1_3 3) (Fh1_3 3), wSt cy ad 48 (Zh1_3 4) (Fh1_3 4), wSt cy ad 55 (Zh1_3 5) (Fh1_3 5)]) 1 rfl [0, 5] rfl rfl (fun _ => rfl) (fun _ => rfl) (fun _ => rfl)) 1 3 rfl rfl rfl rfl hl.1 rfl (Nat.le_of_ble_eq_true rfl) dX4_setLetter_54 ⟨by decide, by decide⟩ (fun  u_6 H locs hw_6 hP hD hS => ?_)
      have hw_6 : True := hw_6
      have hP : va_P D vwCl (List.flatten [wTop ad, wSt cy ad 1 (zL [(z 0), z 1, 0, (z 3), (z 4), 0, 0, 0]) (fL [upd (f 0) x.toNat (iI y), f 1, f 2]), wHb ad ct1_3, wKb cy ad nx1_3, wSt cy ad 20 (Zh1_3 0) (Fh1_3 0), wSt cy ad 27 (Zh1_3 1) (Fh1_3 1), wSt cy ad 34 (Zh1_3 2) (Fh1_3 2), wSt cy ad 41 (Zh1_3 3) (Fh1_3 3), wSt cy ad 48 (Zh1_3 4) (Fh1_3 4), wSt cy ad 55 (Zh1_3 5) (Fh1_3 5)]) H := hP
      have hD : va_D A (List.flatten [wTop ad, wSt cy ad 1 (zL [(z 0), z 1, 0, (z 3), (z 4), 0, 0, 0]) (fL [upd (f 0) x.toNat (iI y), f 1, f 2]), wHb ad ct1_3, wKb cy ad nx1_3, wSt cy ad 20 (Zh1_3 0) (Fh1_3 0), wSt cy ad 27 (Zh1_3 1) (Fh1_3 1), wSt cy ad 34 (Zh1_3 2) (Fh1_3 2), wSt cy ad 41 (Zh1_3 3) (Fh1_3 3), wSt cy ad 48 (Zh1_3 4) (Fh1_3 4), wSt cy ad 55 (Zh1_3 5) (Fh1_3 5)]) := hD
      refine lv_iload_n hx hb dX4_setLetter_57 rfl (lv_at hl 0 rfl) ?_
      exact x_iret hx hb hr hlocks hS ((zL [(z 0), z 1, 0, (z 3), (z 4), 0, 0, 0]), (fL [upd (f 0) x.toNat (iI y), f 1, f 2]), nx1_3, ct1_3, Zh1_3, Fh1_3) (show (0 ≤ x ∧ x < (M.1.length : Int)) ∧ (0 ≤ y ∧ y ≤ 25) ∧ ((f 0) x.toNat) = gl M.1 x.toNat ∧ RS (zL [(z 0), z 1, 0, (z 3), (z 4), 0, 0, 0]) (fL [upd (f 0) x.toNat (iI y), f 1, f 2]) (mSet M x.toNat (iI y)) ∧ RXH nx1_3 ct1_3 Zh1_3 Fh1_3 (pushH h M) from ⟨by omega, by omega, r0.2 _ (by omega), RS_set hR (by omega), hw_3⟩) hP dX4_setLetter_58 (by decide) (by decide)
    · --
      exfalso; omega
  · --
    exfalso; omega
set_option maxHeartbeats 4000000 in
set_option maxRecDepth 100000 in
theorem c_X4_look (l : Launch) (hfl : l.stackTraces = false) (D : va_G) (cy : Nat → ClassId) (ad : Nat → Nat) (z : Nat → Int) (f : Nat → Nat → Int32) (M : MS) (nx : Int) (ct : Int) (Zh : Nat → Nat → Int) (Fh : Nat → Nat → Nat → Int32) (h : List MS) (en : Int) (B : Nat → Int) (Kf : Nat → Int) (hR : RS z f M) (hM : MOk M) (hH : RXH nx ct Zh Fh h) (hk : ∀ j : Nat, 0 ≤ Kf j ∧ Kf j ≤ 17) : Xi l D cy yX4_look wsX4_look 6 112 1 [.ref (ad 0)] (List.flatten [wTop ad, wSt cy ad 1 z f, wHb ad ct, wKb cy ad nx, wSt cy ad 20 (Zh 0) (Fh 0), wSt cy ad 27 (Zh 1) (Fh 1), wSt cy ad 34 (Zh 2) (Fh 2), wSt cy ad 41 (Zh 3) (Fh 3), wSt cy ad 48 (Zh 4) (Fh 4), wSt cy ad 55 (Zh 5) (Fh 5), wEn cy ad en B Kf]) (fun (r : Int32) (u : (Nat → Int) × (Nat → Nat → Int32) × Int × Int × (Nat → Nat → Int) × (Nat → Nat → Nat → Int32) × Int × (Nat → Int) × (Nat → Int)) => ¬ mOver M ∧ r = iI (mSk M M.2.2.2.2.2.1 (mD M M.2.2.2.2.2.1)) ∧ RS u.1 u.2.1 (mLook M) ∧ RXH u.2.2.1 u.2.2.2.1 u.2.2.2.2.1 u.2.2.2.2.2.1 (pushH h M) ∧ ∀ j : Nat, 0 ≤ u.2.2.2.2.2.2.2.2 j ∧ u.2.2.2.2.2.2.2.2 j ≤ 17) (fun u : (Nat → Int) × (Nat → Nat → Int32) × Int × Int × (Nat → Nat → Int) × (Nat → Nat → Nat → Int32) × Int × (Nat → Int) × (Nat → Int) => (List.flatten [wTop ad, wSt cy ad 1 u.1 u.2.1, wHb ad u.2.2.2.1, wKb cy ad u.2.2.1, wSt cy ad 20 (u.2.2.2.2.1 0) (u.2.2.2.2.2.1 0), wSt cy ad 27 (u.2.2.2.2.1 1) (u.2.2.2.2.2.1 1), wSt cy ad 34 (u.2.2.2.2.1 2) (u.2.2.2.2.2.1 2), wSt cy ad 41 (u.2.2.2.2.1 3) (u.2.2.2.2.2.1 3), wSt cy ad 48 (u.2.2.2.2.1 4) (u.2.2.2.2.2.1 4), wSt cy ad 55 (u.2.2.2.2.1 5) (u.2.2.2.2.2.1 5), wEn cy ad u.2.2.2.2.2.2.1 u.2.2.2.2.2.2.2.1 u.2.2.2.2.2.2.2.2])) (fun E => E = xISE ∧ mOver M) := by
  refine Xi_of (cc := cX4_look) (maxL := 1) (ret := (some .int)) (by decide) rfl rfl ?_
  intro p e s m args below meth c A hx hb hr hts hown hlocks hml htab hP hK hD hT hC hZ hA ls hl
  have hS : va_S A s.heap s.heap [] := va_S.rf
  have hl : lv_has ls 1 [(0, .ref (ad 0))] := hl
  have hP : va_P D vwCl (List.flatten [wTop ad, wSt cy ad 1 z f, wHb ad ct, wKb cy ad nx, wSt cy ad 20 (Zh 0) (Fh 0), wSt cy ad 27 (Zh 1) (Fh 1), wSt cy ad 34 (Zh 2) (Fh 2), wSt cy ad 41 (Zh 3) (Fh 3), wSt cy ad 48 (Zh 4) (Fh 4), wSt cy ad 55 (Zh 5) (Fh 5), wEn cy ad en B Kf]) s.heap := hP
  have hD : va_D A (List.flatten [wTop ad, wSt cy ad 1 z f, wHb ad ct, wKb cy ad nx, wSt cy ad 20 (Zh 0) (Fh 0), wSt cy ad 27 (Zh 1) (Fh 1), wSt cy ad 34 (Zh 2) (Fh 2), wSt cy ad 41 (Zh 3) (Fh 3), wSt cy ad 48 (Zh 4) (Fh 4), wSt cy ad 55 (Zh 5) (Fh 5), wEn cy ad en B Kf]) := hD
  have hiX3 : ∀ w ∈ wsX30, w ∈ wsX4_look := by decide +kernel
  have hiX4 : ∀ w ∈ wsX40, w ∈ wsX4_look := by decide +kernel
  obtain ⟨r0, r1, r2, r3, r4, r5, r6, r7⟩ := id hR
  obtain ⟨o1, o2, o3, o4, o5, o6, o7, o8, o9, o10, o11, o12, o13, o14, o15⟩ := id hM
  have q0 := r0.1
  have q1 := r1.1
  have q2 := r2.1
  have hsr := study_rng (m := (z 1).toNat) (W := f 1) (B := B) (by omega) hk
  refine lv_aload_n hx hb dX4_look_0 rfl (lv_at hl 0 rfl) ?_
  refine va_get (D := D) (ci := 4) (v := .ref (ad 1)) (C := RX4) (T := TX4) (N := 7) hx hb hts hiX4 hown hK hP 0 rfl rfl 0 (by decide) (hts (.fieldLink RX4 10 "BackwardSearch" "state" "LBackwardSearch$State;") (by decide +kernel)) (fun _ h9 => h9) rfl dX4_look_1 ?_
  refine z_gVi (n := 0) (b := ad 1) (As := []) (rest := []) ⟨hx, hb, hml, hown, hts⟩ (c_X3_hasEnded l D cy (ad 1) (ad 2) (ad 3) (ad 4) (ad 5) (ad 6) (z 0) (z 1) (z 3) (z 4) (z 5) (z 6) (z 7) (by first | assumption | omega)) gX4_look_X3_hasEnded rfl (by decide +kernel) ⟨Nat.le_of_ble_eq_true rfl, Nat.le_of_ble_eq_true rfl⟩ hK hT hP hS (Fp.same hP hD hS hA [1, 2, 4] rfl rfl (fun _ => rfl)) 1 3 rfl rfl rfl rfl hl.1 rfl (Nat.le_of_ble_eq_true rfl) dX4_look_4 ⟨Nat.zero_le _, Nat.zero_le _⟩ (fun r_1 u_1 H locs hw_1 hP hD hS => ?_)
  have hw_1 : (((z 1) = 0 ∨ (z 0) - (z 1) + 1 ≤ (z 5)) ∧ r_1 = iI 1) ∨ (¬ ((z 1) = 0 ∨ (z 0) - (z 1) + 1 ≤ (z 5)) ∧ r_1 = iI 0) := hw_1
  have hP : va_P D vwCl (List.flatten [wTop ad, wSt cy ad 1 z f, wHb ad ct, wKb cy ad nx, wSt cy ad 20 (Zh 0) (Fh 0), wSt cy ad 27 (Zh 1) (Fh 1), wSt cy ad 34 (Zh 2) (Fh 2), wSt cy ad 41 (Zh 3) (Fh 3), wSt cy ad 48 (Zh 4) (Fh 4), wSt cy ad 55 (Zh 5) (Fh 5), wEn cy ad en B Kf]) H := hP
  have hD : va_D A (List.flatten [wTop ad, wSt cy ad 1 z f, wHb ad ct, wKb cy ad nx, wSt cy ad 20 (Zh 0) (Fh 0), wSt cy ad 27 (Zh 1) (Fh 1), wSt cy ad 34 (Zh 2) (Fh 2), wSt cy ad 41 (Zh 3) (Fh 3), wSt cy ad 48 (Zh 4) (Fh 4), wSt cy ad 55 (Zh 5) (Fh 5), wEn cy ad en B Kf]) := hD
  rcases hw_1 with ⟨h_1, rfl⟩ | ⟨h_1, rfl⟩
  · --
    refine z_if_eq (tgt := 20) hx hb (iI_t (by omega) (by omega)) dX4_look_7 (by decide) (fun c2 => absurd c2 (by omega)) (fun _ => ?_)
    exact x_throw (cls := xISE) (text := "the search is over") (ik := 85) (is := 87) (ic := 89) (Ts := wsX4_look) hx hb hfl hown (by decide +kernel) (by decide +kernel) hts (by decide +kernel) (by decide +kernel) (by decide +kernel) x_ng1 x_gw1 hT hC (by decide +kernel) hZ hS (hl.1.trans hml.symm) dX4_look_10 dX4_look_13 dX4_look_14 dX4_look_16 dX4_look_19 htab (by decide) (by decide) (by decide) (by decide) hlocks hP (⟨rfl, by simp only [mOver]; omega⟩) (by decide) (by decide)
  · --
    refine z_if_eq (tgt := 20) hx hb (iI_t (by omega) (by omega)) dX4_look_7 (by decide) (fun _ => ?_) (fun c3 => absurd c3 (by omega))
    have hno : ¬ mOver M := by simp only [mOver]; omega
    refine lv_aload_n hx hb dX4_look_20 rfl (lv_at hl 0 rfl) ?_
    refine va_get (D := D) (ci := 4) (v := .ref (ad 18)) (C := RX4) (T := TX4) (N := 7) hx hb hts hiX4 hown hK hP 0 rfl rfl 3 (by decide) (hts (.fieldLink RX4 29 "BackwardSearch" "history" "LBackwardSearch$History;") (by decide +kernel)) (fun _ h9 => h9) rfl dX4_look_21 ?_
    refine lv_aload_n hx hb dX4_look_24 rfl (lv_at hl 0 rfl) ?_
    refine va_get (D := D) (ci := 4) (v := .ref (ad 1)) (C := RX4) (T := TX4) (N := 7) hx hb hts hiX4 hown hK hP 0 rfl rfl 0 (by decide) (hts (.fieldLink RX4 10 "BackwardSearch" "state" "LBackwardSearch$State;") (by decide +kernel)) (fun _ h9 => h9) rfl dX4_look_25 ?_
    refine z_gVv (n := 1) (b := ad 18) (As := [.ref (ad 1)]) (rest := []) ⟨hx, hb, hml, hown, hts⟩ (c_X1_keepA l D cy ad nx ct Zh Fh h z f M (hR) (hM) (hH)) gX4_look_X1_keep rfl (by decide +kernel) ⟨Nat.le_of_ble_eq_true rfl, Nat.le_of_ble_eq_true rfl⟩ hK hT hP hS (Fp.blocks hP hD hS hA (cs := [wHb ad ct, wKb cy ad nx, wSt cy ad 20 (Zh 0) (Fh 0), wSt cy ad 27 (Zh 1) (Fh 1), wSt cy ad 34 (Zh 2) (Fh 2), wSt cy ad 41 (Zh 3) (Fh 3), wSt cy ad 48 (Zh 4) (Fh 4), wSt cy ad 55 (Zh 5) (Fh 5), wSt cy ad 1 z f]) (nb := fun (u : Int × Int × (Nat → Nat → Int) × (Nat → Nat → Nat → Int32)) => [wHb ad u.2.1, wKb cy ad u.1, wSt cy ad 20 (u.2.2.1 0) (u.2.2.2 0), wSt cy ad 27 (u.2.2.1 1) (u.2.2.2 1), wSt cy ad 34 (u.2.2.1 2) (u.2.2.2 2), wSt cy ad 41 (u.2.2.1 3) (u.2.2.2 3), wSt cy ad 48 (u.2.2.1 4) (u.2.2.2 4), wSt cy ad 55 (u.2.2.1 5) (u.2.2.2 5), wSt cy ad 1 z f]) (nbs := fun (u : Int × Int × (Nat → Nat → Int) × (Nat → Nat → Nat → Int32)) => [wTop ad, wSt cy ad 1 z f, wHb ad u.2.1, wKb cy ad u.1, wSt cy ad 20 (u.2.2.1 0) (u.2.2.2 0), wSt cy ad 27 (u.2.2.1 1) (u.2.2.2 1), wSt cy ad 34 (u.2.2.1 2) (u.2.2.2 2), wSt cy ad 41 (u.2.2.1 3) (u.2.2.2 3), wSt cy ad 48 (u.2.2.1 4) (u.2.2.2 4), wSt cy ad 55 (u.2.2.1 5) (u.2.2.2 5), wEn cy ad en B Kf]) [2, 3, 4, 5, 6, 7, 8, 9, 1] rfl rfl rfl (fun _ => rfl) (fun _ => rfl) (fun _ => rfl)) 8 1 rfl rfl rfl rfl hl.1 rfl (Nat.le_of_ble_eq_true rfl) dX4_look_28 ⟨Nat.zero_le _, Nat.zero_le _⟩ (fun  u_4 H locs hw_4 hP hD hS => ?_)
    obtain ⟨nx1_4, ct1_4, Zh1_4, Fh1_4⟩ := u_4
    have hw_4 : RXH nx1_4 ct1_4 Zh1_4 Fh1_4 (pushH h M) := hw_4
    have hP : va_P D vwCl (List.flatten [wTop ad, wSt cy ad 1 z f, wHb ad ct1_4, wKb cy ad nx1_4, wSt cy ad 20 (Zh1_4 0) (Fh1_4 0), wSt cy ad 27 (Zh1_4 1) (Fh1_4 1), wSt cy ad 34 (Zh1_4 2) (Fh1_4 2), wSt cy ad 41 (Zh1_4 3) (Fh1_4 3), wSt cy ad 48 (Zh1_4 4) (Fh1_4 4), wSt cy ad 55 (Zh1_4 5) (Fh1_4 5), wEn cy ad en B Kf]) H := hP
    have hD : va_D A (List.flatten [wTop ad, wSt cy ad 1 z f, wHb ad ct1_4, wKb cy ad nx1_4, wSt cy ad 20 (Zh1_4 0) (Fh1_4 0), wSt cy ad 27 (Zh1_4 1) (Fh1_4 1), wSt cy ad 34 (Zh1_4 2) (Fh1_4 2), wSt cy ad 41 (Zh1_4 3) (Fh1_4 3), wSt cy ad 48 (Zh1_4 4) (Fh1_4 4), wSt cy ad 55 (Zh1_4 5) (Fh1_4 5), wEn cy ad en B Kf]) := hD
    refine lv_aload_n hx hb dX4_look_31 rfl (lv_at hl 0 rfl) ?_
    refine va_get (D := D) (ci := 4) (v := .ref (ad 15)) (C := RX4) (T := TX4) (N := 7) hx hb hts hiX4 hown hK hP 0 rfl rfl 2 (by decide) (hts (.fieldLink RX4 22 "BackwardSearch" "ends" "LBackwardSearch$Ends;") (by decide +kernel)) (fun _ h9 => h9) rfl dX4_look_32 ?_
    refine lv_aload_n hx hb dX4_look_35 rfl (lv_at hl 0 rfl) ?_
    refine va_get (D := D) (ci := 4) (v := .ref (ad 1)) (C := RX4) (T := TX4) (N := 7) hx hb hts hiX4 hown hK hP 0 rfl rfl 0 (by decide) (hts (.fieldLink RX4 10 "BackwardSearch" "state" "LBackwardSearch$State;") (by decide +kernel)) (fun _ h9 => h9) rfl dX4_look_36 ?_
    refine va_getN (D := D) (ci := 3) (v := .ref (ad 4)) (C := RX3) (T := TX3) (N := 8) (host := RX4) hx hb hts hiX3 hown hK hP 1 rfl rfl 1 (by decide) (va_Nw.use rfl (hT.1 _ (List.mem_of_getElem? (i := 1) rfl))) (fun _ h9 => h9) rfl dX4_look_39 ?_
    refine z_gVv (n := 1) (b := ad 15) (As := [.ref (ad 4)]) (rest := []) ⟨hx, hb, hml, hown, hts⟩ (c_X0_studyB l D cy (ad 15) (ad 16) (ad 17) en B Kf (ad 1) (ad 2) (ad 3) (ad 4) (ad 5) (ad 6) (ad 7) (z 0) (f 0) (z 1) (f 1) (z 2) (f 2) (z 3) (z 4) (z 5) (z 6) (z 7) (by first | assumption | omega) (hk)) gX4_look_X0_study rfl (by decide +kernel) ⟨Nat.le_of_ble_eq_true rfl, Nat.le_of_ble_eq_true rfl⟩ hK hT hP hS (Fp.blocks hP hD hS hA (cs := [wEn cy ad en B Kf, wSt cy ad 1 z f]) (nb := fun (u : (Nat → Int) × (Nat → Int)) => [wEn cy ad (z 1) u.1 u.2, wSt cy ad 1 (zL [(z 0), (z 1), (z 2), (z 3), (z 4), (z 5), (z 6), (z 7)]) (fL [(f 0), (f 1), (f 2)])]) (nbs := fun (u : (Nat → Int) × (Nat → Int)) => [wTop ad, wSt cy ad 1 (zL [(z 0), (z 1), (z 2), (z 3), (z 4), (z 5), (z 6), (z 7)]) (fL [(f 0), (f 1), (f 2)]), wHb ad ct1_4, wKb cy ad nx1_4, wSt cy ad 20 (Zh1_4 0) (Fh1_4 0), wSt cy ad 27 (Zh1_4 1) (Fh1_4 1), wSt cy ad 34 (Zh1_4 2) (Fh1_4 2), wSt cy ad 41 (Zh1_4 3) (Fh1_4 3), wSt cy ad 48 (Zh1_4 4) (Fh1_4 4), wSt cy ad 55 (Zh1_4 5) (Fh1_4 5), wEn cy ad (z 1) u.1 u.2]) [10, 1] rfl rfl rfl (fun _ => rfl) (fun _ => rfl) (fun _ => rfl)) 52 0 rfl rfl rfl rfl hl.1 rfl (Nat.le_of_ble_eq_true rfl) dX4_look_42 ⟨Nat.zero_le _, Nat.zero_le _⟩ (fun  u_5 H locs hw_5 hP hD hS => ?_)
    obtain ⟨B1_5, K1_5⟩ := u_5
    have hw_5 : B1_5 = studyB (z 1).toNat (f 1) B Kf ∧ K1_5 = studyK (z 1).toNat (f 1) B Kf := hw_5
    have hP : va_P D vwCl (List.flatten [wTop ad, wSt cy ad 1 (zL [(z 0), (z 1), (z 2), (z 3), (z 4), (z 5), (z 6), (z 7)]) (fL [(f 0), (f 1), (f 2)]), wHb ad ct1_4, wKb cy ad nx1_4, wSt cy ad 20 (Zh1_4 0) (Fh1_4 0), wSt cy ad 27 (Zh1_4 1) (Fh1_4 1), wSt cy ad 34 (Zh1_4 2) (Fh1_4 2), wSt cy ad 41 (Zh1_4 3) (Fh1_4 3), wSt cy ad 48 (Zh1_4 4) (Fh1_4 4), wSt cy ad 55 (Zh1_4 5) (Fh1_4 5), wEn cy ad (z 1) B1_5 K1_5]) H := hP
    have hD : va_D A (List.flatten [wTop ad, wSt cy ad 1 (zL [(z 0), (z 1), (z 2), (z 3), (z 4), (z 5), (z 6), (z 7)]) (fL [(f 0), (f 1), (f 2)]), wHb ad ct1_4, wKb cy ad nx1_4, wSt cy ad 20 (Zh1_4 0) (Fh1_4 0), wSt cy ad 27 (Zh1_4 1) (Fh1_4 1), wSt cy ad 34 (Zh1_4 2) (Fh1_4 2), wSt cy ad 41 (Zh1_4 3) (Fh1_4 3), wSt cy ad 48 (Zh1_4 4) (Fh1_4 4), wSt cy ad 55 (Zh1_4 5) (Fh1_4 5), wEn cy ad (z 1) B1_5 K1_5]) := hD
    obtain ⟨rfl, rfl⟩ := hw_5
    refine lv_aload_n hx hb dX4_look_45 rfl (lv_at hl 0 rfl) ?_
    refine va_get (D := D) (ci := 4) (v := .ref (ad 1)) (C := RX4) (T := TX4) (N := 7) hx hb hts hiX4 hown hK hP 0 rfl rfl 0 (by decide) (hts (.fieldLink RX4 10 "BackwardSearch" "state" "LBackwardSearch$State;") (by decide +kernel)) (fun _ h9 => h9) rfl dX4_look_46 ?_
    refine lv_aload_n hx hb dX4_look_49 rfl (lv_at hl 0 rfl) ?_
    refine va_get (D := D) (ci := 4) (v := .ref (ad 15)) (C := RX4) (T := TX4) (N := 7) hx hb hts hiX4 hown hK hP 0 rfl rfl 2 (by decide) (hts (.fieldLink RX4 22 "BackwardSearch" "ends" "LBackwardSearch$Ends;") (by decide +kernel)) (fun _ h9 => h9) rfl dX4_look_50 ?_
    refine z_gVi (n := 1) (b := ad 1) (As := [.ref (ad 15)]) (rest := []) ⟨hx, hb, hml, hown, hts⟩ (c_X3_lookOnce l D cy (ad 1) (ad 2) (ad 3) (ad 4) (ad 5) (ad 6) (ad 7) (z 0) (f 0) (z 1) (f 1) (z 2) (f 2) (z 3) (z 4) (z 5) (z 6) (z 7) (ad 15) (ad 16) (ad 17) (z 1) (studyB (z 1).toNat (f 1) B Kf) (studyK (z 1).toNat (f 1) B Kf) (by first | assumption | omega) (by first | assumption | omega) (hsr.1) (by first | assumption | omega)) gX4_look_X3_lookOnce rfl (by decide +kernel) ⟨Nat.le_of_ble_eq_true rfl, Nat.le_of_ble_eq_true rfl⟩ hK hT hP hS (Fp.blocks hP hD hS hA (cs := [wSt cy ad 1 (zL [(z 0), (z 1), (z 2), (z 3), (z 4), (z 5), (z 6), (z 7)]) (fL [(f 0), (f 1), (f 2)]), wEn cy ad (z 1) (studyB (z 1).toNat (f 1) B Kf) (studyK (z 1).toNat (f 1) B Kf)]) (nb := fun (u : Int × Int × (Nat → Int32)) => [wSt cy ad 1 (zL [(z 0), (z 1), u.2.1, (z 3), (z 4), (z 5) + (skX ((studyB (z 1).toNat (f 1) B Kf) 0) (studyK (z 1).toNat (f 1) B Kf) (z 3) (z 4) (z 1).toNat (f 1) (f 0) (z 5) (diffF (z 1).toNat (f 1) (f 0) (z 5))), (z 6) + 1, u.1]) (fL [(f 0), (f 1), u.2.2]), wEn cy ad (z 1) (studyB (z 1).toNat (f 1) B Kf) (studyK (z 1).toNat (f 1) B Kf)]) (nbs := fun (u : Int × Int × (Nat → Int32)) => [wTop ad, wSt cy ad 1 (zL [(z 0), (z 1), u.2.1, (z 3), (z 4), (z 5) + (skX ((studyB (z 1).toNat (f 1) B Kf) 0) (studyK (z 1).toNat (f 1) B Kf) (z 3) (z 4) (z 1).toNat (f 1) (f 0) (z 5) (diffF (z 1).toNat (f 1) (f 0) (z 5))), (z 6) + 1, u.1]) (fL [(f 0), (f 1), u.2.2]), wHb ad ct1_4, wKb cy ad nx1_4, wSt cy ad 20 (Zh1_4 0) (Fh1_4 0), wSt cy ad 27 (Zh1_4 1) (Fh1_4 1), wSt cy ad 34 (Zh1_4 2) (Fh1_4 2), wSt cy ad 41 (Zh1_4 3) (Fh1_4 3), wSt cy ad 48 (Zh1_4 4) (Fh1_4 4), wSt cy ad 55 (Zh1_4 5) (Fh1_4 5), wEn cy ad (z 1) (studyB (z 1).toNat (f 1) B Kf) (studyK (z 1).toNat (f 1) B Kf)]) [1, 10] rfl rfl rfl (fun _ => rfl) (fun _ => rfl) (fun _ => rfl)) 1 3 rfl rfl rfl rfl hl.1 rfl (Nat.le_of_ble_eq_true rfl) dX4_look_53 ⟨Nat.zero_le _, Nat.zero_le _⟩ (fun r_6 u_6 H locs hw_6 hP hD hS => ?_)
    obtain ⟨cp1_6, nf1_6, Ff1_6⟩ := u_6
    have hw_6 : r_6 = iI (skX ((studyB (z 1).toNat (f 1) B Kf) 0) (studyK (z 1).toNat (f 1) B Kf) (z 3) (z 4) (z 1).toNat (f 1) (f 0) (z 5) (diffF (z 1).toNat (f 1) (f 0) (z 5))) ∧ cp1_6 = (z 7) + ((z 1) - max (diffF (z 1).toNat (f 1) (f 0) (z 5)) 0) ∧ (((diffF (z 1).toNat (f 1) (f 0) (z 5)) = -1 ∧ nf1_6 = (z 2) + 1 ∧ Ff1_6 = upd (f 2) (z 2).toNat (iI (z 5))) ∨ (¬ (diffF (z 1).toNat (f 1) (f 0) (z 5)) = -1 ∧ nf1_6 = (z 2) ∧ Ff1_6 = (f 2))) := hw_6
    have hP : va_P D vwCl (List.flatten [wTop ad, wSt cy ad 1 (zL [(z 0), (z 1), nf1_6, (z 3), (z 4), (z 5) + (skX ((studyB (z 1).toNat (f 1) B Kf) 0) (studyK (z 1).toNat (f 1) B Kf) (z 3) (z 4) (z 1).toNat (f 1) (f 0) (z 5) (diffF (z 1).toNat (f 1) (f 0) (z 5))), (z 6) + 1, cp1_6]) (fL [(f 0), (f 1), Ff1_6]), wHb ad ct1_4, wKb cy ad nx1_4, wSt cy ad 20 (Zh1_4 0) (Fh1_4 0), wSt cy ad 27 (Zh1_4 1) (Fh1_4 1), wSt cy ad 34 (Zh1_4 2) (Fh1_4 2), wSt cy ad 41 (Zh1_4 3) (Fh1_4 3), wSt cy ad 48 (Zh1_4 4) (Fh1_4 4), wSt cy ad 55 (Zh1_4 5) (Fh1_4 5), wEn cy ad (z 1) (studyB (z 1).toNat (f 1) B Kf) (studyK (z 1).toNat (f 1) B Kf)]) H := hP
    have hD : va_D A (List.flatten [wTop ad, wSt cy ad 1 (zL [(z 0), (z 1), nf1_6, (z 3), (z 4), (z 5) + (skX ((studyB (z 1).toNat (f 1) B Kf) 0) (studyK (z 1).toNat (f 1) B Kf) (z 3) (z 4) (z 1).toNat (f 1) (f 0) (z 5) (diffF (z 1).toNat (f 1) (f 0) (z 5))), (z 6) + 1, cp1_6]) (fL [(f 0), (f 1), Ff1_6]), wHb ad ct1_4, wKb cy ad nx1_4, wSt cy ad 20 (Zh1_4 0) (Fh1_4 0), wSt cy ad 27 (Zh1_4 1) (Fh1_4 1), wSt cy ad 34 (Zh1_4 2) (Fh1_4 2), wSt cy ad 41 (Zh1_4 3) (Fh1_4 3), wSt cy ad 48 (Zh1_4 4) (Fh1_4 4), wSt cy ad 55 (Zh1_4 5) (Fh1_4 5), wEn cy ad (z 1) (studyB (z 1).toNat (f 1) B Kf) (studyK (z 1).toNat (f 1) B Kf)]) := hD
    obtain ⟨rfl, rfl, h_6⟩ := hw_6
    exact x_iret hx hb hr hlocks hS ((zL [(z 0), (z 1), nf1_6, (z 3), (z 4), (z 5) + (skX ((studyB (z 1).toNat (f 1) B Kf) 0) (studyK (z 1).toNat (f 1) B Kf) (z 3) (z 4) (z 1).toNat (f 1) (f 0) (z 5) (diffF (z 1).toNat (f 1) (f 0) (z 5))), (z 6) + 1, (z 7) + ((z 1) - max (diffF (z 1).toNat (f 1) (f 0) (z 5)) 0)]), (fL [(f 0), (f 1), Ff1_6]), nx1_4, ct1_4, Zh1_4, Fh1_4, (z 1), (studyB (z 1).toNat (f 1) B Kf), (studyK (z 1).toNat (f 1) B Kf)) (show ¬ mOver M ∧ (iI (skX ((studyB (z 1).toNat (f 1) B Kf) 0) (studyK (z 1).toNat (f 1) B Kf) (z 3) (z 4) (z 1).toNat (f 1) (f 0) (z 5) (diffF (z 1).toNat (f 1) (f 0) (z 5)))) = iI (mSk M M.2.2.2.2.2.1 (mD M M.2.2.2.2.2.1)) ∧ RS (zL [(z 0), (z 1), nf1_6, (z 3), (z 4), (z 5) + (skX ((studyB (z 1).toNat (f 1) B Kf) 0) (studyK (z 1).toNat (f 1) B Kf) (z 3) (z 4) (z 1).toNat (f 1) (f 0) (z 5) (diffF (z 1).toNat (f 1) (f 0) (z 5))), (z 6) + 1, (z 7) + ((z 1) - max (diffF (z 1).toNat (f 1) (f 0) (z 5)) 0)]) (fL [(f 0), (f 1), Ff1_6]) (mLook M) ∧ RXH nx1_4 ct1_4 Zh1_4 Fh1_4 (pushH h M) ∧ ∀ j : Nat, 0 ≤ (studyK (z 1).toNat (f 1) B Kf) j ∧ (studyK (z 1).toNat (f 1) B Kf) j ≤ 17 from (by
          obtain ⟨e1, e2, e3⟩ := RS_look hR hM hno (B := B) (Kf := Kf) hw_6.2.1 hw_6.2.2
          exact ⟨hno, hw_6.1.trans (congrArg iI e1), e3, hw_4, hsr.1⟩)) hP dX4_look_56 (by decide) (by decide)
set_option maxHeartbeats 4000000 in
set_option maxRecDepth 100000 in
theorem c_X4_finish (l : Launch) (D : va_G) (cy : Nat → ClassId) (ad : Nat → Nat) (z : Nat → Int) (f : Nat → Nat → Int32) (M : MS) (nx : Int) (ct : Int) (Zh : Nat → Nat → Int) (Fh : Nat → Nat → Nat → Int32) (h : List MS) (en : Int) (B : Nat → Int) (Kf : Nat → Int) (hR : RS z f M) (hM : MOk M) (hH : RXH nx ct Zh Fh h) (hk : ∀ j : Nat, 0 ≤ Kf j ∧ Kf j ≤ 17) : Ci l D cy yX4_finish wsX4_finish 5 112 [.ref (ad 0)] (List.flatten [wTop ad, wSt cy ad 1 z f, wHb ad ct, wKb cy ad nx, wSt cy ad 20 (Zh 0) (Fh 0), wSt cy ad 27 (Zh 1) (Fh 1), wSt cy ad 34 (Zh 2) (Fh 2), wSt cy ad 41 (Zh 3) (Fh 3), wSt cy ad 48 (Zh 4) (Fh 4), wSt cy ad 55 (Zh 5) (Fh 5), wEn cy ad en B Kf]) (fun (r : Int32) (u : (Nat → Int) × (Nat → Nat → Int32) × Int × Int × (Nat → Nat → Int) × (Nat → Nat → Nat → Int32) × Int × (Nat → Int) × (Nat → Int)) => r = iI (mRun M).2 ∧ RS u.1 u.2.1 (mOf M (mRun M).1) ∧ RXH u.2.2.1 u.2.2.2.1 u.2.2.2.2.1 u.2.2.2.2.2.1 (pushH h M) ∧ ∀ j : Nat, 0 ≤ u.2.2.2.2.2.2.2.2 j ∧ u.2.2.2.2.2.2.2.2 j ≤ 17) (fun u : (Nat → Int) × (Nat → Nat → Int32) × Int × Int × (Nat → Nat → Int) × (Nat → Nat → Nat → Int32) × Int × (Nat → Int) × (Nat → Int) => (List.flatten [wTop ad, wSt cy ad 1 u.1 u.2.1, wHb ad u.2.2.2.1, wKb cy ad u.2.2.1, wSt cy ad 20 (u.2.2.2.2.1 0) (u.2.2.2.2.2.1 0), wSt cy ad 27 (u.2.2.2.2.1 1) (u.2.2.2.2.2.1 1), wSt cy ad 34 (u.2.2.2.2.1 2) (u.2.2.2.2.2.1 2), wSt cy ad 41 (u.2.2.2.2.1 3) (u.2.2.2.2.2.1 3), wSt cy ad 48 (u.2.2.2.2.1 4) (u.2.2.2.2.2.1 4), wSt cy ad 55 (u.2.2.2.2.1 5) (u.2.2.2.2.2.1 5), wEn cy ad u.2.2.2.2.2.2.1 u.2.2.2.2.2.2.2.1 u.2.2.2.2.2.2.2.2])) := by
  refine Ci_of (cc := cX4_finish) (maxL := 1) (ret := (some .int)) (by decide) rfl rfl ?_
  intro p e s m args below meth c A hx hb hr hts hown hlocks hml hP hK hD hT hA ls hl
  have hS : va_S A s.heap s.heap [] := va_S.rf
  have hl : lv_has ls 1 [(0, .ref (ad 0))] := hl
  have hP : va_P D vwCl (List.flatten [wTop ad, wSt cy ad 1 z f, wHb ad ct, wKb cy ad nx, wSt cy ad 20 (Zh 0) (Fh 0), wSt cy ad 27 (Zh 1) (Fh 1), wSt cy ad 34 (Zh 2) (Fh 2), wSt cy ad 41 (Zh 3) (Fh 3), wSt cy ad 48 (Zh 4) (Fh 4), wSt cy ad 55 (Zh 5) (Fh 5), wEn cy ad en B Kf]) s.heap := hP
  have hD : va_D A (List.flatten [wTop ad, wSt cy ad 1 z f, wHb ad ct, wKb cy ad nx, wSt cy ad 20 (Zh 0) (Fh 0), wSt cy ad 27 (Zh 1) (Fh 1), wSt cy ad 34 (Zh 2) (Fh 2), wSt cy ad 41 (Zh 3) (Fh 3), wSt cy ad 48 (Zh 4) (Fh 4), wSt cy ad 55 (Zh 5) (Fh 5), wEn cy ad en B Kf]) := hD
  have hiX3 : ∀ w ∈ wsX30, w ∈ wsX4_finish := by decide +kernel
  have hiX4 : ∀ w ∈ wsX40, w ∈ wsX4_finish := by decide +kernel
  obtain ⟨r0, r1, r2, r3, r4, r5, r6, r7⟩ := id hR
  obtain ⟨o1, o2, o3, o4, o5, o6, o7, o8, o9, o10, o11, o12, o13, o14, o15⟩ := id hM
  have q0 := r0.1
  have q1 := r1.1
  have q2 := r2.1
  have hsr := study_rng (m := (z 1).toNat) (W := f 1) (B := B) (by omega) hk
  refine lv_aload_n hx hb dX4_finish_0 rfl (lv_at hl 0 rfl) ?_
  refine va_get (D := D) (ci := 4) (v := .ref (ad 18)) (C := RX4) (T := TX4) (N := 7) hx hb hts hiX4 hown hK hP 0 rfl rfl 3 (by decide) (hts (.fieldLink RX4 29 "BackwardSearch" "history" "LBackwardSearch$History;") (by decide +kernel)) (fun _ h9 => h9) rfl dX4_finish_1 ?_
  refine lv_aload_n hx hb dX4_finish_4 rfl (lv_at hl 0 rfl) ?_
  refine va_get (D := D) (ci := 4) (v := .ref (ad 1)) (C := RX4) (T := TX4) (N := 7) hx hb hts hiX4 hown hK hP 0 rfl rfl 0 (by decide) (hts (.fieldLink RX4 10 "BackwardSearch" "state" "LBackwardSearch$State;") (by decide +kernel)) (fun _ h9 => h9) rfl dX4_finish_5 ?_
  refine z_gVv (n := 1) (b := ad 18) (As := [.ref (ad 1)]) (rest := []) ⟨hx, hb, hml, hown, hts⟩ (c_X1_keepA l D cy ad nx ct Zh Fh h z f M (hR) (hM) (hH)) gX4_finish_X1_keep rfl (by decide +kernel) ⟨Nat.le_of_ble_eq_true rfl, Nat.le_of_ble_eq_true rfl⟩ hK hT hP hS (Fp.blocks hP hD hS hA (cs := [wHb ad ct, wKb cy ad nx, wSt cy ad 20 (Zh 0) (Fh 0), wSt cy ad 27 (Zh 1) (Fh 1), wSt cy ad 34 (Zh 2) (Fh 2), wSt cy ad 41 (Zh 3) (Fh 3), wSt cy ad 48 (Zh 4) (Fh 4), wSt cy ad 55 (Zh 5) (Fh 5), wSt cy ad 1 z f]) (nb := fun (u : Int × Int × (Nat → Nat → Int) × (Nat → Nat → Nat → Int32)) => [wHb ad u.2.1, wKb cy ad u.1, wSt cy ad 20 (u.2.2.1 0) (u.2.2.2 0), wSt cy ad 27 (u.2.2.1 1) (u.2.2.2 1), wSt cy ad 34 (u.2.2.1 2) (u.2.2.2 2), wSt cy ad 41 (u.2.2.1 3) (u.2.2.2 3), wSt cy ad 48 (u.2.2.1 4) (u.2.2.2 4), wSt cy ad 55 (u.2.2.1 5) (u.2.2.2 5), wSt cy ad 1 z f]) (nbs := fun (u : Int × Int × (Nat → Nat → Int) × (Nat → Nat → Nat → Int32)) => [wTop ad, wSt cy ad 1 z f, wHb ad u.2.1, wKb cy ad u.1, wSt cy ad 20 (u.2.2.1 0) (u.2.2.2 0), wSt cy ad 27 (u.2.2.1 1) (u.2.2.2 1), wSt cy ad 34 (u.2.2.1 2) (u.2.2.2 2), wSt cy ad 41 (u.2.2.1 3) (u.2.2.2 3), wSt cy ad 48 (u.2.2.1 4) (u.2.2.2 4), wSt cy ad 55 (u.2.2.1 5) (u.2.2.2 5), wEn cy ad en B Kf]) [2, 3, 4, 5, 6, 7, 8, 9, 1] rfl rfl rfl (fun _ => rfl) (fun _ => rfl) (fun _ => rfl)) 8 1 rfl rfl rfl rfl hl.1 rfl (Nat.le_of_ble_eq_true rfl) dX4_finish_8 ⟨Nat.zero_le _, Nat.zero_le _⟩ (fun  u_1 H locs hw_1 hP hD hS => ?_)
  obtain ⟨nx1_1, ct1_1, Zh1_1, Fh1_1⟩ := u_1
  have hw_1 : RXH nx1_1 ct1_1 Zh1_1 Fh1_1 (pushH h M) := hw_1
  have hP : va_P D vwCl (List.flatten [wTop ad, wSt cy ad 1 z f, wHb ad ct1_1, wKb cy ad nx1_1, wSt cy ad 20 (Zh1_1 0) (Fh1_1 0), wSt cy ad 27 (Zh1_1 1) (Fh1_1 1), wSt cy ad 34 (Zh1_1 2) (Fh1_1 2), wSt cy ad 41 (Zh1_1 3) (Fh1_1 3), wSt cy ad 48 (Zh1_1 4) (Fh1_1 4), wSt cy ad 55 (Zh1_1 5) (Fh1_1 5), wEn cy ad en B Kf]) H := hP
  have hD : va_D A (List.flatten [wTop ad, wSt cy ad 1 z f, wHb ad ct1_1, wKb cy ad nx1_1, wSt cy ad 20 (Zh1_1 0) (Fh1_1 0), wSt cy ad 27 (Zh1_1 1) (Fh1_1 1), wSt cy ad 34 (Zh1_1 2) (Fh1_1 2), wSt cy ad 41 (Zh1_1 3) (Fh1_1 3), wSt cy ad 48 (Zh1_1 4) (Fh1_1 4), wSt cy ad 55 (Zh1_1 5) (Fh1_1 5), wEn cy ad en B Kf]) := hD
  refine lv_aload_n hx hb dX4_finish_11 rfl (lv_at hl 0 rfl) ?_
  refine va_get (D := D) (ci := 4) (v := .ref (ad 15)) (C := RX4) (T := TX4) (N := 7) hx hb hts hiX4 hown hK hP 0 rfl rfl 2 (by decide) (hts (.fieldLink RX4 22 "BackwardSearch" "ends" "LBackwardSearch$Ends;") (by decide +kernel)) (fun _ h9 => h9) rfl dX4_finish_12 ?_
  refine lv_aload_n hx hb dX4_finish_15 rfl (lv_at hl 0 rfl) ?_
  refine va_get (D := D) (ci := 4) (v := .ref (ad 1)) (C := RX4) (T := TX4) (N := 7) hx hb hts hiX4 hown hK hP 0 rfl rfl 0 (by decide) (hts (.fieldLink RX4 10 "BackwardSearch" "state" "LBackwardSearch$State;") (by decide +kernel)) (fun _ h9 => h9) rfl dX4_finish_16 ?_
  refine va_getN (D := D) (ci := 3) (v := .ref (ad 4)) (C := RX3) (T := TX3) (N := 8) (host := RX4) hx hb hts hiX3 hown hK hP 1 rfl rfl 1 (by decide) (va_Nw.use rfl (hT.1 _ (List.mem_of_getElem? (i := 1) rfl))) (fun _ h9 => h9) rfl dX4_finish_19 ?_
  refine z_gVv (n := 1) (b := ad 15) (As := [.ref (ad 4)]) (rest := []) ⟨hx, hb, hml, hown, hts⟩ (c_X0_studyB l D cy (ad 15) (ad 16) (ad 17) en B Kf (ad 1) (ad 2) (ad 3) (ad 4) (ad 5) (ad 6) (ad 7) (z 0) (f 0) (z 1) (f 1) (z 2) (f 2) (z 3) (z 4) (z 5) (z 6) (z 7) (by first | assumption | omega) (hk)) gX4_finish_X0_study rfl (by decide +kernel) ⟨Nat.le_of_ble_eq_true rfl, Nat.le_of_ble_eq_true rfl⟩ hK hT hP hS (Fp.blocks hP hD hS hA (cs := [wEn cy ad en B Kf, wSt cy ad 1 z f]) (nb := fun (u : (Nat → Int) × (Nat → Int)) => [wEn cy ad (z 1) u.1 u.2, wSt cy ad 1 (zL [(z 0), (z 1), (z 2), (z 3), (z 4), (z 5), (z 6), (z 7)]) (fL [(f 0), (f 1), (f 2)])]) (nbs := fun (u : (Nat → Int) × (Nat → Int)) => [wTop ad, wSt cy ad 1 (zL [(z 0), (z 1), (z 2), (z 3), (z 4), (z 5), (z 6), (z 7)]) (fL [(f 0), (f 1), (f 2)]), wHb ad ct1_1, wKb cy ad nx1_1, wSt cy ad 20 (Zh1_1 0) (Fh1_1 0), wSt cy ad 27 (Zh1_1 1) (Fh1_1 1), wSt cy ad 34 (Zh1_1 2) (Fh1_1 2), wSt cy ad 41 (Zh1_1 3) (Fh1_1 3), wSt cy ad 48 (Zh1_1 4) (Fh1_1 4), wSt cy ad 55 (Zh1_1 5) (Fh1_1 5), wEn cy ad (z 1) u.1 u.2]) [10, 1] rfl rfl rfl (fun _ => rfl) (fun _ => rfl) (fun _ => rfl)) 52 0 rfl rfl rfl rfl hl.1 rfl (Nat.le_of_ble_eq_true rfl) dX4_finish_22 ⟨Nat.zero_le _, Nat.zero_le _⟩ (fun  u_2 H locs hw_2 hP hD hS => ?_)
  obtain ⟨B1_2, K1_2⟩ := u_2
  have hw_2 : B1_2 = studyB (z 1).toNat (f 1) B Kf ∧ K1_2 = studyK (z 1).toNat (f 1) B Kf := hw_2
  have hP : va_P D vwCl (List.flatten [wTop ad, wSt cy ad 1 (zL [(z 0), (z 1), (z 2), (z 3), (z 4), (z 5), (z 6), (z 7)]) (fL [(f 0), (f 1), (f 2)]), wHb ad ct1_1, wKb cy ad nx1_1, wSt cy ad 20 (Zh1_1 0) (Fh1_1 0), wSt cy ad 27 (Zh1_1 1) (Fh1_1 1), wSt cy ad 34 (Zh1_1 2) (Fh1_1 2), wSt cy ad 41 (Zh1_1 3) (Fh1_1 3), wSt cy ad 48 (Zh1_1 4) (Fh1_1 4), wSt cy ad 55 (Zh1_1 5) (Fh1_1 5), wEn cy ad (z 1) B1_2 K1_2]) H := hP
  have hD : va_D A (List.flatten [wTop ad, wSt cy ad 1 (zL [(z 0), (z 1), (z 2), (z 3), (z 4), (z 5), (z 6), (z 7)]) (fL [(f 0), (f 1), (f 2)]), wHb ad ct1_1, wKb cy ad nx1_1, wSt cy ad 20 (Zh1_1 0) (Fh1_1 0), wSt cy ad 27 (Zh1_1 1) (Fh1_1 1), wSt cy ad 34 (Zh1_1 2) (Fh1_1 2), wSt cy ad 41 (Zh1_1 3) (Fh1_1 3), wSt cy ad 48 (Zh1_1 4) (Fh1_1 4), wSt cy ad 55 (Zh1_1 5) (Fh1_1 5), wEn cy ad (z 1) B1_2 K1_2]) := hD
  obtain ⟨rfl, rfl⟩ := hw_2
  refine lv_aload_n hx hb dX4_finish_25 rfl (lv_at hl 0 rfl) ?_
  refine va_get (D := D) (ci := 4) (v := .ref (ad 1)) (C := RX4) (T := TX4) (N := 7) hx hb hts hiX4 hown hK hP 0 rfl rfl 0 (by decide) (hts (.fieldLink RX4 10 "BackwardSearch" "state" "LBackwardSearch$State;") (by decide +kernel)) (fun _ h9 => h9) rfl dX4_finish_26 ?_
  refine lv_aload_n hx hb dX4_finish_29 rfl (lv_at hl 0 rfl) ?_
  refine va_get (D := D) (ci := 4) (v := .ref (ad 15)) (C := RX4) (T := TX4) (N := 7) hx hb hts hiX4 hown hK hP 0 rfl rfl 2 (by decide) (hts (.fieldLink RX4 22 "BackwardSearch" "ends" "LBackwardSearch$Ends;") (by decide +kernel)) (fun _ h9 => h9) rfl dX4_finish_30 ?_
  refine z_gVi (n := 1) (b := ad 1) (As := [.ref (ad 15)]) (rest := []) ⟨hx, hb, hml, hown, hts⟩ (c_X3_lookToTheEnd l D cy (ad 1) (ad 2) (ad 3) (ad 4) (ad 5) (ad 6) (ad 7) (z 0) (f 0) (z 1) (f 1) (z 2) (f 2) (z 3) (z 4) (z 5) (z 6) (z 7) (ad 15) (ad 16) (ad 17) (z 1) (studyB (z 1).toNat (f 1) B Kf) (studyK (z 1).toNat (f 1) B Kf) M.2.2.1 (by first | assumption | omega) (by first | assumption | omega) (hsr.1) (⟨by omega, by omega, fun _ => by omega⟩) (r2)) gX4_finish_X3_lookToTheEnd rfl (by decide +kernel) ⟨Nat.le_of_ble_eq_true rfl, Nat.le_of_ble_eq_true rfl⟩ hK hT hP hS (Fp.blocks hP hD hS hA (cs := [wSt cy ad 1 (zL [(z 0), (z 1), (z 2), (z 3), (z 4), (z 5), (z 6), (z 7)]) (fL [(f 0), (f 1), (f 2)]), wEn cy ad (z 1) (studyB (z 1).toNat (f 1) B Kf) (studyK (z 1).toNat (f 1) B Kf)]) (nb := fun (u : Int × Int × Int × Int × (Nat → Int32)) => [wSt cy ad 1 (zL [(z 0), (z 1), u.2.2.2.1, (z 3), (z 4), u.1, u.2.1, u.2.2.1]) (fL [(f 0), (f 1), u.2.2.2.2]), wEn cy ad (z 1) (studyB (z 1).toNat (f 1) B Kf) (studyK (z 1).toNat (f 1) B Kf)]) (nbs := fun (u : Int × Int × Int × Int × (Nat → Int32)) => [wTop ad, wSt cy ad 1 (zL [(z 0), (z 1), u.2.2.2.1, (z 3), (z 4), u.1, u.2.1, u.2.2.1]) (fL [(f 0), (f 1), u.2.2.2.2]), wHb ad ct1_1, wKb cy ad nx1_1, wSt cy ad 20 (Zh1_1 0) (Fh1_1 0), wSt cy ad 27 (Zh1_1 1) (Fh1_1 1), wSt cy ad 34 (Zh1_1 2) (Fh1_1 2), wSt cy ad 41 (Zh1_1 3) (Fh1_1 3), wSt cy ad 48 (Zh1_1 4) (Fh1_1 4), wSt cy ad 55 (Zh1_1 5) (Fh1_1 5), wEn cy ad (z 1) (studyB (z 1).toNat (f 1) B Kf) (studyK (z 1).toNat (f 1) B Kf)]) [1, 10] rfl rfl rfl (fun _ => rfl) (fun _ => rfl) (fun _ => rfl)) 1 3 rfl rfl rfl rfl hl.1 rfl (Nat.le_of_ble_eq_true rfl) dX4_finish_33 ⟨Nat.zero_le _, Nat.zero_le _⟩ (fun r_3 u_3 H locs hw_3 hP hD hS => ?_)
  obtain ⟨pl1_3, lk1_3, cp1_3, nf1_3, Ff1_3⟩ := u_3
  have hw_3 : r_3 = iI (runS (z 0).toNat (z 1).toNat (f 1) (f 0) (skX ((studyB (z 1).toNat (f 1) B Kf) 0) (studyK (z 1).toNat (f 1) B Kf) (z 3) (z 4) (z 1).toNat (f 1) (f 0)) 60 ((z 5), (z 6), (z 7), M.2.2.1)).2 ∧ pl1_3 = (runS (z 0).toNat (z 1).toNat (f 1) (f 0) (skX ((studyB (z 1).toNat (f 1) B Kf) 0) (studyK (z 1).toNat (f 1) B Kf) (z 3) (z 4) (z 1).toNat (f 1) (f 0)) 60 ((z 5), (z 6), (z 7), M.2.2.1)).1.1 ∧ lk1_3 = (runS (z 0).toNat (z 1).toNat (f 1) (f 0) (skX ((studyB (z 1).toNat (f 1) B Kf) 0) (studyK (z 1).toNat (f 1) B Kf) (z 3) (z 4) (z 1).toNat (f 1) (f 0)) 60 ((z 5), (z 6), (z 7), M.2.2.1)).1.2.1 ∧ cp1_3 = (runS (z 0).toNat (z 1).toNat (f 1) (f 0) (skX ((studyB (z 1).toNat (f 1) B Kf) 0) (studyK (z 1).toNat (f 1) B Kf) (z 3) (z 4) (z 1).toNat (f 1) (f 0)) 60 ((z 5), (z 6), (z 7), M.2.2.1)).1.2.2.1 ∧ Rep nf1_3 Ff1_3 (runS (z 0).toNat (z 1).toNat (f 1) (f 0) (skX ((studyB (z 1).toNat (f 1) B Kf) 0) (studyK (z 1).toNat (f 1) B Kf) (z 3) (z 4) (z 1).toNat (f 1) (f 0)) 60 ((z 5), (z 6), (z 7), M.2.2.1)).1.2.2.2 ∧ (0 ≤ (z 0) ∧ (z 0) ≤ 60 ∧ 0 ≤ (z 1) ∧ (z 1) ≤ 16 ∧ 0 ≤ nf1_3 ∧ nf1_3 ≤ pl1_3 ∧ pl1_3 ≤ 100 ∧ nf1_3 ≤ 60 ∧ 0 ≤ lk1_3 ∧ lk1_3 ≤ pl1_3 ∧ 0 ≤ cp1_3 ∧ cp1_3 ≤ 16 * lk1_3 ∧ 0 ≤ (z 3) ∧ (z 3) ≤ 1 ∧ 0 ≤ (z 4) ∧ (z 4) ≤ 1) := hw_3
  have hP : va_P D vwCl (List.flatten [wTop ad, wSt cy ad 1 (zL [(z 0), (z 1), nf1_3, (z 3), (z 4), pl1_3, lk1_3, cp1_3]) (fL [(f 0), (f 1), Ff1_3]), wHb ad ct1_1, wKb cy ad nx1_1, wSt cy ad 20 (Zh1_1 0) (Fh1_1 0), wSt cy ad 27 (Zh1_1 1) (Fh1_1 1), wSt cy ad 34 (Zh1_1 2) (Fh1_1 2), wSt cy ad 41 (Zh1_1 3) (Fh1_1 3), wSt cy ad 48 (Zh1_1 4) (Fh1_1 4), wSt cy ad 55 (Zh1_1 5) (Fh1_1 5), wEn cy ad (z 1) (studyB (z 1).toNat (f 1) B Kf) (studyK (z 1).toNat (f 1) B Kf)]) H := hP
  have hD : va_D A (List.flatten [wTop ad, wSt cy ad 1 (zL [(z 0), (z 1), nf1_3, (z 3), (z 4), pl1_3, lk1_3, cp1_3]) (fL [(f 0), (f 1), Ff1_3]), wHb ad ct1_1, wKb cy ad nx1_1, wSt cy ad 20 (Zh1_1 0) (Fh1_1 0), wSt cy ad 27 (Zh1_1 1) (Fh1_1 1), wSt cy ad 34 (Zh1_1 2) (Fh1_1 2), wSt cy ad 41 (Zh1_1 3) (Fh1_1 3), wSt cy ad 48 (Zh1_1 4) (Fh1_1 4), wSt cy ad 55 (Zh1_1 5) (Fh1_1 5), wEn cy ad (z 1) (studyB (z 1).toNat (f 1) B Kf) (studyK (z 1).toNat (f 1) B Kf)]) := hD
  exact z_iret hx hb hr hlocks hS ((zL [(z 0), (z 1), nf1_3, (z 3), (z 4), pl1_3, lk1_3, cp1_3]), (fL [(f 0), (f 1), Ff1_3]), nx1_1, ct1_1, Zh1_1, Fh1_1, (z 1), (studyB (z 1).toNat (f 1) B Kf), (studyK (z 1).toNat (f 1) B Kf)) (show r_3 = iI (mRun M).2 ∧ RS (zL [(z 0), (z 1), nf1_3, (z 3), (z 4), pl1_3, lk1_3, cp1_3]) (fL [(f 0), (f 1), Ff1_3]) (mOf M (mRun M).1) ∧ RXH nx1_1 ct1_1 Zh1_1 Fh1_1 (pushH h M) ∧ ∀ j : Nat, 0 ≤ (studyK (z 1).toNat (f 1) B Kf) j ∧ (studyK (z 1).toNat (f 1) B Kf) j ≤ 17 from (by
        obtain ⟨e1, e2⟩ := RS_fin hR hM (B := B) (Kf := Kf) hw_3.2.1 hw_3.2.2.1 hw_3.2.2.2.1 hw_3.2.2.2.2.1
        exact ⟨hw_3.1.trans (congrArg iI e1), e2, hw_1, hsr.1⟩)) hP dX4_finish_36
set_option maxHeartbeats 4000000 in
set_option maxRecDepth 100000 in
theorem c_X4_undo (l : Launch) (hfl : l.stackTraces = false) (D : va_G) (cy : Nat → ClassId) (ad : Nat → Nat) (z : Nat → Int) (f : Nat → Nat → Int32) (M : MS) (nx : Int) (ct : Int) (Zh : Nat → Nat → Int) (Fh : Nat → Nat → Nat → Int32) (h : List MS) (hH : RXH nx ct Zh Fh h) : Xi l D cy yX4_undo wsX4_undo 6 92 1 [.ref (ad 0)] (List.flatten [wTop ad, wSt cy ad 1 z f, wHb ad ct, wKb cy ad nx, wSt cy ad 20 (Zh 0) (Fh 0), wSt cy ad 27 (Zh 1) (Fh 1), wSt cy ad 34 (Zh 2) (Fh 2), wSt cy ad 41 (Zh 3) (Fh 3), wSt cy ad 48 (Zh 4) (Fh 4), wSt cy ad 55 (Zh 5) (Fh 5)]) (fun (r : Int32) (u : (Nat → Int) × (Nat → Nat → Int32) × Int × Int) => ¬ h.length = 0 ∧ r = iI ((h.length : Int) - 1) ∧ RXH u.2.2.1 u.2.2.2 Zh Fh (h.take (h.length - 1)) ∧ ∀ M2 : MS, h[h.length - 1]? = some M2 → RS u.1 u.2.1 M2) (fun u : (Nat → Int) × (Nat → Nat → Int32) × Int × Int => (List.flatten [wTop ad, wSt cy ad 1 u.1 u.2.1, wHb ad u.2.2.2, wKb cy ad u.2.2.1, wSt cy ad 20 (Zh 0) (Fh 0), wSt cy ad 27 (Zh 1) (Fh 1), wSt cy ad 34 (Zh 2) (Fh 2), wSt cy ad 41 (Zh 3) (Fh 3), wSt cy ad 48 (Zh 4) (Fh 4), wSt cy ad 55 (Zh 5) (Fh 5)])) (fun E => E = xISE ∧ h.length = 0) := by
  refine Xi_of (cc := cX4_undo) (maxL := 1) (ret := (some .int)) (by decide) rfl rfl ?_
  intro p e s m args below meth c A hx hb hr hts hown hlocks hml htab hP hK hD hT hC hZ hA ls hl
  have hS : va_S A s.heap s.heap [] := va_S.rf
  have hl : lv_has ls 1 [(0, .ref (ad 0))] := hl
  have hP : va_P D vwCl (List.flatten [wTop ad, wSt cy ad 1 z f, wHb ad ct, wKb cy ad nx, wSt cy ad 20 (Zh 0) (Fh 0), wSt cy ad 27 (Zh 1) (Fh 1), wSt cy ad 34 (Zh 2) (Fh 2), wSt cy ad 41 (Zh 3) (Fh 3), wSt cy ad 48 (Zh 4) (Fh 4), wSt cy ad 55 (Zh 5) (Fh 5)]) s.heap := hP
  have hD : va_D A (List.flatten [wTop ad, wSt cy ad 1 z f, wHb ad ct, wKb cy ad nx, wSt cy ad 20 (Zh 0) (Fh 0), wSt cy ad 27 (Zh 1) (Fh 1), wSt cy ad 34 (Zh 2) (Fh 2), wSt cy ad 41 (Zh 3) (Fh 3), wSt cy ad 48 (Zh 4) (Fh 4), wSt cy ad 55 (Zh 5) (Fh 5)]) := hD
  have hiX4 : ∀ w ∈ wsX40, w ∈ wsX4_undo := by decide +kernel
  have hct := hH.2.2.1
  have hct2 := hH.2.2.2.1
  refine lv_aload_n hx hb dX4_undo_0 rfl (lv_at hl 0 rfl) ?_
  refine va_get (D := D) (ci := 4) (v := .ref (ad 18)) (C := RX4) (T := TX4) (N := 7) hx hb hts hiX4 hown hK hP 0 rfl rfl 3 (by decide) (hts (.fieldLink RX4 29 "BackwardSearch" "history" "LBackwardSearch$History;") (by decide +kernel)) (fun _ h9 => h9) rfl dX4_undo_1 ?_
  refine z_gVi (n := 0) (b := ad 18) (As := []) (rest := []) ⟨hx, hb, hml, hown, hts⟩ (c_X1_size l D cy (ad 18) (ad 19) ct ) gX4_undo_X1_size rfl (by decide +kernel) ⟨Nat.le_of_ble_eq_true rfl, Nat.le_of_ble_eq_true rfl⟩ hK hT hP hS (Fp.same hP hD hS hA [8] rfl rfl (fun _ => rfl)) 8 1 rfl rfl rfl rfl hl.1 rfl (Nat.le_of_ble_eq_true rfl) dX4_undo_4 ⟨Nat.zero_le _, Nat.zero_le _⟩ (fun r_1 u_1 H locs hw_1 hP hD hS => ?_)
  have hw_1 : r_1 = iI ct := hw_1
  have hP : va_P D vwCl (List.flatten [wTop ad, wSt cy ad 1 z f, wHb ad ct, wKb cy ad nx, wSt cy ad 20 (Zh 0) (Fh 0), wSt cy ad 27 (Zh 1) (Fh 1), wSt cy ad 34 (Zh 2) (Fh 2), wSt cy ad 41 (Zh 3) (Fh 3), wSt cy ad 48 (Zh 4) (Fh 4), wSt cy ad 55 (Zh 5) (Fh 5)]) H := hP
  have hD : va_D A (List.flatten [wTop ad, wSt cy ad 1 z f, wHb ad ct, wKb cy ad nx, wSt cy ad 20 (Zh 0) (Fh 0), wSt cy ad 27 (Zh 1) (Fh 1), wSt cy ad 34 (Zh 2) (Fh 2), wSt cy ad 41 (Zh 3) (Fh 3), wSt cy ad 48 (Zh 4) (Fh 4), wSt cy ad 55 (Zh 5) (Fh 5)]) := hD
  obtain rfl := hw_1
  refine z_if_ne (tgt := 20) hx hb (iI_t (by omega) (by omega)) dX4_undo_7 (by decide) (fun c2 => ?_) (fun c2 => ?_)
  · --
    refine lv_aload_n hx hb dX4_undo_20 rfl (lv_at hl 0 rfl) ?_
    refine va_get (D := D) (ci := 4) (v := .ref (ad 18)) (C := RX4) (T := TX4) (N := 7) hx hb hts hiX4 hown hK hP 0 rfl rfl 3 (by decide) (hts (.fieldLink RX4 29 "BackwardSearch" "history" "LBackwardSearch$History;") (by decide +kernel)) (fun _ h9 => h9) rfl dX4_undo_21 ?_
    refine lv_aload_n hx hb dX4_undo_24 rfl (lv_at hl 0 rfl) ?_
    refine va_get (D := D) (ci := 4) (v := .ref (ad 1)) (C := RX4) (T := TX4) (N := 7) hx hb hts hiX4 hown hK hP 0 rfl rfl 0 (by decide) (hts (.fieldLink RX4 10 "BackwardSearch" "state" "LBackwardSearch$State;") (by decide +kernel)) (fun _ h9 => h9) rfl dX4_undo_25 ?_
    refine z_gVv (n := 1) (b := ad 18) (As := [.ref (ad 1)]) (rest := []) ⟨hx, hb, hml, hown, hts⟩ (c_X1_giveA l D cy ad nx ct Zh Fh h z f (hH) (by first | assumption | omega)) gX4_undo_X1_giveBack rfl (by decide +kernel) ⟨Nat.le_of_ble_eq_true rfl, Nat.le_of_ble_eq_true rfl⟩ hK hT hP hS (Fp.blocks hP hD hS hA (cs := [wHb ad ct, wKb cy ad nx, wSt cy ad 20 (Zh 0) (Fh 0), wSt cy ad 27 (Zh 1) (Fh 1), wSt cy ad 34 (Zh 2) (Fh 2), wSt cy ad 41 (Zh 3) (Fh 3), wSt cy ad 48 (Zh 4) (Fh 4), wSt cy ad 55 (Zh 5) (Fh 5), wSt cy ad 1 z f]) (nb := fun (u : Int × Int × (Nat → Int) × (Nat → Nat → Int32)) => [wHb ad u.2.1, wKb cy ad u.1, wSt cy ad 20 (Zh 0) (Fh 0), wSt cy ad 27 (Zh 1) (Fh 1), wSt cy ad 34 (Zh 2) (Fh 2), wSt cy ad 41 (Zh 3) (Fh 3), wSt cy ad 48 (Zh 4) (Fh 4), wSt cy ad 55 (Zh 5) (Fh 5), wSt cy ad 1 u.2.2.1 u.2.2.2]) (nbs := fun (u : Int × Int × (Nat → Int) × (Nat → Nat → Int32)) => [wTop ad, wSt cy ad 1 u.2.2.1 u.2.2.2, wHb ad u.2.1, wKb cy ad u.1, wSt cy ad 20 (Zh 0) (Fh 0), wSt cy ad 27 (Zh 1) (Fh 1), wSt cy ad 34 (Zh 2) (Fh 2), wSt cy ad 41 (Zh 3) (Fh 3), wSt cy ad 48 (Zh 4) (Fh 4), wSt cy ad 55 (Zh 5) (Fh 5)]) [2, 3, 4, 5, 6, 7, 8, 9, 1] rfl rfl rfl (fun _ => rfl) (fun _ => rfl) (fun _ => rfl)) 8 1 rfl rfl rfl rfl hl.1 rfl (Nat.le_of_ble_eq_true rfl) dX4_undo_28 ⟨Nat.zero_le _, Nat.zero_le _⟩ (fun  u_3 H locs hw_3 hP hD hS => ?_)
    obtain ⟨nx1_3, ct1_3, z1_3, f1_3⟩ := u_3
    have hw_3 : RXH nx1_3 ct1_3 Zh Fh (h.take (h.length - 1)) ∧ ∀ M2 : MS, h[h.length - 1]? = some M2 → RS z1_3 f1_3 M2 := hw_3
    have hP : va_P D vwCl (List.flatten [wTop ad, wSt cy ad 1 z1_3 f1_3, wHb ad ct1_3, wKb cy ad nx1_3, wSt cy ad 20 (Zh 0) (Fh 0), wSt cy ad 27 (Zh 1) (Fh 1), wSt cy ad 34 (Zh 2) (Fh 2), wSt cy ad 41 (Zh 3) (Fh 3), wSt cy ad 48 (Zh 4) (Fh 4), wSt cy ad 55 (Zh 5) (Fh 5)]) H := hP
    have hD : va_D A (List.flatten [wTop ad, wSt cy ad 1 z1_3 f1_3, wHb ad ct1_3, wKb cy ad nx1_3, wSt cy ad 20 (Zh 0) (Fh 0), wSt cy ad 27 (Zh 1) (Fh 1), wSt cy ad 34 (Zh 2) (Fh 2), wSt cy ad 41 (Zh 3) (Fh 3), wSt cy ad 48 (Zh 4) (Fh 4), wSt cy ad 55 (Zh 5) (Fh 5)]) := hD
    refine lv_aload_n hx hb dX4_undo_31 rfl (lv_at hl 0 rfl) ?_
    refine va_get (D := D) (ci := 4) (v := .ref (ad 18)) (C := RX4) (T := TX4) (N := 7) hx hb hts hiX4 hown hK hP 0 rfl rfl 3 (by decide) (hts (.fieldLink RX4 29 "BackwardSearch" "history" "LBackwardSearch$History;") (by decide +kernel)) (fun _ h9 => h9) rfl dX4_undo_32 ?_
    refine z_gVi (n := 0) (b := ad 18) (As := []) (rest := []) ⟨hx, hb, hml, hown, hts⟩ (c_X1_size l D cy (ad 18) (ad 19) ct1_3 ) gX4_undo_X1_size rfl (by decide +kernel) ⟨Nat.le_of_ble_eq_true rfl, Nat.le_of_ble_eq_true rfl⟩ hK hT hP hS (Fp.same hP hD hS hA [8] rfl rfl (fun _ => rfl)) 8 1 rfl rfl rfl rfl hl.1 rfl (Nat.le_of_ble_eq_true rfl) dX4_undo_35 ⟨Nat.zero_le _, Nat.zero_le _⟩ (fun r_4 u_4 H locs hw_4 hP hD hS => ?_)
    have hw_4 : r_4 = iI ct1_3 := hw_4
    have hP : va_P D vwCl (List.flatten [wTop ad, wSt cy ad 1 z1_3 f1_3, wHb ad ct1_3, wKb cy ad nx1_3, wSt cy ad 20 (Zh 0) (Fh 0), wSt cy ad 27 (Zh 1) (Fh 1), wSt cy ad 34 (Zh 2) (Fh 2), wSt cy ad 41 (Zh 3) (Fh 3), wSt cy ad 48 (Zh 4) (Fh 4), wSt cy ad 55 (Zh 5) (Fh 5)]) H := hP
    have hD : va_D A (List.flatten [wTop ad, wSt cy ad 1 z1_3 f1_3, wHb ad ct1_3, wKb cy ad nx1_3, wSt cy ad 20 (Zh 0) (Fh 0), wSt cy ad 27 (Zh 1) (Fh 1), wSt cy ad 34 (Zh 2) (Fh 2), wSt cy ad 41 (Zh 3) (Fh 3), wSt cy ad 48 (Zh 4) (Fh 4), wSt cy ad 55 (Zh 5) (Fh 5)]) := hD
    obtain rfl := hw_4
    exact x_iret hx hb hr hlocks hS (z1_3, f1_3, nx1_3, ct1_3) (show ¬ h.length = 0 ∧ (iI ct1_3) = iI ((h.length : Int) - 1) ∧ RXH nx1_3 ct1_3 Zh Fh (h.take (h.length - 1)) ∧ ∀ M2 : MS, h[h.length - 1]? = some M2 → RS z1_3 f1_3 M2 from ⟨by omega, congrArg iI (by have := hw_3.1.2.2.1; simp only [List.length_take] at this; omega), hw_3.1, hw_3.2⟩) hP dX4_undo_38 (by decide) (by decide)
  · --
    exact x_throw (cls := xISE) (text := "no state is recorded") (ik := 85) (is := 197) (ic := 89) (Ts := wsX4_undo) hx hb hfl hown (by decide +kernel) (by decide +kernel) hts (by decide +kernel) (by decide +kernel) (by decide +kernel) x_ng1 x_gw1 hT hC (by decide +kernel) hZ hS (hl.1.trans hml.symm) dX4_undo_10 dX4_undo_13 dX4_undo_14 dX4_undo_16 dX4_undo_19 htab (by decide) (by decide) (by decide) (by decide) hlocks hP (⟨rfl, by omega⟩) (by decide) (by decide)
set_option maxHeartbeats 4000000 in
set_option maxRecDepth 100000 in
theorem c_X4_undoCount (l : Launch) (D : va_G) (cy : Nat → ClassId) (ad : Nat → Nat) (nx : Int) (ct : Int) (Zh : Nat → Nat → Int) (Fh : Nat → Nat → Nat → Int32) (h : List MS) (hH : RXH nx ct Zh Fh h) : Ci l D cy yX4_undoCount wsX4_undoCount 1 20 [.ref (ad 0)] (List.flatten [wTop ad, wHb ad ct]) (fun (r : Int32) (u : Unit) => r = iI (h.length : Int)) (fun u : Unit => (List.flatten [wTop ad, wHb ad ct])) := by
  refine Ci_of (cc := cX4_undoCount) (maxL := 1) (ret := (some .int)) (by decide) rfl rfl ?_
  intro p e s m args below meth c A hx hb hr hts hown hlocks hml hP hK hD hT hA ls hl
  have hS : va_S A s.heap s.heap [] := va_S.rf
  have hl : lv_has ls 1 [(0, .ref (ad 0))] := hl
  have hP : va_P D vwCl (List.flatten [wTop ad, wHb ad ct]) s.heap := hP
  have hD : va_D A (List.flatten [wTop ad, wHb ad ct]) := hD
  have hiX4 : ∀ w ∈ wsX40, w ∈ wsX4_undoCount := by decide +kernel
  refine lv_aload_n hx hb dX4_undoCount_0 rfl (lv_at hl 0 rfl) ?_
  refine va_get (D := D) (ci := 4) (v := .ref (ad 18)) (C := RX4) (T := TX4) (N := 7) hx hb hts hiX4 hown hK hP 0 rfl rfl 3 (by decide) (hts (.fieldLink RX4 29 "BackwardSearch" "history" "LBackwardSearch$History;") (by decide +kernel)) (fun _ h9 => h9) rfl dX4_undoCount_1 ?_
  refine z_gVi (n := 0) (b := ad 18) (As := []) (rest := []) ⟨hx, hb, hml, hown, hts⟩ (c_X1_size l D cy (ad 18) (ad 19) ct ) gX4_undoCount_X1_size rfl (by decide +kernel) ⟨Nat.le_of_ble_eq_true rfl, Nat.le_of_ble_eq_true rfl⟩ hK hT hP hS (Fp.same hP hD hS hA [1] rfl rfl (fun _ => rfl)) 1 1 rfl rfl rfl rfl hl.1 rfl (Nat.le_of_ble_eq_true rfl) dX4_undoCount_4 ⟨Nat.zero_le _, Nat.zero_le _⟩ (fun r_1 u_1 H locs hw_1 hP hD hS => ?_)
  have hw_1 : r_1 = iI ct := hw_1
  have hP : va_P D vwCl (List.flatten [wTop ad, wHb ad ct]) H := hP
  have hD : va_D A (List.flatten [wTop ad, wHb ad ct]) := hD
  obtain rfl := hw_1
  exact z_iret hx hb hr hlocks hS () (show (iI ct) = iI (h.length : Int) from (congrArg iI hH.2.2.1)) hP dX4_undoCount_7

theorem dX4_clearText_0 : decode cX4_clearText 0 = .ok (.aload_n 0, 1) := by decide +kernel
theorem dX4_clearText_1 : decode cX4_clearText 1 = .ok (.getfield 46, 3) := by decide +kernel
theorem dX4_clearText_4 : decode cX4_clearText 4 = .ok (.invokevirtual 67, 3) := by decide +kernel
theorem dX4_clearText_7 : decode cX4_clearText 7 = .ok (.istore_n 1, 1) := by decide +kernel
theorem dX4_clearText_8 : decode cX4_clearText 8 = .ok (.aload_n 0, 1) := by decide +kernel
theorem dX4_clearText_9 : decode cX4_clearText 9 = .ok (.getfield 46, 3) := by decide +kernel
theorem dX4_clearText_12 : decode cX4_clearText 12 = .ok (.invokevirtual 193, 3) := by decide +kernel
theorem dX4_clearText_15 : decode cX4_clearText 15 = .ok (.iload_n 1, 1) := by decide +kernel
theorem dX4_clearText_16 : decode cX4_clearText 16 = .ok (.ireturn, 1) := by decide +kernel
set_option maxRecDepth 20000 in
theorem ggX4_clearText_X2_size : GoodIn wsX4_clearText wsX2_size := goodIn_r _ [6, 7, 19, 20] (by decide +kernel) (by decide +kernel)
set_option maxRecDepth 20000 in
theorem gX4_clearText_X2_size : GoodIn wsX4_clearText (wsV RX4 67 RX2 yX2_size wsX2_size) := goodIn_app (goodIn_of _ (by decide +kernel)) ggX4_clearText_X2_size
set_option maxRecDepth 20000 in
theorem ggX4_clearText_X2_clear : GoodIn wsX4_clearText wsX2_clear := goodIn_r _ [11, 7, 19, 20] (by decide +kernel) (by decide +kernel)
set_option maxRecDepth 20000 in
theorem gX4_clearText_X2_clear : GoodIn wsX4_clearText (wsV RX4 193 RX2 yX2_clear wsX2_clear) := goodIn_app (goodIn_of _ (by decide +kernel)) ggX4_clearText_X2_clear
theorem dX4_textError_0 : decode cX4_textError 0 = .ok (.iconst 0, 1) := by decide +kernel
theorem dX4_textError_1 : decode cX4_textError 1 = .ok (.istore_n 1, 1) := by decide +kernel
theorem dX4_textError_2 : decode cX4_textError 2 = .ok (.iload_n 1, 1) := by decide +kernel
theorem dX4_textError_3 : decode cX4_textError 3 = .ok (.aload_n 0, 1) := by decide +kernel
theorem dX4_textError_4 : decode cX4_textError 4 = .ok (.getfield 46, 3) := by decide +kernel
theorem dX4_textError_7 : decode cX4_textError 7 = .ok (.invokevirtual 67, 3) := by decide +kernel
theorem dX4_textError_10 : decode cX4_textError 10 = .ok (.if_icmp .ge 32, 3) := by decide +kernel
theorem dX4_textError_13 : decode cX4_textError 13 = .ok (.aload_n 0, 1) := by decide +kernel
theorem dX4_textError_14 : decode cX4_textError 14 = .ok (.getfield 46, 3) := by decide +kernel
theorem dX4_textError_17 : decode cX4_textError 17 = .ok (.iload_n 1, 1) := by decide +kernel
theorem dX4_textError_18 : decode cX4_textError 18 = .ok (.invokevirtual 113, 3) := by decide +kernel
theorem dX4_textError_21 : decode cX4_textError 21 = .ok (.istore_n 2, 1) := by decide +kernel
theorem dX4_textError_22 : decode cX4_textError 22 = .ok (.iload_n 2, 1) := by decide +kernel
theorem dX4_textError_23 : decode cX4_textError 23 = .ok (.bipush 97, 2) := by decide +kernel
theorem dX4_textError_25 : decode cX4_textError 25 = .ok (.if_icmp .lt 9, 3) := by decide +kernel
theorem dX4_textError_28 : decode cX4_textError 28 = .ok (.iload_n 2, 1) := by decide +kernel
theorem dX4_textError_29 : decode cX4_textError 29 = .ok (.bipush 122, 2) := by decide +kernel
theorem dX4_textError_31 : decode cX4_textError 31 = .ok (.if_icmp .le 5, 3) := by decide +kernel
theorem dX4_textError_34 : decode cX4_textError 34 = .ok (.iload_n 1, 1) := by decide +kernel
theorem dX4_textError_35 : decode cX4_textError 35 = .ok (.ireturn, 1) := by decide +kernel
theorem dX4_textError_36 : decode cX4_textError 36 = .ok (.iinc 1 1, 3) := by decide +kernel
theorem dX4_textError_39 : decode cX4_textError 39 = .ok (.goto (-37), 3) := by decide +kernel
theorem dX4_textError_42 : decode cX4_textError 42 = .ok (.iconst (-1), 1) := by decide +kernel
theorem dX4_textError_43 : decode cX4_textError 43 = .ok (.ireturn, 1) := by decide +kernel
set_option maxRecDepth 20000 in
theorem ggX4_textError_X2_size : GoodIn wsX4_textError wsX2_size := goodIn_r _ [6, 7, 24, 25] (by decide +kernel) (by decide +kernel)
set_option maxRecDepth 20000 in
theorem gX4_textError_X2_size : GoodIn wsX4_textError (wsV RX4 67 RX2 yX2_size wsX2_size) := goodIn_app (goodIn_of _ (by decide +kernel)) ggX4_textError_X2_size
set_option maxRecDepth 20000 in
theorem ggX4_textError_X2_at : GoodIn wsX4_textError wsX2_at := goodIn_r _ [11, 12, 13, 14, 15, 5, 16, 7, 24, 25] (by decide +kernel) (by decide +kernel)
set_option maxRecDepth 20000 in
theorem gX4_textError_X2_at : GoodIn wsX4_textError (wsV RX4 113 RX2 yX2_at wsX2_at) := goodIn_app (goodIn_of _ (by decide +kernel)) ggX4_textError_X2_at
theorem dX4_refuseTextUnlessLetters_0 : decode cX4_refuseTextUnlessLetters 0 = .ok (.aload_n 0, 1) := by decide +kernel
theorem dX4_refuseTextUnlessLetters_1 : decode cX4_refuseTextUnlessLetters 1 = .ok (.invokevirtual 219, 3) := by decide +kernel
theorem dX4_refuseTextUnlessLetters_4 : decode cX4_refuseTextUnlessLetters 4 = .ok (.iconst (-1), 1) := by decide +kernel
theorem dX4_refuseTextUnlessLetters_5 : decode cX4_refuseTextUnlessLetters 5 = .ok (.if_icmp .eq 13, 3) := by decide +kernel
theorem dX4_refuseTextUnlessLetters_8 : decode cX4_refuseTextUnlessLetters 8 = .ok (.new 85, 3) := by decide +kernel
theorem dX4_refuseTextUnlessLetters_11 : decode cX4_refuseTextUnlessLetters 11 = .ok (.dup, 1) := by decide +kernel
theorem dX4_refuseTextUnlessLetters_12 : decode cX4_refuseTextUnlessLetters 12 = .ok (.ldc 222, 2) := by decide +kernel
theorem dX4_refuseTextUnlessLetters_14 : decode cX4_refuseTextUnlessLetters 14 = .ok (.invokespecial 89, 3) := by decide +kernel
theorem dX4_refuseTextUnlessLetters_17 : decode cX4_refuseTextUnlessLetters 17 = .ok (.athrow, 1) := by decide +kernel
theorem dX4_refuseTextUnlessLetters_18 : decode cX4_refuseTextUnlessLetters 18 = .ok (.aload_n 0, 1) := by decide +kernel
theorem dX4_refuseTextUnlessLetters_19 : decode cX4_refuseTextUnlessLetters 19 = .ok (.getfield 46, 3) := by decide +kernel
theorem dX4_refuseTextUnlessLetters_22 : decode cX4_refuseTextUnlessLetters 22 = .ok (.invokevirtual 67, 3) := by decide +kernel
theorem dX4_refuseTextUnlessLetters_25 : decode cX4_refuseTextUnlessLetters 25 = .ok (.iload_n 1, 1) := by decide +kernel
theorem dX4_refuseTextUnlessLetters_26 : decode cX4_refuseTextUnlessLetters 26 = .ok (.if_icmp .le 13, 3) := by decide +kernel
theorem dX4_refuseTextUnlessLetters_29 : decode cX4_refuseTextUnlessLetters 29 = .ok (.new 85, 3) := by decide +kernel
theorem dX4_refuseTextUnlessLetters_32 : decode cX4_refuseTextUnlessLetters 32 = .ok (.dup, 1) := by decide +kernel
theorem dX4_refuseTextUnlessLetters_33 : decode cX4_refuseTextUnlessLetters 33 = .ok (.ldc 224, 2) := by decide +kernel
theorem dX4_refuseTextUnlessLetters_35 : decode cX4_refuseTextUnlessLetters 35 = .ok (.invokespecial 89, 3) := by decide +kernel
theorem dX4_refuseTextUnlessLetters_38 : decode cX4_refuseTextUnlessLetters 38 = .ok (.athrow, 1) := by decide +kernel
theorem dX4_refuseTextUnlessLetters_39 : decode cX4_refuseTextUnlessLetters 39 = .ok (.return_, 1) := by decide +kernel
set_option maxRecDepth 20000 in
theorem ggX4_refuseTextUnlessLetters_X4_textError : GoodIn wsX4_refuseTextUnlessLetters wsX4_textError := goodIn_r _ [8, 3, 9, 10, 11, 12, 13, 14, 15, 16, 17, 18, 19, 20, 21, 22, 23, 24, 25, 26, 27, 28, 29, 30, 31, 32] (by decide +kernel) (by decide +kernel)
set_option maxRecDepth 20000 in
theorem gX4_refuseTextUnlessLetters_X4_textError : GoodIn wsX4_refuseTextUnlessLetters (wsV RX4 219 RX4 yX4_textError wsX4_textError) := goodIn_app (goodIn_of _ (by decide +kernel)) ggX4_refuseTextUnlessLetters_X4_textError
set_option maxRecDepth 20000 in
theorem ggX4_refuseTextUnlessLetters_X2_size : GoodIn wsX4_refuseTextUnlessLetters wsX2_size := goodIn_r _ [13, 14, 31, 32] (by decide +kernel) (by decide +kernel)
set_option maxRecDepth 20000 in
theorem gX4_refuseTextUnlessLetters_X2_size : GoodIn wsX4_refuseTextUnlessLetters (wsV RX4 67 RX2 yX2_size wsX2_size) := goodIn_app (goodIn_of _ (by decide +kernel)) ggX4_refuseTextUnlessLetters_X2_size
theorem dX4_moveText_0 : decode cX4_moveText 0 = .ok (.aload_n 1, 1) := by decide +kernel
theorem dX4_moveText_1 : decode cX4_moveText 1 = .ok (.invokevirtual 193, 3) := by decide +kernel
theorem dX4_moveText_4 : decode cX4_moveText 4 = .ok (.iconst 0, 1) := by decide +kernel
theorem dX4_moveText_5 : decode cX4_moveText 5 = .ok (.istore_n 2, 1) := by decide +kernel
theorem dX4_moveText_6 : decode cX4_moveText 6 = .ok (.iload_n 2, 1) := by decide +kernel
theorem dX4_moveText_7 : decode cX4_moveText 7 = .ok (.aload_n 0, 1) := by decide +kernel
theorem dX4_moveText_8 : decode cX4_moveText 8 = .ok (.getfield 46, 3) := by decide +kernel
theorem dX4_moveText_11 : decode cX4_moveText 11 = .ok (.invokevirtual 67, 3) := by decide +kernel
theorem dX4_moveText_14 : decode cX4_moveText 14 = .ok (.if_icmp .ge 24, 3) := by decide +kernel
theorem dX4_moveText_17 : decode cX4_moveText 17 = .ok (.aload_n 1, 1) := by decide +kernel
theorem dX4_moveText_18 : decode cX4_moveText 18 = .ok (.aload_n 0, 1) := by decide +kernel
theorem dX4_moveText_19 : decode cX4_moveText 19 = .ok (.getfield 46, 3) := by decide +kernel
theorem dX4_moveText_22 : decode cX4_moveText 22 = .ok (.iload_n 2, 1) := by decide +kernel
theorem dX4_moveText_23 : decode cX4_moveText 23 = .ok (.invokevirtual 113, 3) := by decide +kernel
theorem dX4_moveText_26 : decode cX4_moveText 26 = .ok (.bipush 97, 2) := by decide +kernel
theorem dX4_moveText_28 : decode cX4_moveText 28 = .ok (.isub, 1) := by decide +kernel
theorem dX4_moveText_29 : decode cX4_moveText 29 = .ok (.invokevirtual 190, 3) := by decide +kernel
theorem dX4_moveText_32 : decode cX4_moveText 32 = .ok (.iinc 2 1, 3) := by decide +kernel
theorem dX4_moveText_35 : decode cX4_moveText 35 = .ok (.goto (-29), 3) := by decide +kernel
theorem dX4_moveText_38 : decode cX4_moveText 38 = .ok (.aload_n 0, 1) := by decide +kernel
theorem dX4_moveText_39 : decode cX4_moveText 39 = .ok (.getfield 46, 3) := by decide +kernel
theorem dX4_moveText_42 : decode cX4_moveText 42 = .ok (.invokevirtual 193, 3) := by decide +kernel
theorem dX4_moveText_45 : decode cX4_moveText 45 = .ok (.return_, 1) := by decide +kernel
set_option maxRecDepth 20000 in
theorem ggX4_moveText_X2_clear : GoodIn wsX4_moveText wsX2_clear := goodIn_r _ [6, 7, 32, 33] (by decide +kernel) (by decide +kernel)
set_option maxRecDepth 20000 in
theorem gX4_moveText_X2_clear : GoodIn wsX4_moveText (wsV RX4 193 RX2 yX2_clear wsX2_clear) := goodIn_app (goodIn_of _ (by decide +kernel)) ggX4_moveText_X2_clear
set_option maxRecDepth 20000 in
theorem ggX4_moveText_X2_size : GoodIn wsX4_moveText wsX2_size := goodIn_r _ [11, 7, 32, 33] (by decide +kernel) (by decide +kernel)
set_option maxRecDepth 20000 in
theorem gX4_moveText_X2_size : GoodIn wsX4_moveText (wsV RX4 67 RX2 yX2_size wsX2_size) := goodIn_app (goodIn_of _ (by decide +kernel)) ggX4_moveText_X2_size
set_option maxRecDepth 20000 in
theorem ggX4_moveText_X2_at : GoodIn wsX4_moveText wsX2_at := goodIn_r _ [15, 16, 17, 18, 19, 5, 20, 7, 32, 33] (by decide +kernel) (by decide +kernel)
set_option maxRecDepth 20000 in
theorem gX4_moveText_X2_at : GoodIn wsX4_moveText (wsV RX4 113 RX2 yX2_at wsX2_at) := goodIn_app (goodIn_of _ (by decide +kernel)) ggX4_moveText_X2_at
set_option maxRecDepth 20000 in
theorem ggX4_moveText_X2_add : GoodIn wsX4_moveText wsX2_add := goodIn_r _ [24, 7, 16, 32, 33] (by decide +kernel) (by decide +kernel)
set_option maxRecDepth 20000 in
theorem gX4_moveText_X2_add : GoodIn wsX4_moveText (wsV RX4 190 RX2 yX2_add wsX2_add) := goodIn_app (goodIn_of _ (by decide +kernel)) ggX4_moveText_X2_add
theorem dX4_takeLine_0 : decode cX4_takeLine 0 = .ok (.aload_n 0, 1) := by decide +kernel
theorem dX4_takeLine_1 : decode cX4_takeLine 1 = .ok (.bipush 60, 2) := by decide +kernel
theorem dX4_takeLine_3 : decode cX4_takeLine 3 = .ok (.invokevirtual 50, 3) := by decide +kernel
theorem dX4_takeLine_6 : decode cX4_takeLine 6 = .ok (.aload_n 0, 1) := by decide +kernel
theorem dX4_takeLine_7 : decode cX4_takeLine 7 = .ok (.getfield 29, 3) := by decide +kernel
theorem dX4_takeLine_10 : decode cX4_takeLine 10 = .ok (.aload_n 0, 1) := by decide +kernel
theorem dX4_takeLine_11 : decode cX4_takeLine 11 = .ok (.getfield 10, 3) := by decide +kernel
theorem dX4_takeLine_14 : decode cX4_takeLine 14 = .ok (.invokevirtual 53, 3) := by decide +kernel
theorem dX4_takeLine_17 : decode cX4_takeLine 17 = .ok (.aload_n 0, 1) := by decide +kernel
theorem dX4_takeLine_18 : decode cX4_takeLine 18 = .ok (.aload_n 0, 1) := by decide +kernel
theorem dX4_takeLine_19 : decode cX4_takeLine 19 = .ok (.getfield 10, 3) := by decide +kernel
theorem dX4_takeLine_22 : decode cX4_takeLine 22 = .ok (.getfield 57, 3) := by decide +kernel
theorem dX4_takeLine_25 : decode cX4_takeLine 25 = .ok (.invokevirtual 60, 3) := by decide +kernel
theorem dX4_takeLine_28 : decode cX4_takeLine 28 = .ok (.aload_n 0, 1) := by decide +kernel
theorem dX4_takeLine_29 : decode cX4_takeLine 29 = .ok (.getfield 10, 3) := by decide +kernel
theorem dX4_takeLine_32 : decode cX4_takeLine 32 = .ok (.invokevirtual 64, 3) := by decide +kernel
theorem dX4_takeLine_35 : decode cX4_takeLine 35 = .ok (.aload_n 0, 1) := by decide +kernel
theorem dX4_takeLine_36 : decode cX4_takeLine 36 = .ok (.getfield 10, 3) := by decide +kernel
theorem dX4_takeLine_39 : decode cX4_takeLine 39 = .ok (.getfield 57, 3) := by decide +kernel
theorem dX4_takeLine_42 : decode cX4_takeLine 42 = .ok (.invokevirtual 67, 3) := by decide +kernel
theorem dX4_takeLine_45 : decode cX4_takeLine 45 = .ok (.ireturn, 1) := by decide +kernel
set_option maxRecDepth 20000 in
theorem ggX4_takeLine_X4_refuseTextUnlessLetters : GoodIn wsX4_takeLine wsX4_refuseTextUnlessLetters := goodIn_ca (goodIn_r _ [7, 8, 9, 10, 11, 12, 13, 6, 14, 15, 16, 17, 18, 19, 20, 21, 22, 23, 24, 25, 26, 27, 28, 29, 77, 78, 79, 80, 81, 82, 83, 92, 93] (by decide +kernel) (by decide +kernel)) (goodIn_sub (fun _ h => List.mem_cons_of_mem _ (List.mem_append_right _ h)) (by decide +kernel))
set_option maxRecDepth 20000 in
theorem gX4_takeLine_X4_refuseTextUnlessLetters : GoodIn wsX4_takeLine (wsV RX4 50 RX4 yX4_refuseTextUnlessLetters wsX4_refuseTextUnlessLetters) := goodIn_app (goodIn_of _ (by decide +kernel)) ggX4_takeLine_X4_refuseTextUnlessLetters
set_option maxRecDepth 20000 in
theorem ggX4_takeLine_X1_keep : GoodIn wsX4_takeLine wsX1_keep := goodIn_r _ [34, 35, 36, 37, 38, 39, 40, 41, 42, 43, 44, 45, 46, 47, 48, 49, 50, 51, 52, 53, 54, 55, 56, 18, 57, 20, 25, 58, 59, 60, 61, 62, 63, 64, 65, 94, 95, 84, 85, 86, 87, 88, 89, 90, 91, 92, 93] (by decide +kernel) (by decide +kernel)
set_option maxRecDepth 20000 in
theorem gX4_takeLine_X1_keep : GoodIn wsX4_takeLine (wsV RX4 53 RX1 yX1_keep wsX1_keep) := goodIn_app (goodIn_of _ (by decide +kernel)) ggX4_takeLine_X1_keep
set_option maxRecDepth 20000 in
theorem ggX4_takeLine_X4_moveText : GoodIn wsX4_takeLine wsX4_moveText := goodIn_r _ [69, 10, 70, 59, 60, 18, 61, 20, 15, 16, 17, 19, 21, 22, 23, 24, 25, 26, 27, 28, 29, 71, 63, 64, 65, 77, 78, 79, 80, 81, 82, 83, 92, 93] (by decide +kernel) (by decide +kernel)
set_option maxRecDepth 20000 in
theorem gX4_takeLine_X4_moveText : GoodIn wsX4_takeLine (wsV RX4 60 RX4 yX4_moveText wsX4_moveText) := goodIn_app (goodIn_of _ (by decide +kernel)) ggX4_takeLine_X4_moveText
set_option maxRecDepth 20000 in
theorem ggX4_takeLine_X3_beginAnew : GoodIn wsX4_takeLine wsX3_beginAnew := goodIn_r _ [75, 51, 52, 53, 48, 76, 59, 60, 18, 61, 20, 84, 85, 86, 87, 88, 89, 90, 91, 92, 93] (by decide +kernel) (by decide +kernel)
set_option maxRecDepth 20000 in
theorem gX4_takeLine_X3_beginAnew : GoodIn wsX4_takeLine (wsV RX4 64 RX3 yX3_beginAnew wsX3_beginAnew) := goodIn_app (goodIn_of _ (by decide +kernel)) ggX4_takeLine_X3_beginAnew
set_option maxRecDepth 20000 in
theorem ggX4_takeLine_X2_size : GoodIn wsX4_takeLine wsX2_size := goodIn_r _ [19, 20, 92, 93] (by decide +kernel) (by decide +kernel)
set_option maxRecDepth 20000 in
theorem gX4_takeLine_X2_size : GoodIn wsX4_takeLine (wsV RX4 67 RX2 yX2_size wsX2_size) := goodIn_app (goodIn_of _ (by decide +kernel)) ggX4_takeLine_X2_size
theorem dX4_takeWord_0 : decode cX4_takeWord 0 = .ok (.aload_n 0, 1) := by decide +kernel
theorem dX4_takeWord_1 : decode cX4_takeWord 1 = .ok (.bipush 16, 2) := by decide +kernel
theorem dX4_takeWord_3 : decode cX4_takeWord 3 = .ok (.invokevirtual 50, 3) := by decide +kernel
theorem dX4_takeWord_6 : decode cX4_takeWord 6 = .ok (.aload_n 0, 1) := by decide +kernel
theorem dX4_takeWord_7 : decode cX4_takeWord 7 = .ok (.getfield 29, 3) := by decide +kernel
theorem dX4_takeWord_10 : decode cX4_takeWord 10 = .ok (.aload_n 0, 1) := by decide +kernel
theorem dX4_takeWord_11 : decode cX4_takeWord 11 = .ok (.getfield 10, 3) := by decide +kernel
theorem dX4_takeWord_14 : decode cX4_takeWord 14 = .ok (.invokevirtual 53, 3) := by decide +kernel
theorem dX4_takeWord_17 : decode cX4_takeWord 17 = .ok (.aload_n 0, 1) := by decide +kernel
theorem dX4_takeWord_18 : decode cX4_takeWord 18 = .ok (.aload_n 0, 1) := by decide +kernel
theorem dX4_takeWord_19 : decode cX4_takeWord 19 = .ok (.getfield 10, 3) := by decide +kernel
theorem dX4_takeWord_22 : decode cX4_takeWord 22 = .ok (.getfield 71, 3) := by decide +kernel
theorem dX4_takeWord_25 : decode cX4_takeWord 25 = .ok (.invokevirtual 60, 3) := by decide +kernel
theorem dX4_takeWord_28 : decode cX4_takeWord 28 = .ok (.aload_n 0, 1) := by decide +kernel
theorem dX4_takeWord_29 : decode cX4_takeWord 29 = .ok (.getfield 10, 3) := by decide +kernel
theorem dX4_takeWord_32 : decode cX4_takeWord 32 = .ok (.invokevirtual 64, 3) := by decide +kernel
theorem dX4_takeWord_35 : decode cX4_takeWord 35 = .ok (.aload_n 0, 1) := by decide +kernel
theorem dX4_takeWord_36 : decode cX4_takeWord 36 = .ok (.getfield 10, 3) := by decide +kernel
theorem dX4_takeWord_39 : decode cX4_takeWord 39 = .ok (.getfield 71, 3) := by decide +kernel
theorem dX4_takeWord_42 : decode cX4_takeWord 42 = .ok (.invokevirtual 67, 3) := by decide +kernel
theorem dX4_takeWord_45 : decode cX4_takeWord 45 = .ok (.ireturn, 1) := by decide +kernel
set_option maxRecDepth 20000 in
theorem ggX4_takeWord_X4_refuseTextUnlessLetters : GoodIn wsX4_takeWord wsX4_refuseTextUnlessLetters := goodIn_ca (goodIn_r _ [7, 8, 9, 10, 11, 12, 13, 6, 14, 15, 16, 17, 18, 19, 20, 21, 22, 23, 24, 25, 26, 27, 28, 29, 77, 78, 79, 80, 81, 82, 83, 92, 93] (by decide +kernel) (by decide +kernel)) (goodIn_sub (fun _ h => List.mem_cons_of_mem _ (List.mem_append_right _ h)) (by decide +kernel))
set_option maxRecDepth 20000 in
theorem gX4_takeWord_X4_refuseTextUnlessLetters : GoodIn wsX4_takeWord (wsV RX4 50 RX4 yX4_refuseTextUnlessLetters wsX4_refuseTextUnlessLetters) := goodIn_app (goodIn_of _ (by decide +kernel)) ggX4_takeWord_X4_refuseTextUnlessLetters
set_option maxRecDepth 20000 in
theorem ggX4_takeWord_X1_keep : GoodIn wsX4_takeWord wsX1_keep := goodIn_r _ [34, 35, 36, 37, 38, 39, 40, 41, 42, 43, 44, 45, 46, 47, 48, 49, 50, 51, 52, 53, 54, 55, 56, 18, 57, 20, 25, 58, 59, 60, 61, 62, 63, 64, 65, 94, 95, 84, 85, 86, 87, 88, 89, 90, 91, 92, 93] (by decide +kernel) (by decide +kernel)
set_option maxRecDepth 20000 in
theorem gX4_takeWord_X1_keep : GoodIn wsX4_takeWord (wsV RX4 53 RX1 yX1_keep wsX1_keep) := goodIn_app (goodIn_of _ (by decide +kernel)) ggX4_takeWord_X1_keep
set_option maxRecDepth 20000 in
theorem ggX4_takeWord_X4_moveText : GoodIn wsX4_takeWord wsX4_moveText := goodIn_r _ [69, 10, 70, 59, 60, 18, 61, 20, 15, 16, 17, 19, 21, 22, 23, 24, 25, 26, 27, 28, 29, 71, 63, 64, 65, 77, 78, 79, 80, 81, 82, 83, 92, 93] (by decide +kernel) (by decide +kernel)
set_option maxRecDepth 20000 in
theorem gX4_takeWord_X4_moveText : GoodIn wsX4_takeWord (wsV RX4 60 RX4 yX4_moveText wsX4_moveText) := goodIn_app (goodIn_of _ (by decide +kernel)) ggX4_takeWord_X4_moveText
set_option maxRecDepth 20000 in
theorem ggX4_takeWord_X3_beginAnew : GoodIn wsX4_takeWord wsX3_beginAnew := goodIn_r _ [75, 51, 52, 53, 48, 76, 59, 60, 18, 61, 20, 84, 85, 86, 87, 88, 89, 90, 91, 92, 93] (by decide +kernel) (by decide +kernel)
set_option maxRecDepth 20000 in
theorem gX4_takeWord_X3_beginAnew : GoodIn wsX4_takeWord (wsV RX4 64 RX3 yX3_beginAnew wsX3_beginAnew) := goodIn_app (goodIn_of _ (by decide +kernel)) ggX4_takeWord_X3_beginAnew
set_option maxRecDepth 20000 in
theorem ggX4_takeWord_X2_size : GoodIn wsX4_takeWord wsX2_size := goodIn_r _ [19, 20, 92, 93] (by decide +kernel) (by decide +kernel)
set_option maxRecDepth 20000 in
theorem gX4_takeWord_X2_size : GoodIn wsX4_takeWord (wsV RX4 67 RX2 yX2_size wsX2_size) := goodIn_app (goodIn_of _ (by decide +kernel)) ggX4_takeWord_X2_size
theorem dX4_saveState_0 : decode cX4_saveState 0 = .ok (.iload_n 1, 1) := by decide +kernel
theorem dX4_saveState_1 : decode cX4_saveState 1 = .ok (.invokestatic 202, 3) := by decide +kernel
theorem dX4_saveState_4 : decode cX4_saveState 4 = .ok (.aload_n 0, 1) := by decide +kernel
theorem dX4_saveState_5 : decode cX4_saveState 5 = .ok (.getfield 33, 3) := by decide +kernel
theorem dX4_saveState_8 : decode cX4_saveState 8 = .ok (.iload_n 1, 1) := by decide +kernel
theorem dX4_saveState_9 : decode cX4_saveState 9 = .ok (.aaload, 1) := by decide +kernel
theorem dX4_saveState_10 : decode cX4_saveState 10 = .ok (.aload_n 0, 1) := by decide +kernel
theorem dX4_saveState_11 : decode cX4_saveState 11 = .ok (.getfield 10, 3) := by decide +kernel
theorem dX4_saveState_14 : decode cX4_saveState 14 = .ok (.invokevirtual 205, 3) := by decide +kernel
theorem dX4_saveState_17 : decode cX4_saveState 17 = .ok (.aload_n 0, 1) := by decide +kernel
theorem dX4_saveState_18 : decode cX4_saveState 18 = .ok (.getfield 37, 3) := by decide +kernel
theorem dX4_saveState_21 : decode cX4_saveState 21 = .ok (.iload_n 1, 1) := by decide +kernel
theorem dX4_saveState_22 : decode cX4_saveState 22 = .ok (.iconst 1, 1) := by decide +kernel
theorem dX4_saveState_23 : decode cX4_saveState 23 = .ok (.bastore, 1) := by decide +kernel
theorem dX4_saveState_24 : decode cX4_saveState 24 = .ok (.aload_n 0, 1) := by decide +kernel
theorem dX4_saveState_25 : decode cX4_saveState 25 = .ok (.getfield 10, 3) := by decide +kernel
theorem dX4_saveState_28 : decode cX4_saveState 28 = .ok (.getfield 57, 3) := by decide +kernel
theorem dX4_saveState_31 : decode cX4_saveState 31 = .ok (.invokevirtual 67, 3) := by decide +kernel
theorem dX4_saveState_34 : decode cX4_saveState 34 = .ok (.ireturn, 1) := by decide +kernel
set_option maxRecDepth 20000 in
theorem ggX4_saveState_X4_refuseUnlessSlot : GoodIn wsX4_saveState wsX4_refuseUnlessSlot := goodIn_ca (goodIn_r _ [7, 8, 9] (by decide +kernel) (by decide +kernel)) (goodIn_sub (fun _ h => List.mem_cons_of_mem _ (List.mem_append_right _ h)) (by decide +kernel))
set_option maxRecDepth 20000 in
theorem gX4_saveState_X4_refuseUnlessSlot : GoodIn wsX4_saveState (va_wsS RX4 202 yX4_refuseUnlessSlot wsX4_refuseUnlessSlot) := goodIn_app (goodIn_of _ (by decide +kernel)) ggX4_saveState_X4_refuseUnlessSlot
set_option maxRecDepth 20000 in
theorem ggX4_saveState_X3_copy : GoodIn wsX4_saveState wsX3_copy := goodIn_r _ [14, 15, 16, 17, 18, 19, 20, 21, 22, 23, 24, 25, 26, 27, 28, 29, 30, 31, 32, 33, 34, 35, 36, 37, 49, 50, 51, 52, 53, 54, 55, 56, 57, 58] (by decide +kernel) (by decide +kernel)
set_option maxRecDepth 20000 in
theorem gX4_saveState_X3_copy : GoodIn wsX4_saveState (wsV RX4 205 RX3 yX3_copy wsX3_copy) := goodIn_app (goodIn_of _ (by decide +kernel)) ggX4_saveState_X3_copy
set_option maxRecDepth 20000 in
theorem ggX4_saveState_X2_size : GoodIn wsX4_saveState wsX2_size := goodIn_r _ [41, 28, 57, 58] (by decide +kernel) (by decide +kernel)
set_option maxRecDepth 20000 in
theorem gX4_saveState_X2_size : GoodIn wsX4_saveState (wsV RX4 67 RX2 yX2_size wsX2_size) := goodIn_app (goodIn_of _ (by decide +kernel)) ggX4_saveState_X2_size
theorem dX4_loadState_0 : decode cX4_loadState 0 = .ok (.iload_n 1, 1) := by decide +kernel
theorem dX4_loadState_1 : decode cX4_loadState 1 = .ok (.invokestatic 202, 3) := by decide +kernel
theorem dX4_loadState_4 : decode cX4_loadState 4 = .ok (.aload_n 0, 1) := by decide +kernel
theorem dX4_loadState_5 : decode cX4_loadState 5 = .ok (.getfield 37, 3) := by decide +kernel
theorem dX4_loadState_8 : decode cX4_loadState 8 = .ok (.iload_n 1, 1) := by decide +kernel
theorem dX4_loadState_9 : decode cX4_loadState 9 = .ok (.baload, 1) := by decide +kernel
theorem dX4_loadState_10 : decode cX4_loadState 10 = .ok (.ifCond .ne 13, 3) := by decide +kernel
theorem dX4_loadState_13 : decode cX4_loadState 13 = .ok (.new 85, 3) := by decide +kernel
theorem dX4_loadState_16 : decode cX4_loadState 16 = .ok (.dup, 1) := by decide +kernel
theorem dX4_loadState_17 : decode cX4_loadState 17 = .ok (.ldc 208, 2) := by decide +kernel
theorem dX4_loadState_19 : decode cX4_loadState 19 = .ok (.invokespecial 89, 3) := by decide +kernel
theorem dX4_loadState_22 : decode cX4_loadState 22 = .ok (.athrow, 1) := by decide +kernel
theorem dX4_loadState_23 : decode cX4_loadState 23 = .ok (.aload_n 0, 1) := by decide +kernel
theorem dX4_loadState_24 : decode cX4_loadState 24 = .ok (.getfield 29, 3) := by decide +kernel
theorem dX4_loadState_27 : decode cX4_loadState 27 = .ok (.aload_n 0, 1) := by decide +kernel
theorem dX4_loadState_28 : decode cX4_loadState 28 = .ok (.getfield 10, 3) := by decide +kernel
theorem dX4_loadState_31 : decode cX4_loadState 31 = .ok (.invokevirtual 53, 3) := by decide +kernel
theorem dX4_loadState_34 : decode cX4_loadState 34 = .ok (.aload_n 0, 1) := by decide +kernel
theorem dX4_loadState_35 : decode cX4_loadState 35 = .ok (.getfield 10, 3) := by decide +kernel
theorem dX4_loadState_38 : decode cX4_loadState 38 = .ok (.aload_n 0, 1) := by decide +kernel
theorem dX4_loadState_39 : decode cX4_loadState 39 = .ok (.getfield 33, 3) := by decide +kernel
theorem dX4_loadState_42 : decode cX4_loadState 42 = .ok (.iload_n 1, 1) := by decide +kernel
theorem dX4_loadState_43 : decode cX4_loadState 43 = .ok (.aaload, 1) := by decide +kernel
theorem dX4_loadState_44 : decode cX4_loadState 44 = .ok (.invokevirtual 205, 3) := by decide +kernel
theorem dX4_loadState_47 : decode cX4_loadState 47 = .ok (.aload_n 0, 1) := by decide +kernel
theorem dX4_loadState_48 : decode cX4_loadState 48 = .ok (.getfield 10, 3) := by decide +kernel
theorem dX4_loadState_51 : decode cX4_loadState 51 = .ok (.getfield 57, 3) := by decide +kernel
theorem dX4_loadState_54 : decode cX4_loadState 54 = .ok (.invokevirtual 67, 3) := by decide +kernel
theorem dX4_loadState_57 : decode cX4_loadState 57 = .ok (.ireturn, 1) := by decide +kernel
set_option maxRecDepth 20000 in
theorem ggX4_loadState_X4_refuseUnlessSlot : GoodIn wsX4_loadState wsX4_refuseUnlessSlot := goodIn_ca (goodIn_r _ [10, 11, 12] (by decide +kernel) (by decide +kernel)) (goodIn_sub (fun _ h => List.mem_cons_of_mem _ (List.mem_append_right _ h)) (by decide +kernel))
set_option maxRecDepth 20000 in
theorem gX4_loadState_X4_refuseUnlessSlot : GoodIn wsX4_loadState (va_wsS RX4 202 yX4_refuseUnlessSlot wsX4_refuseUnlessSlot) := goodIn_app (goodIn_of _ (by decide +kernel)) ggX4_loadState_X4_refuseUnlessSlot
set_option maxRecDepth 20000 in
theorem ggX4_loadState_X1_keep : GoodIn wsX4_loadState wsX1_keep := goodIn_r _ [17, 18, 19, 20, 21, 22, 23, 24, 25, 26, 27, 28, 29, 30, 31, 32, 33, 34, 35, 36, 37, 38, 39, 40, 41, 42, 43, 44, 45, 46, 47, 48, 49, 50, 51, 72, 73, 64, 65, 66, 67, 68, 69, 70, 71, 74, 75] (by decide +kernel) (by decide +kernel)
set_option maxRecDepth 20000 in
theorem gX4_loadState_X1_keep : GoodIn wsX4_loadState (wsV RX4 53 RX1 yX1_keep wsX1_keep) := goodIn_app (goodIn_of _ (by decide +kernel)) ggX4_loadState_X1_keep
set_option maxRecDepth 20000 in
theorem ggX4_loadState_X3_copy : GoodIn wsX4_loadState wsX3_copy := goodIn_r _ [28, 29, 30, 31, 32, 33, 34, 35, 36, 37, 38, 39, 40, 41, 42, 43, 44, 45, 46, 47, 48, 49, 50, 51, 64, 65, 66, 67, 68, 69, 70, 71, 74, 75] (by decide +kernel) (by decide +kernel)
set_option maxRecDepth 20000 in
theorem gX4_loadState_X3_copy : GoodIn wsX4_loadState (wsV RX4 205 RX3 yX3_copy wsX3_copy) := goodIn_app (goodIn_of _ (by decide +kernel)) ggX4_loadState_X3_copy
set_option maxRecDepth 20000 in
theorem ggX4_loadState_X2_size : GoodIn wsX4_loadState wsX2_size := goodIn_r _ [56, 42, 74, 75] (by decide +kernel) (by decide +kernel)
set_option maxRecDepth 20000 in
theorem gX4_loadState_X2_size : GoodIn wsX4_loadState (wsV RX4 67 RX2 yX2_size wsX2_size) := goodIn_app (goodIn_of _ (by decide +kernel)) ggX4_loadState_X2_size
section ZX
variable {p : Program} {l : Launch} {e : Env} {R : Room} {s : State} {m : MethodId} {args : Array Value} {below : List Frame} {meth : Method} {c : Code} {H : Heap} {locs : List Loc} {cells slots : Nat} {Q : State → Prop}
variable {cc : ByteArray} {pc : Nat} {ls : Array Slot} {rest st0 : List Value} {D : va_G} {cy : Nat → ClassId} {A A0 : Nat → Prop} {H0 : Heap} {W0 w : va_W} {mc ms : Nat} {px px' : String → Prop}
variable {y : MethodName} {bytes : ByteArray} {maxL nL n index fr lo k : Nat} {ret : Option FieldType} {ws ws0 Ts : List Cond} {own C : String} {b : Addr} {As : List Value} {S : Type}
theorem z_zald (hx : p.tables.exec = Jvm.exec) (hb : c.code = cc) {a : Nat} (hK : va_K D vwCl (tysA cy) s) (hP : va_P D vwCl W0 H) (q0 : Nat) {n : Nat} {f : Nat → Int32} (ha : W0[q0]? = some (a, .inl (cy 1, n, .inl f))) {z : Int} (h0 : 0 ≤ z) (h1 : z < n) (hn : n < 2147483648) (hdg : decode cc pc = .ok (.baload, 1))
    (kk : W p l e R s m args below meth c H locs cells slots Q (F0 m (pc + 1) ls (.int (f z.toNat) :: rest))) : W p l e R s m args below meth c H locs cells slots Q (F0 m pc ls (.int (iI z) :: .ref a :: rest)) :=
  va_zald hx hb hK hP q0 1 ha rfl (iI_in h0 h1 hn) hdg (by rw [iI_cl h0 (by omega)]; exact kk)
theorem z_zast (hx : p.tables.exec = Jvm.exec) (hb : c.code = cc) {a : Nat} (hK : va_K D vwCl (tysA cy) s) (hP : va_P D vwCl W0 H) (hD : va_D A W0) (hS : va_S A H0 H locs) (q0 : Nat) {n : Nat} {f : Nat → Int32} (ha : W0[q0]? = some (a, .inl (cy 1, n, .inl f))) {z : Int} {x : Int32} (h0 : 0 ≤ z) (h1 : z < n) (hn : n < 2147483648) (hv : vp_nar .boolean x = x) (hdg : decode cc pc = .ok (.bastore, 1))
    (kk : ∀ (H1 : Heap) (locs1 : List Loc), va_P D vwCl (W0.set q0 (a, .inl (cy 1, n, .inl (upd f z.toNat x)))) H1 → va_D A (W0.set q0 (a, .inl (cy 1, n, .inl (upd f z.toNat x)))) → va_S A H0 H1 locs1 → W p l e R s m args below meth c H1 locs1 cells slots Q (F0 m (pc + 1) ls rest)) : W p l e R s m args below meth c H locs cells slots Q (F0 m pc ls (.int x :: .int (iI z) :: .ref a :: rest)) :=
  va_zast hx hb hK hP hD hS q0 1 ha rfl (iI_in h0 h1 hn) hdg (by rw [iI_cl h0 (by omega), hv]; exact kk)
end ZX
theorem moved {tn : Int} {tf g : Nat → Int32} {tx : List Int32} (hT : Rep tn tf tx) {n : Int} (hn : n = tn) (hg : ∀ j : Nat, (j : Int) < tn → g j = tf j - iI 97) : Rep n g (tx.map (fun x => x - iI 97)) := by
  refine ⟨by rw [List.length_map]; exact hn.trans hT.1, fun j hj => ?_⟩
  have hj2 : j < tx.length := by simpa using hj
  rw [hg j (by have := hT.1; omega), hT.2 j hj2]
  simp [List.getD_eq_getElem?_getD, hj2]
theorem RS_takeL {z z1 : Nat → Int} {f f1 : Nat → Nat → Int32} {M : MS} {tx : List Int32} (hR : RS z f M) (h : Rep (z1 0) (f1 0) (tx.map (fun x => x - iI 97)) ∧ z1 1 = z 1 ∧ f1 1 = f 1 ∧ z1 3 = z 3 ∧ z1 4 = z 4 ∧ z1 5 = z 5 ∧ z1 6 = z 6 ∧ z1 7 = z 7) : RS (zL [z1 0, z1 1, 0, z1 3, z1 4, 0, 0, 0]) f1 (mTakeL M tx) := by
  obtain ⟨h0, h1, h2, h3, h4, _⟩ := h
  refine ⟨h0, ?_, ⟨rfl, fun j hj => absurd hj (Nat.not_lt_zero _)⟩, h3.trans hR.2.2.2.1, h4.trans hR.2.2.2.2.1, rfl, rfl, rfl⟩
  show Rep (z1 1) (f1 1) M.2.1
  rw [h1, h2]
  exact hR.2.1
theorem RS_takeW {z z1 : Nat → Int} {f f1 : Nat → Nat → Int32} {M : MS} {tx : List Int32} (hR : RS z f M) (h : Rep (z1 1) (f1 1) (tx.map (fun x => x - iI 97)) ∧ z1 0 = z 0 ∧ f1 0 = f 0 ∧ z1 3 = z 3 ∧ z1 4 = z 4 ∧ z1 5 = z 5 ∧ z1 6 = z 6 ∧ z1 7 = z 7) : RS (zL [z1 0, z1 1, 0, z1 3, z1 4, 0, 0, 0]) f1 (mTakeW M tx) := by
  obtain ⟨h0, h1, h2, h3, h4, _⟩ := h
  refine ⟨?_, h0, ⟨rfl, fun j hj => absurd hj (Nat.not_lt_zero _)⟩, h3.trans hR.2.2.2.1, h4.trans hR.2.2.2.2.1, rfl, rfl, rfl⟩
  show Rep (z1 0) (f1 0) M.1
  rw [h1, h2]
  exact hR.1
/-- the slots -/
def RXS (sv : Nat → Int32) (Zs : Nat → Nat → Int) (Fs : Nat → Nat → Nat → Int32) (sl : Nat → Option MS) : Prop := ∀ i : Nat, i < 2 → (sv i = iI 0 ∧ sl i = none) ∨ (sv i = iI 1 ∧ ∃ M : MS, sl i = some M ∧ RS (Zs i) (Fs i) M ∧ MOk M)
theorem RXS_save {sv : Nat → Int32} {Zs : Nat → Nat → Int} {Fs : Nat → Nat → Nat → Int32} {sl : Nat → Option MS} {M : MS} {z : Nat → Int} {g : Nat → Nat → Int32} {x : Int} {k : Nat} (h : RXS sv Zs Fs sl) (hR : RS z g M) (hM : MOk M) (hx : x = (k : Int)) : RXS (upd sv x.toNat (iI 1)) (zset Zs k z) (zset Fs k g) (fun j => if j = x.toNat then some M else sl j) := by
  have hk : x.toNat = k := by omega
  rw [hk]
  intro i hi
  by_cases e : i = k
  · exact Or.inr ⟨by rw [e]; exact upd_same _ _ _, M, if_pos e, by rw [zset_eq e, zset_eq e]; exact hR, hM⟩
  · rcases h i hi with ⟨a, b⟩ | ⟨a, M2, b, c, d⟩
    · exact Or.inl ⟨by rw [upd_ne _ _ e]; exact a, (if_neg e).trans b⟩
    · exact Or.inr ⟨by rw [upd_ne _ _ e]; exact a, M2, (if_neg e).trans b, by rw [zset_ne e, zset_ne e]; exact c, d⟩
theorem RXS_none {sv : Nat → Int32} {Zs : Nat → Nat → Int} {Fs : Nat → Nat → Nat → Int32} {sl : Nat → Option MS} {x : Int} (h : RXS sv Zs Fs sl) (hx : 0 ≤ x ∧ x ≤ 1) (h0 : (sv x.toNat).toInt = 0) : sl x.toNat = none := by
  rcases h x.toNat (by omega) with ⟨a, b⟩ | ⟨a, _⟩
  · exact b
  · rw [a, iI_t (by omega) (by omega)] at h0
    omega
theorem RXS_some {sv : Nat → Int32} {Zs : Nat → Nat → Int} {Fs : Nat → Nat → Nat → Int32} {sl : Nat → Option MS} {x : Int} (h : RXS sv Zs Fs sl) (hx : 0 ≤ x ∧ x ≤ 1) (h0 : ¬ (sv x.toNat).toInt = 0) : ∃ M2 : MS, sl x.toNat = some M2 ∧ RS (Zs x.toNat) (Fs x.toNat) M2 ∧ MOk M2 := by
  rcases h x.toNat (by omega) with ⟨a, b⟩ | ⟨a, b⟩
  · rw [a, iI_t (by omega) (by omega)] at h0
    omega
  · exact b

set_option maxHeartbeats 4000000 in
set_option maxRecDepth 100000 in
theorem c_X4_clearText (l : Launch) (D : va_G) (cy : Nat → ClassId) (ad : Nat → Nat) (tn : Int) (tf : Nat → Int32) (tx : List Int32) (hX : Rep tn tf tx ∧ tx.length ≤ 80) : Ci l D cy yX4_clearText wsX4_clearText 1 20 [.ref (ad 0)] (List.flatten [wTop ad, wTx cy ad tn tf]) (fun (r : Int32) (u : Unit) => r = iI (tx.length : Int)) (fun u : Unit => (List.flatten [wTop ad, wTx cy ad 0 tf])) := by
  refine Ci_of (cc := cX4_clearText) (maxL := 2) (ret := (some .int)) (by decide) rfl rfl ?_
  intro p e s m args below meth c A hx hb hr hts hown hlocks hml hP hK hD hT hA ls hl
  have hS : va_S A s.heap s.heap [] := va_S.rf
  have hl : lv_has ls 2 [(0, .ref (ad 0))] := hl
  have hP : va_P D vwCl (List.flatten [wTop ad, wTx cy ad tn tf]) s.heap := hP
  have hD : va_D A (List.flatten [wTop ad, wTx cy ad tn tf]) := hD
  have hiX4 : ∀ w ∈ wsX40, w ∈ wsX4_clearText := by decide +kernel
  have htn := hX.1.1
  have htl := hX.2
  refine lv_aload_n hx hb dX4_clearText_0 rfl (lv_at hl 0 rfl) ?_
  refine va_get (D := D) (ci := 4) (v := .ref (ad 78)) (C := RX4) (T := TX4) (N := 7) hx hb hts hiX4 hown hK hP 0 rfl rfl 6 (by decide) (hts (.fieldLink RX4 46 "BackwardSearch" "text" "LBackwardSearch$Row;") (by decide +kernel)) (fun _ h9 => h9) rfl dX4_clearText_1 ?_
  refine z_gVi (n := 0) (b := ad 78) (As := []) (rest := []) ⟨hx, hb, hml, hown, hts⟩ (c_X2_size l D cy (ad 78) (ad 79) tn ) gX4_clearText_X2_size rfl (by decide +kernel) ⟨Nat.le_of_ble_eq_true rfl, Nat.le_of_ble_eq_true rfl⟩ hK hT hP hS (Fp.same hP hD hS hA [1] rfl rfl (fun _ => rfl)) 1 2 rfl rfl rfl rfl hl.1 rfl (Nat.le_of_ble_eq_true rfl) dX4_clearText_4 ⟨Nat.zero_le _, Nat.zero_le _⟩ (fun r_1 u_1 H locs hw_1 hP hD hS => ?_)
  have hw_1 : r_1 = iI tn := hw_1
  have hP : va_P D vwCl (List.flatten [wTop ad, wTx cy ad tn tf]) H := hP
  have hD : va_D A (List.flatten [wTop ad, wTx cy ad tn tf]) := hD
  obtain rfl := hw_1
  refine lv_istore_n (lv' := [(1, .int (iI tn)), (0, .ref (ad 0))]) hx hb dX4_clearText_7 rfl hl (by decide) rfl (fun ls hl => ?_)
  refine lv_aload_n hx hb dX4_clearText_8 rfl (lv_at hl 1 rfl) ?_
  refine va_get (D := D) (ci := 4) (v := .ref (ad 78)) (C := RX4) (T := TX4) (N := 7) hx hb hts hiX4 hown hK hP 0 rfl rfl 6 (by decide) (hts (.fieldLink RX4 46 "BackwardSearch" "text" "LBackwardSearch$Row;") (by decide +kernel)) (fun _ h9 => h9) rfl dX4_clearText_9 ?_
  refine z_gVv (n := 0) (b := ad 78) (As := []) (rest := []) ⟨hx, hb, hml, hown, hts⟩ (c_X2_clear l D cy (ad 78) (ad 79) tn ) gX4_clearText_X2_clear rfl (by decide +kernel) ⟨Nat.le_of_ble_eq_true rfl, Nat.le_of_ble_eq_true rfl⟩ hK hT hP hS (Fp.part hP hD hS hA (nbl := fun (u : Unit) => wTx cy ad 0 tf) (nbs := fun (u : Unit) => [wTop ad, wTx cy ad 0 tf]) 1 rfl [0] rfl rfl (fun _ => rfl) (fun _ => rfl) (fun _ => rfl)) 1 2 rfl rfl rfl rfl hl.1 rfl (Nat.le_of_ble_eq_true rfl) dX4_clearText_12 ⟨Nat.zero_le _, Nat.zero_le _⟩ (fun  u_2 H locs hw_2 hP hD hS => ?_)
  have hw_2 : True := hw_2
  have hP : va_P D vwCl (List.flatten [wTop ad, wTx cy ad 0 tf]) H := hP
  have hD : va_D A (List.flatten [wTop ad, wTx cy ad 0 tf]) := hD
  refine lv_iload_n hx hb dX4_clearText_15 rfl (lv_at hl 0 rfl) ?_
  exact z_iret hx hb hr hlocks hS () (show (iI tn) = iI (tx.length : Int) from (congrArg iI htn)) hP dX4_clearText_16
set_option maxHeartbeats 4000000 in
set_option maxRecDepth 100000 in
theorem c_X4_textError (l : Launch) (D : va_G) (cy : Nat → ClassId) (ad : Nat → Nat) (tn : Int) (tf : Nat → Int32) (tx : List Int32) (hX : Rep tn tf tx ∧ tx.length ≤ 80) : Ci l D cy yX4_textError wsX4_textError 2 42 [.ref (ad 0)] (List.flatten [wTop ad, wTx cy ad tn tf]) (fun (r : Int32) (u : Unit) => r = iI (errF tx 0)) (fun u : Unit => (List.flatten [wTop ad, wTx cy ad tn tf])) := by
  refine Ci_of (cc := cX4_textError) (maxL := 3) (ret := (some .int)) (by decide) rfl rfl ?_
  intro p e s m args below meth c A hx hb hr hts hown hlocks hml hP hK hD hT hA ls hl
  have hS : va_S A s.heap s.heap [] := va_S.rf
  have hl : lv_has ls 3 [(0, .ref (ad 0))] := hl
  have hP : va_P D vwCl (List.flatten [wTop ad, wTx cy ad tn tf]) s.heap := hP
  have hD : va_D A (List.flatten [wTop ad, wTx cy ad tn tf]) := hD
  have hiX4 : ∀ w ∈ wsX40, w ∈ wsX4_textError := by decide +kernel
  have htn := hX.1.1
  have htl := hX.2
  refine lv_iconst (v := iI 0) hx hb dX4_textError_0 rfl ?_
  refine lv_istore_n (lv' := [(1, .int (iI 0)), (0, .ref (ad 0))]) hx hb dX4_textError_1 rfl hl (by decide) rfl (fun ls hl => ?_)
  have hloop1 : ∀ (n1 : Nat) (i : Int) (hi : 0 ≤ i ∧ i ≤ tn) (he : errF (tx.drop i.toNat) i = errF tx 0) (hm : tn - i < (n1 : Int)) (H : Heap) (locs : List Loc) (ls : Array Slot) (hP : va_P D vwCl (List.flatten [wTop ad, wTx cy ad tn tf]) H) (hD : va_D A (List.flatten [wTop ad, wTx cy ad tn tf])) (hS : va_S A s.heap H locs) (hl : lv_has ls 3 [(1, .int (iI i)), (0, .ref (ad 0))]), W p l e ({ frames := 2, cells := 0, slots := 0, locals := 42 } : Room) s m args below meth c H locs 0 0 (MQ below (va_Qi (fun (r : Int32) (u : Unit) => r = iI (errF tx 0)) (fun u t => va_P D vwCl ((fun u : Unit => (List.flatten [wTop ad, wTx cy ad tn tf])) u) t.heap) A) args s 0 0 A) (F0 m 2 ls []) := by
    intro n1
    induction n1 with
    | zero =>
      intro i hi he hm; exact absurd hm (by omega)
    | succ n1 ih1 =>
      intro i hi he hm H locs ls hP hD hS hl
      refine lv_iload_n hx hb dX4_textError_2 rfl (lv_at hl 0 rfl) ?_
      refine lv_aload_n hx hb dX4_textError_3 rfl (lv_at hl 1 rfl) ?_
      refine va_get (D := D) (ci := 4) (v := .ref (ad 78)) (C := RX4) (T := TX4) (N := 7) hx hb hts hiX4 hown hK hP 0 rfl rfl 6 (by decide) (hts (.fieldLink RX4 46 "BackwardSearch" "text" "LBackwardSearch$Row;") (by decide +kernel)) (fun _ h9 => h9) rfl dX4_textError_4 ?_
      refine z_gVi (n := 0) (b := ad 78) (As := []) (rest := [.int (iI i)]) ⟨hx, hb, hml, hown, hts⟩ (c_X2_size l D cy (ad 78) (ad 79) tn ) gX4_textError_X2_size rfl (by decide +kernel) ⟨Nat.le_of_ble_eq_true rfl, Nat.le_of_ble_eq_true rfl⟩ hK hT hP hS (Fp.same hP hD hS hA [1] rfl rfl (fun _ => rfl)) 1 2 rfl rfl rfl rfl hl.1 rfl (Nat.le_of_ble_eq_true rfl) dX4_textError_7 ⟨Nat.zero_le _, Nat.zero_le _⟩ (fun r_2 u_2 H locs hw_2 hP hD hS => ?_)
      have hw_2 : r_2 = iI tn := hw_2
      have hP : va_P D vwCl (List.flatten [wTop ad, wTx cy ad tn tf]) H := hP
      have hD : va_D A (List.flatten [wTop ad, wTx cy ad tn tf]) := hD
      obtain rfl := hw_2
      refine z_icmp_ge (tgt := 42) hx hb (iI_t (by omega) (by omega)) (iI_t (by omega) (by omega)) dX4_textError_10 (by decide) (fun c3 => ?_) (fun c3 => ?_)
      · --
        refine lv_iconst (v := iI (-1)) hx hb dX4_textError_42 rfl ?_
        exact z_iret hx hb hr hlocks hS () (show (iI (-1)) = iI (errF tx 0) from (congrArg iI (err_end hX.1 hi.1 (by omega) he))) hP dX4_textError_43
      · --
        refine lv_aload_n hx hb dX4_textError_13 rfl (lv_at hl 1 rfl) ?_
        refine va_get (D := D) (ci := 4) (v := .ref (ad 78)) (C := RX4) (T := TX4) (N := 7) hx hb hts hiX4 hown hK hP 0 rfl rfl 6 (by decide) (hts (.fieldLink RX4 46 "BackwardSearch" "text" "LBackwardSearch$Row;") (by decide +kernel)) (fun _ h9 => h9) rfl dX4_textError_14 ?_
        refine lv_iload_n hx hb dX4_textError_17 rfl (lv_at hl 0 rfl) ?_
        refine z_gVi (n := 1) (b := ad 78) (As := [.int (iI i)]) (rest := []) ⟨hx, hb, hml, hown, hts⟩ (c_X2_at l D cy (ad 78) (ad 79) 80 tn tf i (by first | assumption | omega) (by first | assumption | omega)) gX4_textError_X2_at rfl (by decide +kernel) ⟨Nat.le_of_ble_eq_true rfl, Nat.le_of_ble_eq_true rfl⟩ hK hT hP hS (Fp.same hP hD hS hA [1, 2] rfl rfl (fun _ => rfl)) 1 2 rfl rfl rfl rfl hl.1 rfl (Nat.le_of_ble_eq_true rfl) dX4_textError_18 ⟨Nat.zero_le _, Nat.zero_le _⟩ (fun r_4 u_4 H locs hw_4 hP hD hS => ?_)
        have hw_4 : (0 ≤ i ∧ i < tn ∧ r_4 = tf i.toNat) ∨ (¬ (0 ≤ i ∧ i < tn) ∧ r_4 = iI (-1)) := hw_4
        have hP : va_P D vwCl (List.flatten [wTop ad, wTx cy ad tn tf]) H := hP
        have hD : va_D A (List.flatten [wTop ad, wTx cy ad tn tf]) := hD
        rcases hw_4 with ⟨h_4, g_4, rfl⟩ | ⟨h_4, rfl⟩
        · --
          refine lv_istore_n (lv' := [(2, .int (tf i.toNat)), (1, .int (iI i)), (0, .ref (ad 0))]) hx hb dX4_textError_21 rfl hl (by decide) rfl (fun ls hl => ?_)
          refine lv_iload_n hx hb dX4_textError_22 rfl (lv_at hl 0 rfl) ?_
          refine lv_bipush (v := iI 97) hx hb dX4_textError_23 (by decide +kernel) ?_
          refine z_icmp_lt (tgt := 34) hx hb rfl (iI_t (by omega) (by omega)) dX4_textError_25 (by decide) (fun c5 => ?_) (fun c5 => ?_)
          · --
            refine lv_iload_n hx hb dX4_textError_34 rfl (lv_at hl 1 rfl) ?_
            exact z_iret hx hb hr hlocks hS () (show (iI i) = iI (errF tx 0) from (congrArg iI (err_bad hX.1 hi.1 (by omega) he (by omega)))) hP dX4_textError_35
          · --
            refine lv_iload_n hx hb dX4_textError_28 rfl (lv_at hl 0 rfl) ?_
            refine lv_bipush (v := iI 122) hx hb dX4_textError_29 (by decide +kernel) ?_
            refine z_icmp_le (tgt := 36) hx hb rfl (iI_t (by omega) (by omega)) dX4_textError_31 (by decide) (fun c6 => ?_) (fun c6 => ?_)
            · --
              refine z_iinc (lv' := [(1, .int (iI (i + 1))), (2, .int (tf i.toNat)), (0, .ref (ad 0))]) hx hb dX4_textError_36 hl (k := 1) rfl (by decide) rfl (fun ls hl => ?_)
              refine lv_goto (tgt := 2) hx hb dX4_textError_39 (by decide) ?_
              exact ih1 (i + 1) (by omega) (err_ok hX.1 hi.1 (by omega) he (by omega)) (by omega) _ _ _ hP hD hS (lv_sub hl [0, 2] rfl)
            · --
              refine lv_iload_n hx hb dX4_textError_34 rfl (lv_at hl 1 rfl) ?_
              exact z_iret hx hb hr hlocks hS () (show (iI i) = iI (errF tx 0) from (congrArg iI (err_bad hX.1 hi.1 (by omega) he (by omega)))) hP dX4_textError_35
        · --
          exfalso; omega
  exact hloop1 (Int.toNat (tn - 0) + 1) 0 (by omega) (rfl) (by omega) _ _ _ hP hD hS (lv_sub hl [0, 1] rfl)
set_option maxHeartbeats 4000000 in
set_option maxRecDepth 100000 in
theorem c_X4_refuseTextUnlessLetters (l : Launch) (hfl : l.stackTraces = false) (D : va_G) (cy : Nat → ClassId) (ad : Nat → Nat) (tn : Int) (tf : Nat → Int32) (tx : List Int32) (x : Int) (hX : Rep tn tf tx ∧ tx.length ≤ 80) (hx1 : -2147483648 ≤ x ∧ x < 2147483648) : Xv l D cy yX4_refuseTextUnlessLetters wsX4_refuseTextUnlessLetters 6 92 1 [.ref (ad 0), .int (iI x)] (List.flatten [wTop ad, wTx cy ad tn tf]) (fun (u : Unit) => errF tx 0 = -1 ∧ (tx.length : Int) ≤ x) (fun u : Unit => (List.flatten [wTop ad, wTx cy ad tn tf])) (fun E => E = xISE ∧ ¬ (errF tx 0 = -1 ∧ (tx.length : Int) ≤ x)) := by
  refine Xv_of (cc := cX4_refuseTextUnlessLetters) (maxL := 2) (ret := none) (by decide) rfl rfl ?_
  intro p e s m args below meth c A hx hb hr hts hown hlocks hml htab hP hK hD hT hC hZ hA ls hl
  have hS : va_S A s.heap s.heap [] := va_S.rf
  have hl : lv_has ls 2 [(0, .ref (ad 0)), (1, .int (iI x))] := hl
  have hP : va_P D vwCl (List.flatten [wTop ad, wTx cy ad tn tf]) s.heap := hP
  have hD : va_D A (List.flatten [wTop ad, wTx cy ad tn tf]) := hD
  have hiX4 : ∀ w ∈ wsX40, w ∈ wsX4_refuseTextUnlessLetters := by decide +kernel
  have htn := hX.1.1
  have htl := hX.2
  have her := errF_rng tx 0
  refine lv_aload_n hx hb dX4_refuseTextUnlessLetters_0 rfl (lv_at hl 0 rfl) ?_
  refine z_gVi (n := 0) (b := ad 0) (As := []) (rest := []) ⟨hx, hb, hml, hown, hts⟩ (c_X4_textError l D cy ad tn tf tx (hX)) gX4_refuseTextUnlessLetters_X4_textError rfl (by decide +kernel) ⟨Nat.le_of_ble_eq_true rfl, Nat.le_of_ble_eq_true rfl⟩ hK hT hP hS (Fp.same hP hD hS hA [0, 1, 2] rfl rfl (fun _ => rfl)) 0 4 rfl rfl rfl rfl hl.1 rfl (Nat.le_of_ble_eq_true rfl) dX4_refuseTextUnlessLetters_1 ⟨Nat.zero_le _, Nat.zero_le _⟩ (fun r_1 u_1 H locs hw_1 hP hD hS => ?_)
  have hw_1 : r_1 = iI (errF tx 0) := hw_1
  have hP : va_P D vwCl (List.flatten [wTop ad, wTx cy ad tn tf]) H := hP
  have hD : va_D A (List.flatten [wTop ad, wTx cy ad tn tf]) := hD
  obtain rfl := hw_1
  refine lv_iconst (v := iI (-1)) hx hb dX4_refuseTextUnlessLetters_4 rfl ?_
  refine z_icmp_eq (tgt := 18) hx hb (iI_t (by omega) (by omega)) (iI_t (by omega) (by omega)) dX4_refuseTextUnlessLetters_5 (by decide) (fun c2 => ?_) (fun c2 => ?_)
  · --
    refine lv_aload_n hx hb dX4_refuseTextUnlessLetters_18 rfl (lv_at hl 0 rfl) ?_
    refine va_get (D := D) (ci := 4) (v := .ref (ad 78)) (C := RX4) (T := TX4) (N := 7) hx hb hts hiX4 hown hK hP 0 rfl rfl 6 (by decide) (hts (.fieldLink RX4 46 "BackwardSearch" "text" "LBackwardSearch$Row;") (by decide +kernel)) (fun _ h9 => h9) rfl dX4_refuseTextUnlessLetters_19 ?_
    refine z_gVi (n := 0) (b := ad 78) (As := []) (rest := []) ⟨hx, hb, hml, hown, hts⟩ (c_X2_size l D cy (ad 78) (ad 79) tn ) gX4_refuseTextUnlessLetters_X2_size rfl (by decide +kernel) ⟨Nat.le_of_ble_eq_true rfl, Nat.le_of_ble_eq_true rfl⟩ hK hT hP hS (Fp.same hP hD hS hA [1] rfl rfl (fun _ => rfl)) 1 2 rfl rfl rfl rfl hl.1 rfl (Nat.le_of_ble_eq_true rfl) dX4_refuseTextUnlessLetters_22 ⟨Nat.zero_le _, Nat.zero_le _⟩ (fun r_3 u_3 H locs hw_3 hP hD hS => ?_)
    have hw_3 : r_3 = iI tn := hw_3
    have hP : va_P D vwCl (List.flatten [wTop ad, wTx cy ad tn tf]) H := hP
    have hD : va_D A (List.flatten [wTop ad, wTx cy ad tn tf]) := hD
    obtain rfl := hw_3
    refine lv_iload_n hx hb dX4_refuseTextUnlessLetters_25 rfl (lv_at hl 1 rfl) ?_
    refine z_icmp_le (tgt := 39) hx hb (iI_t (by omega) (by omega)) (iI_t (by omega) (by omega)) dX4_refuseTextUnlessLetters_26 (by decide) (fun c4 => ?_) (fun c4 => ?_)
    · --
      exact x_vret hx hb hr hlocks hS () (show errF tx 0 = -1 ∧ (tx.length : Int) ≤ x from ⟨by omega, by omega⟩) hP dX4_refuseTextUnlessLetters_39 (by decide) (by decide)
    · --
      exact x_throw (cls := xISE) (text := "the text has too many letters") (ik := 85) (is := 224) (ic := 89) (Ts := wsX4_refuseTextUnlessLetters) hx hb hfl hown (by decide +kernel) (by decide +kernel) hts (by decide +kernel) (by decide +kernel) (by decide +kernel) x_ng1 x_gw1 hT hC (by decide +kernel) hZ hS (hl.1.trans hml.symm) dX4_refuseTextUnlessLetters_29 dX4_refuseTextUnlessLetters_32 dX4_refuseTextUnlessLetters_33 dX4_refuseTextUnlessLetters_35 dX4_refuseTextUnlessLetters_38 htab (by decide) (by decide) (by decide) (by decide) hlocks hP (⟨rfl, by omega⟩) (by decide) (by decide)
  · --
    exact x_throw (cls := xISE) (text := "the text has an error") (ik := 85) (is := 222) (ic := 89) (Ts := wsX4_refuseTextUnlessLetters) hx hb hfl hown (by decide +kernel) (by decide +kernel) hts (by decide +kernel) (by decide +kernel) (by decide +kernel) x_ng1 x_gw1 hT hC (by decide +kernel) hZ hS (hl.1.trans hml.symm) dX4_refuseTextUnlessLetters_8 dX4_refuseTextUnlessLetters_11 dX4_refuseTextUnlessLetters_12 dX4_refuseTextUnlessLetters_14 dX4_refuseTextUnlessLetters_17 htab (by decide) (by decide) (by decide) (by decide) hlocks hP (⟨rfl, by omega⟩) (by decide) (by decide)
set_option maxHeartbeats 4000000 in
set_option maxRecDepth 100000 in
theorem c_X4_moveTextL (l : Launch) (D : va_G) (cy : Nat → ClassId) (ad : Nat → Nat) (z : Nat → Int) (f : Nat → Nat → Int32) (tn : Int) (tf : Nat → Int32) (tx : List Int32) (hX : Rep tn tf tx ∧ tx.length ≤ 80) (hcap : (tx.length : Int) ≤ 60) : Cv l D cy yX4_moveText wsX4_moveText 2 42 [.ref (ad 0), .ref (ad 2)] (List.flatten [wTop ad, wSt cy ad 1 z f, wTx cy ad tn tf]) (fun (u : (Nat → Int) × (Nat → Nat → Int32)) => Rep (u.1 0) (u.2 0) (tx.map (fun x => x - iI 97)) ∧ u.1 1 = z 1 ∧ u.2 1 = f 1 ∧ u.1 3 = z 3 ∧ u.1 4 = z 4 ∧ u.1 5 = z 5 ∧ u.1 6 = z 6 ∧ u.1 7 = z 7) (fun u : (Nat → Int) × (Nat → Nat → Int32) => (List.flatten [wTop ad, wSt cy ad 1 u.1 u.2, wTx cy ad 0 tf])) := by
  refine Cv_of (cc := cX4_moveText) (maxL := 3) (ret := none) (by decide) rfl rfl ?_
  intro p e s m args below meth c A hx hb hr hts hown hlocks hml hP hK hD hT hA ls hl
  have hS : va_S A s.heap s.heap [] := va_S.rf
  have hl : lv_has ls 3 [(0, .ref (ad 0)), (1, .ref (ad 2))] := hl
  have hP : va_P D vwCl (List.flatten [wTop ad, wSt cy ad 1 z f, wTx cy ad tn tf]) s.heap := hP
  have hD : va_D A (List.flatten [wTop ad, wSt cy ad 1 z f, wTx cy ad tn tf]) := hD
  have hiX4 : ∀ w ∈ wsX40, w ∈ wsX4_moveText := by decide +kernel
  have htn := hX.1.1
  have htl := hX.2
  refine lv_aload_n hx hb dX4_moveText_0 rfl (lv_at hl 1 rfl) ?_
  refine z_gVv (n := 0) (b := ad 2) (As := []) (rest := []) ⟨hx, hb, hml, hown, hts⟩ (c_X2_clear l D cy (ad 2) (ad 3) (z 0) ) gX4_moveText_X2_clear rfl (by decide +kernel) ⟨Nat.le_of_ble_eq_true rfl, Nat.le_of_ble_eq_true rfl⟩ hK hT hP hS (Fp.part hP hD hS hA (nbl := fun (u : Unit) => wSt cy ad 1 (zL [0, z 1, z 2, z 3, z 4, z 5, z 6, z 7]) f) (nbs := fun (u : Unit) => [wTop ad, wSt cy ad 1 (zL [0, z 1, z 2, z 3, z 4, z 5, z 6, z 7]) f, wTx cy ad tn tf]) 1 rfl [1] rfl rfl (fun _ => rfl) (fun _ => rfl) (fun _ => rfl)) 2 2 rfl rfl rfl rfl hl.1 rfl (Nat.le_of_ble_eq_true rfl) dX4_moveText_1 ⟨Nat.zero_le _, Nat.zero_le _⟩ (fun  u_1 H locs hw_1 hP hD hS => ?_)
  have hw_1 : True := hw_1
  have hP : va_P D vwCl (List.flatten [wTop ad, wSt cy ad 1 (zL [0, z 1, z 2, z 3, z 4, z 5, z 6, z 7]) f, wTx cy ad tn tf]) H := hP
  have hD : va_D A (List.flatten [wTop ad, wSt cy ad 1 (zL [0, z 1, z 2, z 3, z 4, z 5, z 6, z 7]) f, wTx cy ad tn tf]) := hD
  refine lv_iconst (v := iI 0) hx hb dX4_moveText_4 rfl ?_
  refine lv_istore_n (lv' := [(2, .int (iI 0)), (0, .ref (ad 0)), (1, .ref (ad 2))]) hx hb dX4_moveText_5 rfl hl (by decide) rfl (fun ls hl => ?_)
  have hloop2 : ∀ (n2 : Nat) (i : Int) (g : Nat → Int32) (hi : 0 ≤ i ∧ i ≤ tn) (hg : ∀ j : Nat, (j : Int) < i → g j = tf j - iI 97) (hm : tn - i < (n2 : Int)) (H : Heap) (locs : List Loc) (ls : Array Slot) (hP : va_P D vwCl (List.flatten [wTop ad, wSt cy ad 1 (zL [i, z 1, z 2, z 3, z 4, z 5, z 6, z 7]) (fL [g, f 1, f 2]), wTx cy ad tn tf]) H) (hD : va_D A (List.flatten [wTop ad, wSt cy ad 1 (zL [i, z 1, z 2, z 3, z 4, z 5, z 6, z 7]) (fL [g, f 1, f 2]), wTx cy ad tn tf])) (hS : va_S A s.heap H locs) (hl : lv_has ls 3 [(2, .int (iI i)), (0, .ref (ad 0)), (1, .ref (ad 2))]), W p l e ({ frames := 2, cells := 0, slots := 0, locals := 42 } : Room) s m args below meth c H locs 0 0 (MQ below (va_Qv (fun (u : (Nat → Int) × (Nat → Nat → Int32)) => Rep (u.1 0) (u.2 0) (tx.map (fun x => x - iI 97)) ∧ u.1 1 = z 1 ∧ u.2 1 = f 1 ∧ u.1 3 = z 3 ∧ u.1 4 = z 4 ∧ u.1 5 = z 5 ∧ u.1 6 = z 6 ∧ u.1 7 = z 7) (fun u t => va_P D vwCl ((fun u : (Nat → Int) × (Nat → Nat → Int32) => (List.flatten [wTop ad, wSt cy ad 1 u.1 u.2, wTx cy ad 0 tf])) u) t.heap) A) args s 0 0 A) (F0 m 6 ls []) := by
    intro n2
    induction n2 with
    | zero =>
      intro i g hi hg hm; exact absurd hm (by omega)
    | succ n2 ih2 =>
      intro i g hi hg hm H locs ls hP hD hS hl
      refine lv_iload_n hx hb dX4_moveText_6 rfl (lv_at hl 0 rfl) ?_
      refine lv_aload_n hx hb dX4_moveText_7 rfl (lv_at hl 1 rfl) ?_
      refine va_get (D := D) (ci := 4) (v := .ref (ad 78)) (C := RX4) (T := TX4) (N := 7) hx hb hts hiX4 hown hK hP 0 rfl rfl 6 (by decide) (hts (.fieldLink RX4 46 "BackwardSearch" "text" "LBackwardSearch$Row;") (by decide +kernel)) (fun _ h9 => h9) rfl dX4_moveText_8 ?_
      refine z_gVi (n := 0) (b := ad 78) (As := []) (rest := [.int (iI i)]) ⟨hx, hb, hml, hown, hts⟩ (c_X2_size l D cy (ad 78) (ad 79) tn ) gX4_moveText_X2_size rfl (by decide +kernel) ⟨Nat.le_of_ble_eq_true rfl, Nat.le_of_ble_eq_true rfl⟩ hK hT hP hS (Fp.same hP hD hS hA [8] rfl rfl (fun _ => rfl)) 8 2 rfl rfl rfl rfl hl.1 rfl (Nat.le_of_ble_eq_true rfl) dX4_moveText_11 ⟨Nat.zero_le _, Nat.zero_le _⟩ (fun r_3 u_3 H locs hw_3 hP hD hS => ?_)
      have hw_3 : r_3 = iI tn := hw_3
      have hP : va_P D vwCl (List.flatten [wTop ad, wSt cy ad 1 (zL [i, z 1, z 2, z 3, z 4, z 5, z 6, z 7]) (fL [g, f 1, f 2]), wTx cy ad tn tf]) H := hP
      have hD : va_D A (List.flatten [wTop ad, wSt cy ad 1 (zL [i, z 1, z 2, z 3, z 4, z 5, z 6, z 7]) (fL [g, f 1, f 2]), wTx cy ad tn tf]) := hD
      obtain rfl := hw_3
      refine z_icmp_ge (tgt := 38) hx hb (iI_t (by omega) (by omega)) (iI_t (by omega) (by omega)) dX4_moveText_14 (by decide) (fun c4 => ?_) (fun c4 => ?_)
      · --
        refine lv_aload_n hx hb dX4_moveText_38 rfl (lv_at hl 1 rfl) ?_
        refine va_get (D := D) (ci := 4) (v := .ref (ad 78)) (C := RX4) (T := TX4) (N := 7) hx hb hts hiX4 hown hK hP 0 rfl rfl 6 (by decide) (hts (.fieldLink RX4 46 "BackwardSearch" "text" "LBackwardSearch$Row;") (by decide +kernel)) (fun _ h9 => h9) rfl dX4_moveText_39 ?_
        refine z_gVv (n := 0) (b := ad 78) (As := []) (rest := []) ⟨hx, hb, hml, hown, hts⟩ (c_X2_clear l D cy (ad 78) (ad 79) tn ) gX4_moveText_X2_clear rfl (by decide +kernel) ⟨Nat.le_of_ble_eq_true rfl, Nat.le_of_ble_eq_true rfl⟩ hK hT hP hS (Fp.part hP hD hS hA (nbl := fun (u : Unit) => wTx cy ad 0 tf) (nbs := fun (u : Unit) => [wTop ad, wSt cy ad 1 (zL [i, z 1, z 2, z 3, z 4, z 5, z 6, z 7]) (fL [g, f 1, f 2]), wTx cy ad 0 tf]) 2 rfl [0] rfl rfl (fun _ => rfl) (fun _ => rfl) (fun _ => rfl)) 8 2 rfl rfl rfl rfl hl.1 rfl (Nat.le_of_ble_eq_true rfl) dX4_moveText_42 ⟨Nat.zero_le _, Nat.zero_le _⟩ (fun  u_5 H locs hw_5 hP hD hS => ?_)
        have hw_5 : True := hw_5
        have hP : va_P D vwCl (List.flatten [wTop ad, wSt cy ad 1 (zL [i, z 1, z 2, z 3, z 4, z 5, z 6, z 7]) (fL [g, f 1, f 2]), wTx cy ad 0 tf]) H := hP
        have hD : va_D A (List.flatten [wTop ad, wSt cy ad 1 (zL [i, z 1, z 2, z 3, z 4, z 5, z 6, z 7]) (fL [g, f 1, f 2]), wTx cy ad 0 tf]) := hD
        exact z_vret hx hb hr hlocks hS ((zL [i, z 1, z 2, z 3, z 4, z 5, z 6, z 7]), (fL [g, f 1, f 2])) (show Rep ((zL [i, z 1, z 2, z 3, z 4, z 5, z 6, z 7]) 0) ((fL [g, f 1, f 2]) 0) (tx.map (fun x => x - iI 97)) ∧ (zL [i, z 1, z 2, z 3, z 4, z 5, z 6, z 7]) 1 = z 1 ∧ (fL [g, f 1, f 2]) 1 = f 1 ∧ (zL [i, z 1, z 2, z 3, z 4, z 5, z 6, z 7]) 3 = z 3 ∧ (zL [i, z 1, z 2, z 3, z 4, z 5, z 6, z 7]) 4 = z 4 ∧ (zL [i, z 1, z 2, z 3, z 4, z 5, z 6, z 7]) 5 = z 5 ∧ (zL [i, z 1, z 2, z 3, z 4, z 5, z 6, z 7]) 6 = z 6 ∧ (zL [i, z 1, z 2, z 3, z 4, z 5, z 6, z 7]) 7 = z 7 from ⟨moved (n := i) hX.1 (by omega) (fun j a => hg j (by omega)), rfl, rfl, rfl, rfl, rfl, rfl, rfl⟩) hP dX4_moveText_45
      · --
        refine lv_aload_n hx hb dX4_moveText_17 rfl (lv_at hl 2 rfl) ?_
        refine lv_aload_n hx hb dX4_moveText_18 rfl (lv_at hl 1 rfl) ?_
        refine va_get (D := D) (ci := 4) (v := .ref (ad 78)) (C := RX4) (T := TX4) (N := 7) hx hb hts hiX4 hown hK hP 0 rfl rfl 6 (by decide) (hts (.fieldLink RX4 46 "BackwardSearch" "text" "LBackwardSearch$Row;") (by decide +kernel)) (fun _ h9 => h9) rfl dX4_moveText_19 ?_
        refine lv_iload_n hx hb dX4_moveText_22 rfl (lv_at hl 0 rfl) ?_
        refine z_gVi (n := 1) (b := ad 78) (As := [.int (iI i)]) (rest := [.ref (ad 2)]) ⟨hx, hb, hml, hown, hts⟩ (c_X2_at l D cy (ad 78) (ad 79) 80 tn tf i (by first | assumption | omega) (by first | assumption | omega)) gX4_moveText_X2_at rfl (by decide +kernel) ⟨Nat.le_of_ble_eq_true rfl, Nat.le_of_ble_eq_true rfl⟩ hK hT hP hS (Fp.same hP hD hS hA [8, 9] rfl rfl (fun _ => rfl)) 8 2 rfl rfl rfl rfl hl.1 rfl (Nat.le_of_ble_eq_true rfl) dX4_moveText_23 ⟨Nat.zero_le _, Nat.zero_le _⟩ (fun r_6 u_6 H locs hw_6 hP hD hS => ?_)
        have hw_6 : (0 ≤ i ∧ i < tn ∧ r_6 = tf i.toNat) ∨ (¬ (0 ≤ i ∧ i < tn) ∧ r_6 = iI (-1)) := hw_6
        have hP : va_P D vwCl (List.flatten [wTop ad, wSt cy ad 1 (zL [i, z 1, z 2, z 3, z 4, z 5, z 6, z 7]) (fL [g, f 1, f 2]), wTx cy ad tn tf]) H := hP
        have hD : va_D A (List.flatten [wTop ad, wSt cy ad 1 (zL [i, z 1, z 2, z 3, z 4, z 5, z 6, z 7]) (fL [g, f 1, f 2]), wTx cy ad tn tf]) := hD
        rcases hw_6 with ⟨h_6, g_6, rfl⟩ | ⟨h_6, rfl⟩
        · --
          refine lv_bipush (v := iI 97) hx hb dX4_moveText_26 (by decide +kernel) ?_
          refine lv_isub hx hb dX4_moveText_28 ?_
          refine z_gVv (n := 1) (b := ad 2) (As := [.int ((tf i.toNat) - (iI 97))]) (rest := []) ⟨hx, hb, hml, hown, hts⟩ (c_X2_add l D cy (ad 2) (ad 3) 60 i g ((tf i.toNat) - (iI 97)) (by first | assumption | omega)) gX4_moveText_X2_add rfl (by decide +kernel) ⟨Nat.le_of_ble_eq_true rfl, Nat.le_of_ble_eq_true rfl⟩ hK hT hP hS (Fp.part hP hD hS hA (nbl := fun (u : Int × (Nat → Int32)) => wSt cy ad 1 (zL [u.1, z 1, z 2, z 3, z 4, z 5, z 6, z 7]) (fL [u.2, f 1, f 2])) (nbs := fun (u : Int × (Nat → Int32)) => [wTop ad, wSt cy ad 1 (zL [u.1, z 1, z 2, z 3, z 4, z 5, z 6, z 7]) (fL [u.2, f 1, f 2]), wTx cy ad tn tf]) 1 rfl [1, 2] rfl rfl (fun _ => rfl) (fun _ => rfl) (fun _ => rfl)) 2 2 rfl rfl rfl rfl hl.1 rfl (Nat.le_of_ble_eq_true rfl) dX4_moveText_29 ⟨Nat.zero_le _, Nat.zero_le _⟩ (fun  u_7 H locs hw_7 hP hD hS => ?_)
          obtain ⟨n1_7, f1_7⟩ := u_7
          have hw_7 : (i < 60 ∧ n1_7 = i + 1 ∧ f1_7 = upd g i.toNat ((tf i.toNat) - (iI 97))) ∨ (¬ i < 60 ∧ n1_7 = i ∧ f1_7 = g) := hw_7
          have hP : va_P D vwCl (List.flatten [wTop ad, wSt cy ad 1 (zL [n1_7, z 1, z 2, z 3, z 4, z 5, z 6, z 7]) (fL [f1_7, f 1, f 2]), wTx cy ad tn tf]) H := hP
          have hD : va_D A (List.flatten [wTop ad, wSt cy ad 1 (zL [n1_7, z 1, z 2, z 3, z 4, z 5, z 6, z 7]) (fL [f1_7, f 1, f 2]), wTx cy ad tn tf]) := hD
          rcases hw_7 with ⟨h_7, rfl, rfl⟩ | ⟨h_7, rfl, rfl⟩
          · --
            refine z_iinc (lv' := [(2, .int (iI (i + 1))), (0, .ref (ad 0)), (1, .ref (ad 2))]) hx hb dX4_moveText_32 hl (k := 0) rfl (by decide) rfl (fun ls hl => ?_)
            refine lv_goto (tgt := 6) hx hb dX4_moveText_35 (by decide) ?_
            exact ih2 (i + 1) (upd g i.toNat ((tf i.toNat) - (iI 97))) (by omega) (fun j a => by
              by_cases e : j = i.toNat
              · rw [e, upd_same]
              · rw [upd_ne _ _ e]; exact hg j (by omega)) (by omega) _ _ _ hP hD hS (lv_sub hl [0, 1, 2] rfl)
          · --
            exfalso; omega
        · --
          exfalso; omega
  exact hloop2 (Int.toNat (tn - 0) + 1) 0 (f 0) (by omega) (fun j a => by omega) (by omega) _ _ _ hP hD hS (lv_sub hl [0, 1, 2] rfl)
set_option maxHeartbeats 4000000 in
set_option maxRecDepth 100000 in
theorem c_X4_moveTextW (l : Launch) (D : va_G) (cy : Nat → ClassId) (ad : Nat → Nat) (z : Nat → Int) (f : Nat → Nat → Int32) (tn : Int) (tf : Nat → Int32) (tx : List Int32) (hX : Rep tn tf tx ∧ tx.length ≤ 80) (hcap : (tx.length : Int) ≤ 16) : Cv l D cy yX4_moveText wsX4_moveText 2 42 [.ref (ad 0), .ref (ad 4)] (List.flatten [wTop ad, wSt cy ad 1 z f, wTx cy ad tn tf]) (fun (u : (Nat → Int) × (Nat → Nat → Int32)) => Rep (u.1 1) (u.2 1) (tx.map (fun x => x - iI 97)) ∧ u.1 0 = z 0 ∧ u.2 0 = f 0 ∧ u.1 3 = z 3 ∧ u.1 4 = z 4 ∧ u.1 5 = z 5 ∧ u.1 6 = z 6 ∧ u.1 7 = z 7) (fun u : (Nat → Int) × (Nat → Nat → Int32) => (List.flatten [wTop ad, wSt cy ad 1 u.1 u.2, wTx cy ad 0 tf])) := by
  refine Cv_of (cc := cX4_moveText) (maxL := 3) (ret := none) (by decide) rfl rfl ?_
  intro p e s m args below meth c A hx hb hr hts hown hlocks hml hP hK hD hT hA ls hl
  have hS : va_S A s.heap s.heap [] := va_S.rf
  have hl : lv_has ls 3 [(0, .ref (ad 0)), (1, .ref (ad 4))] := hl
  have hP : va_P D vwCl (List.flatten [wTop ad, wSt cy ad 1 z f, wTx cy ad tn tf]) s.heap := hP
  have hD : va_D A (List.flatten [wTop ad, wSt cy ad 1 z f, wTx cy ad tn tf]) := hD
  have hiX4 : ∀ w ∈ wsX40, w ∈ wsX4_moveText := by decide +kernel
  have htn := hX.1.1
  have htl := hX.2
  refine lv_aload_n hx hb dX4_moveText_0 rfl (lv_at hl 1 rfl) ?_
  refine z_gVv (n := 0) (b := ad 4) (As := []) (rest := []) ⟨hx, hb, hml, hown, hts⟩ (c_X2_clear l D cy (ad 4) (ad 5) (z 1) ) gX4_moveText_X2_clear rfl (by decide +kernel) ⟨Nat.le_of_ble_eq_true rfl, Nat.le_of_ble_eq_true rfl⟩ hK hT hP hS (Fp.part hP hD hS hA (nbl := fun (u : Unit) => wSt cy ad 1 (zL [z 0, 0, z 2, z 3, z 4, z 5, z 6, z 7]) f) (nbs := fun (u : Unit) => [wTop ad, wSt cy ad 1 (zL [z 0, 0, z 2, z 3, z 4, z 5, z 6, z 7]) f, wTx cy ad tn tf]) 1 rfl [3] rfl rfl (fun _ => rfl) (fun _ => rfl) (fun _ => rfl)) 4 2 rfl rfl rfl rfl hl.1 rfl (Nat.le_of_ble_eq_true rfl) dX4_moveText_1 ⟨Nat.zero_le _, Nat.zero_le _⟩ (fun  u_1 H locs hw_1 hP hD hS => ?_)
  have hw_1 : True := hw_1
  have hP : va_P D vwCl (List.flatten [wTop ad, wSt cy ad 1 (zL [z 0, 0, z 2, z 3, z 4, z 5, z 6, z 7]) f, wTx cy ad tn tf]) H := hP
  have hD : va_D A (List.flatten [wTop ad, wSt cy ad 1 (zL [z 0, 0, z 2, z 3, z 4, z 5, z 6, z 7]) f, wTx cy ad tn tf]) := hD
  refine lv_iconst (v := iI 0) hx hb dX4_moveText_4 rfl ?_
  refine lv_istore_n (lv' := [(2, .int (iI 0)), (0, .ref (ad 0)), (1, .ref (ad 4))]) hx hb dX4_moveText_5 rfl hl (by decide) rfl (fun ls hl => ?_)
  have hloop2 : ∀ (n2 : Nat) (i : Int) (g : Nat → Int32) (hi : 0 ≤ i ∧ i ≤ tn) (hg : ∀ j : Nat, (j : Int) < i → g j = tf j - iI 97) (hm : tn - i < (n2 : Int)) (H : Heap) (locs : List Loc) (ls : Array Slot) (hP : va_P D vwCl (List.flatten [wTop ad, wSt cy ad 1 (zL [z 0, i, z 2, z 3, z 4, z 5, z 6, z 7]) (fL [f 0, g, f 2]), wTx cy ad tn tf]) H) (hD : va_D A (List.flatten [wTop ad, wSt cy ad 1 (zL [z 0, i, z 2, z 3, z 4, z 5, z 6, z 7]) (fL [f 0, g, f 2]), wTx cy ad tn tf])) (hS : va_S A s.heap H locs) (hl : lv_has ls 3 [(2, .int (iI i)), (0, .ref (ad 0)), (1, .ref (ad 4))]), W p l e ({ frames := 2, cells := 0, slots := 0, locals := 42 } : Room) s m args below meth c H locs 0 0 (MQ below (va_Qv (fun (u : (Nat → Int) × (Nat → Nat → Int32)) => Rep (u.1 1) (u.2 1) (tx.map (fun x => x - iI 97)) ∧ u.1 0 = z 0 ∧ u.2 0 = f 0 ∧ u.1 3 = z 3 ∧ u.1 4 = z 4 ∧ u.1 5 = z 5 ∧ u.1 6 = z 6 ∧ u.1 7 = z 7) (fun u t => va_P D vwCl ((fun u : (Nat → Int) × (Nat → Nat → Int32) => (List.flatten [wTop ad, wSt cy ad 1 u.1 u.2, wTx cy ad 0 tf])) u) t.heap) A) args s 0 0 A) (F0 m 6 ls []) := by
    intro n2
    induction n2 with
    | zero =>
      intro i g hi hg hm; exact absurd hm (by omega)
    | succ n2 ih2 =>
      intro i g hi hg hm H locs ls hP hD hS hl
      refine lv_iload_n hx hb dX4_moveText_6 rfl (lv_at hl 0 rfl) ?_
      refine lv_aload_n hx hb dX4_moveText_7 rfl (lv_at hl 1 rfl) ?_
      refine va_get (D := D) (ci := 4) (v := .ref (ad 78)) (C := RX4) (T := TX4) (N := 7) hx hb hts hiX4 hown hK hP 0 rfl rfl 6 (by decide) (hts (.fieldLink RX4 46 "BackwardSearch" "text" "LBackwardSearch$Row;") (by decide +kernel)) (fun _ h9 => h9) rfl dX4_moveText_8 ?_
      refine z_gVi (n := 0) (b := ad 78) (As := []) (rest := [.int (iI i)]) ⟨hx, hb, hml, hown, hts⟩ (c_X2_size l D cy (ad 78) (ad 79) tn ) gX4_moveText_X2_size rfl (by decide +kernel) ⟨Nat.le_of_ble_eq_true rfl, Nat.le_of_ble_eq_true rfl⟩ hK hT hP hS (Fp.same hP hD hS hA [8] rfl rfl (fun _ => rfl)) 8 2 rfl rfl rfl rfl hl.1 rfl (Nat.le_of_ble_eq_true rfl) dX4_moveText_11 ⟨Nat.zero_le _, Nat.zero_le _⟩ (fun r_3 u_3 H locs hw_3 hP hD hS => ?_)
      have hw_3 : r_3 = iI tn := hw_3
      have hP : va_P D vwCl (List.flatten [wTop ad, wSt cy ad 1 (zL [z 0, i, z 2, z 3, z 4, z 5, z 6, z 7]) (fL [f 0, g, f 2]), wTx cy ad tn tf]) H := hP
      have hD : va_D A (List.flatten [wTop ad, wSt cy ad 1 (zL [z 0, i, z 2, z 3, z 4, z 5, z 6, z 7]) (fL [f 0, g, f 2]), wTx cy ad tn tf]) := hD
      obtain rfl := hw_3
      refine z_icmp_ge (tgt := 38) hx hb (iI_t (by omega) (by omega)) (iI_t (by omega) (by omega)) dX4_moveText_14 (by decide) (fun c4 => ?_) (fun c4 => ?_)
      · --
        refine lv_aload_n hx hb dX4_moveText_38 rfl (lv_at hl 1 rfl) ?_
        refine va_get (D := D) (ci := 4) (v := .ref (ad 78)) (C := RX4) (T := TX4) (N := 7) hx hb hts hiX4 hown hK hP 0 rfl rfl 6 (by decide) (hts (.fieldLink RX4 46 "BackwardSearch" "text" "LBackwardSearch$Row;") (by decide +kernel)) (fun _ h9 => h9) rfl dX4_moveText_39 ?_
        refine z_gVv (n := 0) (b := ad 78) (As := []) (rest := []) ⟨hx, hb, hml, hown, hts⟩ (c_X2_clear l D cy (ad 78) (ad 79) tn ) gX4_moveText_X2_clear rfl (by decide +kernel) ⟨Nat.le_of_ble_eq_true rfl, Nat.le_of_ble_eq_true rfl⟩ hK hT hP hS (Fp.part hP hD hS hA (nbl := fun (u : Unit) => wTx cy ad 0 tf) (nbs := fun (u : Unit) => [wTop ad, wSt cy ad 1 (zL [z 0, i, z 2, z 3, z 4, z 5, z 6, z 7]) (fL [f 0, g, f 2]), wTx cy ad 0 tf]) 2 rfl [0] rfl rfl (fun _ => rfl) (fun _ => rfl) (fun _ => rfl)) 8 2 rfl rfl rfl rfl hl.1 rfl (Nat.le_of_ble_eq_true rfl) dX4_moveText_42 ⟨Nat.zero_le _, Nat.zero_le _⟩ (fun  u_5 H locs hw_5 hP hD hS => ?_)
        have hw_5 : True := hw_5
        have hP : va_P D vwCl (List.flatten [wTop ad, wSt cy ad 1 (zL [z 0, i, z 2, z 3, z 4, z 5, z 6, z 7]) (fL [f 0, g, f 2]), wTx cy ad 0 tf]) H := hP
        have hD : va_D A (List.flatten [wTop ad, wSt cy ad 1 (zL [z 0, i, z 2, z 3, z 4, z 5, z 6, z 7]) (fL [f 0, g, f 2]), wTx cy ad 0 tf]) := hD
        exact z_vret hx hb hr hlocks hS ((zL [z 0, i, z 2, z 3, z 4, z 5, z 6, z 7]), (fL [f 0, g, f 2])) (show Rep ((zL [z 0, i, z 2, z 3, z 4, z 5, z 6, z 7]) 1) ((fL [f 0, g, f 2]) 1) (tx.map (fun x => x - iI 97)) ∧ (zL [z 0, i, z 2, z 3, z 4, z 5, z 6, z 7]) 0 = z 0 ∧ (fL [f 0, g, f 2]) 0 = f 0 ∧ (zL [z 0, i, z 2, z 3, z 4, z 5, z 6, z 7]) 3 = z 3 ∧ (zL [z 0, i, z 2, z 3, z 4, z 5, z 6, z 7]) 4 = z 4 ∧ (zL [z 0, i, z 2, z 3, z 4, z 5, z 6, z 7]) 5 = z 5 ∧ (zL [z 0, i, z 2, z 3, z 4, z 5, z 6, z 7]) 6 = z 6 ∧ (zL [z 0, i, z 2, z 3, z 4, z 5, z 6, z 7]) 7 = z 7 from ⟨moved (n := i) hX.1 (by omega) (fun j a => hg j (by omega)), rfl, rfl, rfl, rfl, rfl, rfl, rfl⟩) hP dX4_moveText_45
      · --
        refine lv_aload_n hx hb dX4_moveText_17 rfl (lv_at hl 2 rfl) ?_
        refine lv_aload_n hx hb dX4_moveText_18 rfl (lv_at hl 1 rfl) ?_
        refine va_get (D := D) (ci := 4) (v := .ref (ad 78)) (C := RX4) (T := TX4) (N := 7) hx hb hts hiX4 hown hK hP 0 rfl rfl 6 (by decide) (hts (.fieldLink RX4 46 "BackwardSearch" "text" "LBackwardSearch$Row;") (by decide +kernel)) (fun _ h9 => h9) rfl dX4_moveText_19 ?_
        refine lv_iload_n hx hb dX4_moveText_22 rfl (lv_at hl 0 rfl) ?_
        refine z_gVi (n := 1) (b := ad 78) (As := [.int (iI i)]) (rest := [.ref (ad 4)]) ⟨hx, hb, hml, hown, hts⟩ (c_X2_at l D cy (ad 78) (ad 79) 80 tn tf i (by first | assumption | omega) (by first | assumption | omega)) gX4_moveText_X2_at rfl (by decide +kernel) ⟨Nat.le_of_ble_eq_true rfl, Nat.le_of_ble_eq_true rfl⟩ hK hT hP hS (Fp.same hP hD hS hA [8, 9] rfl rfl (fun _ => rfl)) 8 2 rfl rfl rfl rfl hl.1 rfl (Nat.le_of_ble_eq_true rfl) dX4_moveText_23 ⟨Nat.zero_le _, Nat.zero_le _⟩ (fun r_6 u_6 H locs hw_6 hP hD hS => ?_)
        have hw_6 : (0 ≤ i ∧ i < tn ∧ r_6 = tf i.toNat) ∨ (¬ (0 ≤ i ∧ i < tn) ∧ r_6 = iI (-1)) := hw_6
        have hP : va_P D vwCl (List.flatten [wTop ad, wSt cy ad 1 (zL [z 0, i, z 2, z 3, z 4, z 5, z 6, z 7]) (fL [f 0, g, f 2]), wTx cy ad tn tf]) H := hP
        have hD : va_D A (List.flatten [wTop ad, wSt cy ad 1 (zL [z 0, i, z 2, z 3, z 4, z 5, z 6, z 7]) (fL [f 0, g, f 2]), wTx cy ad tn tf]) := hD
        rcases hw_6 with ⟨h_6, g_6, rfl⟩ | ⟨h_6, rfl⟩
        · --
          refine lv_bipush (v := iI 97) hx hb dX4_moveText_26 (by decide +kernel) ?_
          refine lv_isub hx hb dX4_moveText_28 ?_
          refine z_gVv (n := 1) (b := ad 4) (As := [.int ((tf i.toNat) - (iI 97))]) (rest := []) ⟨hx, hb, hml, hown, hts⟩ (c_X2_add l D cy (ad 4) (ad 5) 16 i g ((tf i.toNat) - (iI 97)) (by first | assumption | omega)) gX4_moveText_X2_add rfl (by decide +kernel) ⟨Nat.le_of_ble_eq_true rfl, Nat.le_of_ble_eq_true rfl⟩ hK hT hP hS (Fp.part hP hD hS hA (nbl := fun (u : Int × (Nat → Int32)) => wSt cy ad 1 (zL [z 0, u.1, z 2, z 3, z 4, z 5, z 6, z 7]) (fL [f 0, u.2, f 2])) (nbs := fun (u : Int × (Nat → Int32)) => [wTop ad, wSt cy ad 1 (zL [z 0, u.1, z 2, z 3, z 4, z 5, z 6, z 7]) (fL [f 0, u.2, f 2]), wTx cy ad tn tf]) 1 rfl [3, 4] rfl rfl (fun _ => rfl) (fun _ => rfl) (fun _ => rfl)) 4 2 rfl rfl rfl rfl hl.1 rfl (Nat.le_of_ble_eq_true rfl) dX4_moveText_29 ⟨Nat.zero_le _, Nat.zero_le _⟩ (fun  u_7 H locs hw_7 hP hD hS => ?_)
          obtain ⟨n1_7, f1_7⟩ := u_7
          have hw_7 : (i < 16 ∧ n1_7 = i + 1 ∧ f1_7 = upd g i.toNat ((tf i.toNat) - (iI 97))) ∨ (¬ i < 16 ∧ n1_7 = i ∧ f1_7 = g) := hw_7
          have hP : va_P D vwCl (List.flatten [wTop ad, wSt cy ad 1 (zL [z 0, n1_7, z 2, z 3, z 4, z 5, z 6, z 7]) (fL [f 0, f1_7, f 2]), wTx cy ad tn tf]) H := hP
          have hD : va_D A (List.flatten [wTop ad, wSt cy ad 1 (zL [z 0, n1_7, z 2, z 3, z 4, z 5, z 6, z 7]) (fL [f 0, f1_7, f 2]), wTx cy ad tn tf]) := hD
          rcases hw_7 with ⟨h_7, rfl, rfl⟩ | ⟨h_7, rfl, rfl⟩
          · --
            refine z_iinc (lv' := [(2, .int (iI (i + 1))), (0, .ref (ad 0)), (1, .ref (ad 4))]) hx hb dX4_moveText_32 hl (k := 0) rfl (by decide) rfl (fun ls hl => ?_)
            refine lv_goto (tgt := 6) hx hb dX4_moveText_35 (by decide) ?_
            exact ih2 (i + 1) (upd g i.toNat ((tf i.toNat) - (iI 97))) (by omega) (fun j a => by
              by_cases e : j = i.toNat
              · rw [e, upd_same]
              · rw [upd_ne _ _ e]; exact hg j (by omega)) (by omega) _ _ _ hP hD hS (lv_sub hl [0, 1, 2] rfl)
          · --
            exfalso; omega
        · --
          exfalso; omega
  exact hloop2 (Int.toNat (tn - 0) + 1) 0 (f 1) (by omega) (fun j a => by omega) (by omega) _ _ _ hP hD hS (lv_sub hl [0, 1, 2] rfl)
set_option maxHeartbeats 4000000 in
set_option maxRecDepth 100000 in
theorem c_X4_takeLine (l : Launch) (hfl : l.stackTraces = false) (D : va_G) (cy : Nat → ClassId) (ad : Nat → Nat) (z : Nat → Int) (f : Nat → Nat → Int32) (M : MS) (nx : Int) (ct : Int) (Zh : Nat → Nat → Int) (Fh : Nat → Nat → Nat → Int32) (h : List MS) (tn : Int) (tf : Nat → Int32) (tx : List Int32) (hR : RS z f M) (hM : MOk M) (hH : RXH nx ct Zh Fh h) (hX : Rep tn tf tx ∧ tx.length ≤ 80) : Xi l D cy yX4_takeLine wsX4_takeLine 7 113 1 [.ref (ad 0)] (List.flatten [wTop ad, wSt cy ad 1 z f, wHb ad ct, wKb cy ad nx, wSt cy ad 20 (Zh 0) (Fh 0), wSt cy ad 27 (Zh 1) (Fh 1), wSt cy ad 34 (Zh 2) (Fh 2), wSt cy ad 41 (Zh 3) (Fh 3), wSt cy ad 48 (Zh 4) (Fh 4), wSt cy ad 55 (Zh 5) (Fh 5), wTx cy ad tn tf]) (fun (r : Int32) (u : (Nat → Int) × (Nat → Nat → Int32) × Int × Int × (Nat → Nat → Int) × (Nat → Nat → Nat → Int32)) => (errF tx 0 = -1 ∧ (tx.length : Int) ≤ 60) ∧ r = iI (tx.length : Int) ∧ RS u.1 u.2.1 (mTakeL M tx) ∧ RXH u.2.2.1 u.2.2.2.1 u.2.2.2.2.1 u.2.2.2.2.2 (pushH h M)) (fun u : (Nat → Int) × (Nat → Nat → Int32) × Int × Int × (Nat → Nat → Int) × (Nat → Nat → Nat → Int32) => (List.flatten [wTop ad, wSt cy ad 1 u.1 u.2.1, wHb ad u.2.2.2.1, wKb cy ad u.2.2.1, wSt cy ad 20 (u.2.2.2.2.1 0) (u.2.2.2.2.2 0), wSt cy ad 27 (u.2.2.2.2.1 1) (u.2.2.2.2.2 1), wSt cy ad 34 (u.2.2.2.2.1 2) (u.2.2.2.2.2 2), wSt cy ad 41 (u.2.2.2.2.1 3) (u.2.2.2.2.2 3), wSt cy ad 48 (u.2.2.2.2.1 4) (u.2.2.2.2.2 4), wSt cy ad 55 (u.2.2.2.2.1 5) (u.2.2.2.2.2 5), wTx cy ad 0 tf])) (fun E => E = xISE ∧ ¬ (errF tx 0 = -1 ∧ (tx.length : Int) ≤ 60)) := by
  refine Xi_of (cc := cX4_takeLine) (maxL := 1) (ret := (some .int)) (by decide) rfl rfl ?_
  intro p e s m args below meth c A hx hb hr hts hown hlocks hml htab hP hK hD hT hC hZ hA ls hl
  have hS : va_S A s.heap s.heap [] := va_S.rf
  have hl : lv_has ls 1 [(0, .ref (ad 0))] := hl
  have hP : va_P D vwCl (List.flatten [wTop ad, wSt cy ad 1 z f, wHb ad ct, wKb cy ad nx, wSt cy ad 20 (Zh 0) (Fh 0), wSt cy ad 27 (Zh 1) (Fh 1), wSt cy ad 34 (Zh 2) (Fh 2), wSt cy ad 41 (Zh 3) (Fh 3), wSt cy ad 48 (Zh 4) (Fh 4), wSt cy ad 55 (Zh 5) (Fh 5), wTx cy ad tn tf]) s.heap := hP
  have hD : va_D A (List.flatten [wTop ad, wSt cy ad 1 z f, wHb ad ct, wKb cy ad nx, wSt cy ad 20 (Zh 0) (Fh 0), wSt cy ad 27 (Zh 1) (Fh 1), wSt cy ad 34 (Zh 2) (Fh 2), wSt cy ad 41 (Zh 3) (Fh 3), wSt cy ad 48 (Zh 4) (Fh 4), wSt cy ad 55 (Zh 5) (Fh 5), wTx cy ad tn tf]) := hD
  have hiX3 : ∀ w ∈ wsX30, w ∈ wsX4_takeLine := by decide +kernel
  have hiX4 : ∀ w ∈ wsX40, w ∈ wsX4_takeLine := by decide +kernel
  obtain ⟨r0, r1, r2, r3, r4, r5, r6, r7⟩ := id hR
  obtain ⟨o1, o2, o3, o4, o5, o6, o7, o8, o9, o10, o11, o12, o13, o14, o15⟩ := id hM
  have q0 := r0.1
  have q1 := r1.1
  have q2 := r2.1
  have htn := hX.1.1
  have htl := hX.2
  refine lv_aload_n hx hb dX4_takeLine_0 rfl (lv_at hl 0 rfl) ?_
  refine lv_bipush (v := iI 60) hx hb dX4_takeLine_1 (by decide +kernel) ?_
  refine x_gVv (n := 1) (b := ad 0) (As := [.int (iI 60)]) (rest := []) ⟨hx, hb, hml, hown, hts⟩ (c_X4_refuseTextUnlessLetters l hfl D cy ad tn tf tx (60 : Int) (hX) (by first | assumption | omega)) gX4_takeLine_X4_refuseTextUnlessLetters rfl (by decide +kernel) ⟨Nat.le_of_ble_eq_true rfl, Nat.le_of_ble_eq_true rfl⟩ hK hT hC hZ htab hlocks hP hS (Fp.same hP hD hS hA [0, 52, 53] rfl rfl (fun _ => rfl)) (fun _ => rfl) 0 4 rfl rfl rfl (fun E hE => hE) () rfl hl.1 rfl (Nat.le_of_ble_eq_true rfl) dX4_takeLine_3 ⟨by decide, by decide⟩ (by decide) (by decide) (fun  u_1 H locs hw_1 hP hD hS => ?_)
  have hw_1 : errF tx 0 = -1 ∧ (tx.length : Int) ≤ (60 : Int) := hw_1
  have hP : va_P D vwCl (List.flatten [wTop ad, wSt cy ad 1 z f, wHb ad ct, wKb cy ad nx, wSt cy ad 20 (Zh 0) (Fh 0), wSt cy ad 27 (Zh 1) (Fh 1), wSt cy ad 34 (Zh 2) (Fh 2), wSt cy ad 41 (Zh 3) (Fh 3), wSt cy ad 48 (Zh 4) (Fh 4), wSt cy ad 55 (Zh 5) (Fh 5), wTx cy ad tn tf]) H := hP
  have hD : va_D A (List.flatten [wTop ad, wSt cy ad 1 z f, wHb ad ct, wKb cy ad nx, wSt cy ad 20 (Zh 0) (Fh 0), wSt cy ad 27 (Zh 1) (Fh 1), wSt cy ad 34 (Zh 2) (Fh 2), wSt cy ad 41 (Zh 3) (Fh 3), wSt cy ad 48 (Zh 4) (Fh 4), wSt cy ad 55 (Zh 5) (Fh 5), wTx cy ad tn tf]) := hD
  refine lv_aload_n hx hb dX4_takeLine_6 rfl (lv_at hl 0 rfl) ?_
  refine va_get (D := D) (ci := 4) (v := .ref (ad 18)) (C := RX4) (T := TX4) (N := 7) hx hb hts hiX4 hown hK hP 0 rfl rfl 3 (by decide) (hts (.fieldLink RX4 29 "BackwardSearch" "history" "LBackwardSearch$History;") (by decide +kernel)) (fun _ h9 => h9) rfl dX4_takeLine_7 ?_
  refine lv_aload_n hx hb dX4_takeLine_10 rfl (lv_at hl 0 rfl) ?_
  refine va_get (D := D) (ci := 4) (v := .ref (ad 1)) (C := RX4) (T := TX4) (N := 7) hx hb hts hiX4 hown hK hP 0 rfl rfl 0 (by decide) (hts (.fieldLink RX4 10 "BackwardSearch" "state" "LBackwardSearch$State;") (by decide +kernel)) (fun _ h9 => h9) rfl dX4_takeLine_11 ?_
  refine z_gVv (n := 1) (b := ad 18) (As := [.ref (ad 1)]) (rest := []) ⟨hx, hb, hml, hown, hts⟩ (c_X1_keepA l D cy ad nx ct Zh Fh h z f M (hR) (hM) (hH)) gX4_takeLine_X1_keep rfl (by decide +kernel) ⟨Nat.le_of_ble_eq_true rfl, Nat.le_of_ble_eq_true rfl⟩ hK hT hP hS (Fp.blocks hP hD hS hA (cs := [wHb ad ct, wKb cy ad nx, wSt cy ad 20 (Zh 0) (Fh 0), wSt cy ad 27 (Zh 1) (Fh 1), wSt cy ad 34 (Zh 2) (Fh 2), wSt cy ad 41 (Zh 3) (Fh 3), wSt cy ad 48 (Zh 4) (Fh 4), wSt cy ad 55 (Zh 5) (Fh 5), wSt cy ad 1 z f]) (nb := fun (u : Int × Int × (Nat → Nat → Int) × (Nat → Nat → Nat → Int32)) => [wHb ad u.2.1, wKb cy ad u.1, wSt cy ad 20 (u.2.2.1 0) (u.2.2.2 0), wSt cy ad 27 (u.2.2.1 1) (u.2.2.2 1), wSt cy ad 34 (u.2.2.1 2) (u.2.2.2 2), wSt cy ad 41 (u.2.2.1 3) (u.2.2.2 3), wSt cy ad 48 (u.2.2.1 4) (u.2.2.2 4), wSt cy ad 55 (u.2.2.1 5) (u.2.2.2 5), wSt cy ad 1 z f]) (nbs := fun (u : Int × Int × (Nat → Nat → Int) × (Nat → Nat → Nat → Int32)) => [wTop ad, wSt cy ad 1 z f, wHb ad u.2.1, wKb cy ad u.1, wSt cy ad 20 (u.2.2.1 0) (u.2.2.2 0), wSt cy ad 27 (u.2.2.1 1) (u.2.2.2 1), wSt cy ad 34 (u.2.2.1 2) (u.2.2.2 2), wSt cy ad 41 (u.2.2.1 3) (u.2.2.2 3), wSt cy ad 48 (u.2.2.1 4) (u.2.2.2 4), wSt cy ad 55 (u.2.2.1 5) (u.2.2.2 5), wTx cy ad tn tf]) [2, 3, 4, 5, 6, 7, 8, 9, 1] rfl rfl rfl (fun _ => rfl) (fun _ => rfl) (fun _ => rfl)) 8 1 rfl rfl rfl rfl hl.1 rfl (Nat.le_of_ble_eq_true rfl) dX4_takeLine_14 ⟨by decide, by decide⟩ (fun  u_2 H locs hw_2 hP hD hS => ?_)
  obtain ⟨nx1_2, ct1_2, Zh1_2, Fh1_2⟩ := u_2
  have hw_2 : RXH nx1_2 ct1_2 Zh1_2 Fh1_2 (pushH h M) := hw_2
  have hP : va_P D vwCl (List.flatten [wTop ad, wSt cy ad 1 z f, wHb ad ct1_2, wKb cy ad nx1_2, wSt cy ad 20 (Zh1_2 0) (Fh1_2 0), wSt cy ad 27 (Zh1_2 1) (Fh1_2 1), wSt cy ad 34 (Zh1_2 2) (Fh1_2 2), wSt cy ad 41 (Zh1_2 3) (Fh1_2 3), wSt cy ad 48 (Zh1_2 4) (Fh1_2 4), wSt cy ad 55 (Zh1_2 5) (Fh1_2 5), wTx cy ad tn tf]) H := hP
  have hD : va_D A (List.flatten [wTop ad, wSt cy ad 1 z f, wHb ad ct1_2, wKb cy ad nx1_2, wSt cy ad 20 (Zh1_2 0) (Fh1_2 0), wSt cy ad 27 (Zh1_2 1) (Fh1_2 1), wSt cy ad 34 (Zh1_2 2) (Fh1_2 2), wSt cy ad 41 (Zh1_2 3) (Fh1_2 3), wSt cy ad 48 (Zh1_2 4) (Fh1_2 4), wSt cy ad 55 (Zh1_2 5) (Fh1_2 5), wTx cy ad tn tf]) := hD
  refine lv_aload_n hx hb dX4_takeLine_17 rfl (lv_at hl 0 rfl) ?_
  refine lv_aload_n hx hb dX4_takeLine_18 rfl (lv_at hl 0 rfl) ?_
  refine va_get (D := D) (ci := 4) (v := .ref (ad 1)) (C := RX4) (T := TX4) (N := 7) hx hb hts hiX4 hown hK hP 0 rfl rfl 0 (by decide) (hts (.fieldLink RX4 10 "BackwardSearch" "state" "LBackwardSearch$State;") (by decide +kernel)) (fun _ h9 => h9) rfl dX4_takeLine_19 ?_
  refine va_getN (D := D) (ci := 3) (v := .ref (ad 2)) (C := RX3) (T := TX3) (N := 8) (host := RX4) hx hb hts hiX3 hown hK hP 1 rfl rfl 0 (by decide) (va_Nw.use rfl (hT.1 _ (List.mem_of_getElem? (i := 0) rfl))) (fun _ h9 => h9) rfl dX4_takeLine_22 ?_
  refine z_gVv (n := 1) (b := ad 0) (As := [.ref (ad 2)]) (rest := []) ⟨hx, hb, hml, hown, hts⟩ (c_X4_moveTextL l D cy ad z f tn tf tx (hX) (by first | assumption | omega)) gX4_takeLine_X4_moveText rfl (by decide +kernel) ⟨Nat.le_of_ble_eq_true rfl, Nat.le_of_ble_eq_true rfl⟩ hK hT hP hS (Fp.blocks hP hD hS hA (cs := [wTop ad, wSt cy ad 1 z f, wTx cy ad tn tf]) (nb := fun (u : (Nat → Int) × (Nat → Nat → Int32)) => [wTop ad, wSt cy ad 1 u.1 u.2, wTx cy ad 0 tf]) (nbs := fun (u : (Nat → Int) × (Nat → Nat → Int32)) => [wTop ad, wSt cy ad 1 u.1 u.2, wHb ad ct1_2, wKb cy ad nx1_2, wSt cy ad 20 (Zh1_2 0) (Fh1_2 0), wSt cy ad 27 (Zh1_2 1) (Fh1_2 1), wSt cy ad 34 (Zh1_2 2) (Fh1_2 2), wSt cy ad 41 (Zh1_2 3) (Fh1_2 3), wSt cy ad 48 (Zh1_2 4) (Fh1_2 4), wSt cy ad 55 (Zh1_2 5) (Fh1_2 5), wTx cy ad 0 tf]) [0, 1, 10] rfl rfl rfl (fun _ => rfl) (fun _ => rfl) (fun _ => rfl)) 0 4 rfl rfl rfl rfl hl.1 rfl (Nat.le_of_ble_eq_true rfl) dX4_takeLine_25 ⟨by decide, by decide⟩ (fun  u_3 H locs hw_3 hP hD hS => ?_)
  obtain ⟨z1_3, f1_3⟩ := u_3
  have hw_3 : Rep (z1_3 0) (f1_3 0) (tx.map (fun x => x - iI 97)) ∧ z1_3 1 = z 1 ∧ f1_3 1 = f 1 ∧ z1_3 3 = z 3 ∧ z1_3 4 = z 4 ∧ z1_3 5 = z 5 ∧ z1_3 6 = z 6 ∧ z1_3 7 = z 7 := hw_3
  have hP : va_P D vwCl (List.flatten [wTop ad, wSt cy ad 1 z1_3 f1_3, wHb ad ct1_2, wKb cy ad nx1_2, wSt cy ad 20 (Zh1_2 0) (Fh1_2 0), wSt cy ad 27 (Zh1_2 1) (Fh1_2 1), wSt cy ad 34 (Zh1_2 2) (Fh1_2 2), wSt cy ad 41 (Zh1_2 3) (Fh1_2 3), wSt cy ad 48 (Zh1_2 4) (Fh1_2 4), wSt cy ad 55 (Zh1_2 5) (Fh1_2 5), wTx cy ad 0 tf]) H := hP
  have hD : va_D A (List.flatten [wTop ad, wSt cy ad 1 z1_3 f1_3, wHb ad ct1_2, wKb cy ad nx1_2, wSt cy ad 20 (Zh1_2 0) (Fh1_2 0), wSt cy ad 27 (Zh1_2 1) (Fh1_2 1), wSt cy ad 34 (Zh1_2 2) (Fh1_2 2), wSt cy ad 41 (Zh1_2 3) (Fh1_2 3), wSt cy ad 48 (Zh1_2 4) (Fh1_2 4), wSt cy ad 55 (Zh1_2 5) (Fh1_2 5), wTx cy ad 0 tf]) := hD
  refine lv_aload_n hx hb dX4_takeLine_28 rfl (lv_at hl 0 rfl) ?_
  refine va_get (D := D) (ci := 4) (v := .ref (ad 1)) (C := RX4) (T := TX4) (N := 7) hx hb hts hiX4 hown hK hP 0 rfl rfl 0 (by decide) (hts (.fieldLink RX4 10 "BackwardSearch" "state" "LBackwardSearch$State;") (by decide +kernel)) (fun _ h9 => h9) rfl dX4_takeLine_29 ?_
  refine z_gVv (n := 0) (b := ad 1) (As := []) (rest := []) ⟨hx, hb, hml, hown, hts⟩ (c_X3_beginAnew l D cy (ad 1) (ad 2) (ad 4) (ad 6) (ad 7) (z1_3 2) (z1_3 3) (z1_3 4) (z1_3 5) (z1_3 6) (z1_3 7) ) gX4_takeLine_X3_beginAnew rfl (by decide +kernel) ⟨Nat.le_of_ble_eq_true rfl, Nat.le_of_ble_eq_true rfl⟩ hK hT hP hS (Fp.part hP hD hS hA (nbl := fun (u : Unit) => wSt cy ad 1 (zL [z1_3 0, z1_3 1, 0, (z1_3 3), (z1_3 4), 0, 0, 0]) f1_3) (nbs := fun (u : Unit) => [wTop ad, wSt cy ad 1 (zL [z1_3 0, z1_3 1, 0, (z1_3 3), (z1_3 4), 0, 0, 0]) f1_3, wHb ad ct1_2, wKb cy ad nx1_2, wSt cy ad 20 (Zh1_2 0) (Fh1_2 0), wSt cy ad 27 (Zh1_2 1) (Fh1_2 1), wSt cy ad 34 (Zh1_2 2) (Fh1_2 2), wSt cy ad 41 (Zh1_2 3) (Fh1_2 3), wSt cy ad 48 (Zh1_2 4) (Fh1_2 4), wSt cy ad 55 (Zh1_2 5) (Fh1_2 5), wTx cy ad 0 tf]) 1 rfl [0, 5] rfl rfl (fun _ => rfl) (fun _ => rfl) (fun _ => rfl)) 1 3 rfl rfl rfl rfl hl.1 rfl (Nat.le_of_ble_eq_true rfl) dX4_takeLine_32 ⟨by decide, by decide⟩ (fun  u_4 H locs hw_4 hP hD hS => ?_)
  have hw_4 : True := hw_4
  have hP : va_P D vwCl (List.flatten [wTop ad, wSt cy ad 1 (zL [z1_3 0, z1_3 1, 0, (z1_3 3), (z1_3 4), 0, 0, 0]) f1_3, wHb ad ct1_2, wKb cy ad nx1_2, wSt cy ad 20 (Zh1_2 0) (Fh1_2 0), wSt cy ad 27 (Zh1_2 1) (Fh1_2 1), wSt cy ad 34 (Zh1_2 2) (Fh1_2 2), wSt cy ad 41 (Zh1_2 3) (Fh1_2 3), wSt cy ad 48 (Zh1_2 4) (Fh1_2 4), wSt cy ad 55 (Zh1_2 5) (Fh1_2 5), wTx cy ad 0 tf]) H := hP
  have hD : va_D A (List.flatten [wTop ad, wSt cy ad 1 (zL [z1_3 0, z1_3 1, 0, (z1_3 3), (z1_3 4), 0, 0, 0]) f1_3, wHb ad ct1_2, wKb cy ad nx1_2, wSt cy ad 20 (Zh1_2 0) (Fh1_2 0), wSt cy ad 27 (Zh1_2 1) (Fh1_2 1), wSt cy ad 34 (Zh1_2 2) (Fh1_2 2), wSt cy ad 41 (Zh1_2 3) (Fh1_2 3), wSt cy ad 48 (Zh1_2 4) (Fh1_2 4), wSt cy ad 55 (Zh1_2 5) (Fh1_2 5), wTx cy ad 0 tf]) := hD
  refine lv_aload_n hx hb dX4_takeLine_35 rfl (lv_at hl 0 rfl) ?_
  refine va_get (D := D) (ci := 4) (v := .ref (ad 1)) (C := RX4) (T := TX4) (N := 7) hx hb hts hiX4 hown hK hP 0 rfl rfl 0 (by decide) (hts (.fieldLink RX4 10 "BackwardSearch" "state" "LBackwardSearch$State;") (by decide +kernel)) (fun _ h9 => h9) rfl dX4_takeLine_36 ?_
  refine va_getN (D := D) (ci := 3) (v := .ref (ad 2)) (C := RX3) (T := TX3) (N := 8) (host := RX4) hx hb hts hiX3 hown hK hP 1 rfl rfl 0 (by decide) (va_Nw.use rfl (hT.1 _ (List.mem_of_getElem? (i := 0) rfl))) (fun _ h9 => h9) rfl dX4_takeLine_39 ?_
  refine z_gVi (n := 0) (b := (ad 2)) (As := []) (rest := []) ⟨hx, hb, hml, hown, hts⟩ (c_X2_size l D cy (ad 2) (ad 3) (z1_3 0) ) gX4_takeLine_X2_size rfl (by decide +kernel) ⟨Nat.le_of_ble_eq_true rfl, Nat.le_of_ble_eq_true rfl⟩ hK hT hP hS (Fp.same hP hD hS hA [2] rfl rfl (fun _ => rfl)) 2 2 rfl rfl rfl rfl hl.1 rfl (Nat.le_of_ble_eq_true rfl) dX4_takeLine_42 ⟨by decide, by decide⟩ (fun r_5 u_5 H locs hw_5 hP hD hS => ?_)
  have hw_5 : r_5 = iI (z1_3 0) := hw_5
  have hP : va_P D vwCl (List.flatten [wTop ad, wSt cy ad 1 (zL [z1_3 0, z1_3 1, 0, (z1_3 3), (z1_3 4), 0, 0, 0]) f1_3, wHb ad ct1_2, wKb cy ad nx1_2, wSt cy ad 20 (Zh1_2 0) (Fh1_2 0), wSt cy ad 27 (Zh1_2 1) (Fh1_2 1), wSt cy ad 34 (Zh1_2 2) (Fh1_2 2), wSt cy ad 41 (Zh1_2 3) (Fh1_2 3), wSt cy ad 48 (Zh1_2 4) (Fh1_2 4), wSt cy ad 55 (Zh1_2 5) (Fh1_2 5), wTx cy ad 0 tf]) H := hP
  have hD : va_D A (List.flatten [wTop ad, wSt cy ad 1 (zL [z1_3 0, z1_3 1, 0, (z1_3 3), (z1_3 4), 0, 0, 0]) f1_3, wHb ad ct1_2, wKb cy ad nx1_2, wSt cy ad 20 (Zh1_2 0) (Fh1_2 0), wSt cy ad 27 (Zh1_2 1) (Fh1_2 1), wSt cy ad 34 (Zh1_2 2) (Fh1_2 2), wSt cy ad 41 (Zh1_2 3) (Fh1_2 3), wSt cy ad 48 (Zh1_2 4) (Fh1_2 4), wSt cy ad 55 (Zh1_2 5) (Fh1_2 5), wTx cy ad 0 tf]) := hD
  obtain rfl := hw_5
  exact x_iret hx hb hr hlocks hS ((zL [z1_3 0, z1_3 1, 0, (z1_3 3), (z1_3 4), 0, 0, 0]), f1_3, nx1_2, ct1_2, Zh1_2, Fh1_2) (show (errF tx 0 = -1 ∧ (tx.length : Int) ≤ 60) ∧ (iI (z1_3 0)) = iI (tx.length : Int) ∧ RS (zL [z1_3 0, z1_3 1, 0, (z1_3 3), (z1_3 4), 0, 0, 0]) f1_3 (mTakeL M tx) ∧ RXH nx1_2 ct1_2 Zh1_2 Fh1_2 (pushH h M) from ⟨⟨by omega, by omega⟩, congrArg iI (hw_3.1.1.trans (by rw [List.length_map])), RS_takeL hR hw_3, hw_2⟩) hP dX4_takeLine_45 (by decide) (by decide)
set_option maxHeartbeats 4000000 in
set_option maxRecDepth 100000 in
theorem c_X4_takeWord (l : Launch) (hfl : l.stackTraces = false) (D : va_G) (cy : Nat → ClassId) (ad : Nat → Nat) (z : Nat → Int) (f : Nat → Nat → Int32) (M : MS) (nx : Int) (ct : Int) (Zh : Nat → Nat → Int) (Fh : Nat → Nat → Nat → Int32) (h : List MS) (tn : Int) (tf : Nat → Int32) (tx : List Int32) (hR : RS z f M) (hM : MOk M) (hH : RXH nx ct Zh Fh h) (hX : Rep tn tf tx ∧ tx.length ≤ 80) : Xi l D cy yX4_takeWord wsX4_takeWord 7 113 1 [.ref (ad 0)] (List.flatten [wTop ad, wSt cy ad 1 z f, wHb ad ct, wKb cy ad nx, wSt cy ad 20 (Zh 0) (Fh 0), wSt cy ad 27 (Zh 1) (Fh 1), wSt cy ad 34 (Zh 2) (Fh 2), wSt cy ad 41 (Zh 3) (Fh 3), wSt cy ad 48 (Zh 4) (Fh 4), wSt cy ad 55 (Zh 5) (Fh 5), wTx cy ad tn tf]) (fun (r : Int32) (u : (Nat → Int) × (Nat → Nat → Int32) × Int × Int × (Nat → Nat → Int) × (Nat → Nat → Nat → Int32)) => (errF tx 0 = -1 ∧ (tx.length : Int) ≤ 16) ∧ r = iI (tx.length : Int) ∧ RS u.1 u.2.1 (mTakeW M tx) ∧ RXH u.2.2.1 u.2.2.2.1 u.2.2.2.2.1 u.2.2.2.2.2 (pushH h M)) (fun u : (Nat → Int) × (Nat → Nat → Int32) × Int × Int × (Nat → Nat → Int) × (Nat → Nat → Nat → Int32) => (List.flatten [wTop ad, wSt cy ad 1 u.1 u.2.1, wHb ad u.2.2.2.1, wKb cy ad u.2.2.1, wSt cy ad 20 (u.2.2.2.2.1 0) (u.2.2.2.2.2 0), wSt cy ad 27 (u.2.2.2.2.1 1) (u.2.2.2.2.2 1), wSt cy ad 34 (u.2.2.2.2.1 2) (u.2.2.2.2.2 2), wSt cy ad 41 (u.2.2.2.2.1 3) (u.2.2.2.2.2 3), wSt cy ad 48 (u.2.2.2.2.1 4) (u.2.2.2.2.2 4), wSt cy ad 55 (u.2.2.2.2.1 5) (u.2.2.2.2.2 5), wTx cy ad 0 tf])) (fun E => E = xISE ∧ ¬ (errF tx 0 = -1 ∧ (tx.length : Int) ≤ 16)) := by
  refine Xi_of (cc := cX4_takeWord) (maxL := 1) (ret := (some .int)) (by decide) rfl rfl ?_
  intro p e s m args below meth c A hx hb hr hts hown hlocks hml htab hP hK hD hT hC hZ hA ls hl
  have hS : va_S A s.heap s.heap [] := va_S.rf
  have hl : lv_has ls 1 [(0, .ref (ad 0))] := hl
  have hP : va_P D vwCl (List.flatten [wTop ad, wSt cy ad 1 z f, wHb ad ct, wKb cy ad nx, wSt cy ad 20 (Zh 0) (Fh 0), wSt cy ad 27 (Zh 1) (Fh 1), wSt cy ad 34 (Zh 2) (Fh 2), wSt cy ad 41 (Zh 3) (Fh 3), wSt cy ad 48 (Zh 4) (Fh 4), wSt cy ad 55 (Zh 5) (Fh 5), wTx cy ad tn tf]) s.heap := hP
  have hD : va_D A (List.flatten [wTop ad, wSt cy ad 1 z f, wHb ad ct, wKb cy ad nx, wSt cy ad 20 (Zh 0) (Fh 0), wSt cy ad 27 (Zh 1) (Fh 1), wSt cy ad 34 (Zh 2) (Fh 2), wSt cy ad 41 (Zh 3) (Fh 3), wSt cy ad 48 (Zh 4) (Fh 4), wSt cy ad 55 (Zh 5) (Fh 5), wTx cy ad tn tf]) := hD
  have hiX3 : ∀ w ∈ wsX30, w ∈ wsX4_takeWord := by decide +kernel
  have hiX4 : ∀ w ∈ wsX40, w ∈ wsX4_takeWord := by decide +kernel
  obtain ⟨r0, r1, r2, r3, r4, r5, r6, r7⟩ := id hR
  obtain ⟨o1, o2, o3, o4, o5, o6, o7, o8, o9, o10, o11, o12, o13, o14, o15⟩ := id hM
  have q0 := r0.1
  have q1 := r1.1
  have q2 := r2.1
  have htn := hX.1.1
  have htl := hX.2
  refine lv_aload_n hx hb dX4_takeWord_0 rfl (lv_at hl 0 rfl) ?_
  refine lv_bipush (v := iI 16) hx hb dX4_takeWord_1 (by decide +kernel) ?_
  refine x_gVv (n := 1) (b := ad 0) (As := [.int (iI 16)]) (rest := []) ⟨hx, hb, hml, hown, hts⟩ (c_X4_refuseTextUnlessLetters l hfl D cy ad tn tf tx (16 : Int) (hX) (by first | assumption | omega)) gX4_takeWord_X4_refuseTextUnlessLetters rfl (by decide +kernel) ⟨Nat.le_of_ble_eq_true rfl, Nat.le_of_ble_eq_true rfl⟩ hK hT hC hZ htab hlocks hP hS (Fp.same hP hD hS hA [0, 52, 53] rfl rfl (fun _ => rfl)) (fun _ => rfl) 0 4 rfl rfl rfl (fun E hE => hE) () rfl hl.1 rfl (Nat.le_of_ble_eq_true rfl) dX4_takeWord_3 ⟨by decide, by decide⟩ (by decide) (by decide) (fun  u_1 H locs hw_1 hP hD hS => ?_)
  have hw_1 : errF tx 0 = -1 ∧ (tx.length : Int) ≤ (16 : Int) := hw_1
  have hP : va_P D vwCl (List.flatten [wTop ad, wSt cy ad 1 z f, wHb ad ct, wKb cy ad nx, wSt cy ad 20 (Zh 0) (Fh 0), wSt cy ad 27 (Zh 1) (Fh 1), wSt cy ad 34 (Zh 2) (Fh 2), wSt cy ad 41 (Zh 3) (Fh 3), wSt cy ad 48 (Zh 4) (Fh 4), wSt cy ad 55 (Zh 5) (Fh 5), wTx cy ad tn tf]) H := hP
  have hD : va_D A (List.flatten [wTop ad, wSt cy ad 1 z f, wHb ad ct, wKb cy ad nx, wSt cy ad 20 (Zh 0) (Fh 0), wSt cy ad 27 (Zh 1) (Fh 1), wSt cy ad 34 (Zh 2) (Fh 2), wSt cy ad 41 (Zh 3) (Fh 3), wSt cy ad 48 (Zh 4) (Fh 4), wSt cy ad 55 (Zh 5) (Fh 5), wTx cy ad tn tf]) := hD
  refine lv_aload_n hx hb dX4_takeWord_6 rfl (lv_at hl 0 rfl) ?_
  refine va_get (D := D) (ci := 4) (v := .ref (ad 18)) (C := RX4) (T := TX4) (N := 7) hx hb hts hiX4 hown hK hP 0 rfl rfl 3 (by decide) (hts (.fieldLink RX4 29 "BackwardSearch" "history" "LBackwardSearch$History;") (by decide +kernel)) (fun _ h9 => h9) rfl dX4_takeWord_7 ?_
  refine lv_aload_n hx hb dX4_takeWord_10 rfl (lv_at hl 0 rfl) ?_
  refine va_get (D := D) (ci := 4) (v := .ref (ad 1)) (C := RX4) (T := TX4) (N := 7) hx hb hts hiX4 hown hK hP 0 rfl rfl 0 (by decide) (hts (.fieldLink RX4 10 "BackwardSearch" "state" "LBackwardSearch$State;") (by decide +kernel)) (fun _ h9 => h9) rfl dX4_takeWord_11 ?_
  refine z_gVv (n := 1) (b := ad 18) (As := [.ref (ad 1)]) (rest := []) ⟨hx, hb, hml, hown, hts⟩ (c_X1_keepA l D cy ad nx ct Zh Fh h z f M (hR) (hM) (hH)) gX4_takeWord_X1_keep rfl (by decide +kernel) ⟨Nat.le_of_ble_eq_true rfl, Nat.le_of_ble_eq_true rfl⟩ hK hT hP hS (Fp.blocks hP hD hS hA (cs := [wHb ad ct, wKb cy ad nx, wSt cy ad 20 (Zh 0) (Fh 0), wSt cy ad 27 (Zh 1) (Fh 1), wSt cy ad 34 (Zh 2) (Fh 2), wSt cy ad 41 (Zh 3) (Fh 3), wSt cy ad 48 (Zh 4) (Fh 4), wSt cy ad 55 (Zh 5) (Fh 5), wSt cy ad 1 z f]) (nb := fun (u : Int × Int × (Nat → Nat → Int) × (Nat → Nat → Nat → Int32)) => [wHb ad u.2.1, wKb cy ad u.1, wSt cy ad 20 (u.2.2.1 0) (u.2.2.2 0), wSt cy ad 27 (u.2.2.1 1) (u.2.2.2 1), wSt cy ad 34 (u.2.2.1 2) (u.2.2.2 2), wSt cy ad 41 (u.2.2.1 3) (u.2.2.2 3), wSt cy ad 48 (u.2.2.1 4) (u.2.2.2 4), wSt cy ad 55 (u.2.2.1 5) (u.2.2.2 5), wSt cy ad 1 z f]) (nbs := fun (u : Int × Int × (Nat → Nat → Int) × (Nat → Nat → Nat → Int32)) => [wTop ad, wSt cy ad 1 z f, wHb ad u.2.1, wKb cy ad u.1, wSt cy ad 20 (u.2.2.1 0) (u.2.2.2 0), wSt cy ad 27 (u.2.2.1 1) (u.2.2.2 1), wSt cy ad 34 (u.2.2.1 2) (u.2.2.2 2), wSt cy ad 41 (u.2.2.1 3) (u.2.2.2 3), wSt cy ad 48 (u.2.2.1 4) (u.2.2.2 4), wSt cy ad 55 (u.2.2.1 5) (u.2.2.2 5), wTx cy ad tn tf]) [2, 3, 4, 5, 6, 7, 8, 9, 1] rfl rfl rfl (fun _ => rfl) (fun _ => rfl) (fun _ => rfl)) 8 1 rfl rfl rfl rfl hl.1 rfl (Nat.le_of_ble_eq_true rfl) dX4_takeWord_14 ⟨by decide, by decide⟩ (fun  u_2 H locs hw_2 hP hD hS => ?_)
  obtain ⟨nx1_2, ct1_2, Zh1_2, Fh1_2⟩ := u_2
  have hw_2 : RXH nx1_2 ct1_2 Zh1_2 Fh1_2 (pushH h M) := hw_2
  have hP : va_P D vwCl (List.flatten [wTop ad, wSt cy ad 1 z f, wHb ad ct1_2, wKb cy ad nx1_2, wSt cy ad 20 (Zh1_2 0) (Fh1_2 0), wSt cy ad 27 (Zh1_2 1) (Fh1_2 1), wSt cy ad 34 (Zh1_2 2) (Fh1_2 2), wSt cy ad 41 (Zh1_2 3) (Fh1_2 3), wSt cy ad 48 (Zh1_2 4) (Fh1_2 4), wSt cy ad 55 (Zh1_2 5) (Fh1_2 5), wTx cy ad tn tf]) H := hP
  have hD : va_D A (List.flatten [wTop ad, wSt cy ad 1 z f, wHb ad ct1_2, wKb cy ad nx1_2, wSt cy ad 20 (Zh1_2 0) (Fh1_2 0), wSt cy ad 27 (Zh1_2 1) (Fh1_2 1), wSt cy ad 34 (Zh1_2 2) (Fh1_2 2), wSt cy ad 41 (Zh1_2 3) (Fh1_2 3), wSt cy ad 48 (Zh1_2 4) (Fh1_2 4), wSt cy ad 55 (Zh1_2 5) (Fh1_2 5), wTx cy ad tn tf]) := hD
  refine lv_aload_n hx hb dX4_takeWord_17 rfl (lv_at hl 0 rfl) ?_
  refine lv_aload_n hx hb dX4_takeWord_18 rfl (lv_at hl 0 rfl) ?_
  refine va_get (D := D) (ci := 4) (v := .ref (ad 1)) (C := RX4) (T := TX4) (N := 7) hx hb hts hiX4 hown hK hP 0 rfl rfl 0 (by decide) (hts (.fieldLink RX4 10 "BackwardSearch" "state" "LBackwardSearch$State;") (by decide +kernel)) (fun _ h9 => h9) rfl dX4_takeWord_19 ?_
  refine va_getN (D := D) (ci := 3) (v := .ref (ad 4)) (C := RX3) (T := TX3) (N := 8) (host := RX4) hx hb hts hiX3 hown hK hP 1 rfl rfl 1 (by decide) (va_Nw.use rfl (hT.1 _ (List.mem_of_getElem? (i := 1) rfl))) (fun _ h9 => h9) rfl dX4_takeWord_22 ?_
  refine z_gVv (n := 1) (b := ad 0) (As := [.ref (ad 4)]) (rest := []) ⟨hx, hb, hml, hown, hts⟩ (c_X4_moveTextW l D cy ad z f tn tf tx (hX) (by first | assumption | omega)) gX4_takeWord_X4_moveText rfl (by decide +kernel) ⟨Nat.le_of_ble_eq_true rfl, Nat.le_of_ble_eq_true rfl⟩ hK hT hP hS (Fp.blocks hP hD hS hA (cs := [wTop ad, wSt cy ad 1 z f, wTx cy ad tn tf]) (nb := fun (u : (Nat → Int) × (Nat → Nat → Int32)) => [wTop ad, wSt cy ad 1 u.1 u.2, wTx cy ad 0 tf]) (nbs := fun (u : (Nat → Int) × (Nat → Nat → Int32)) => [wTop ad, wSt cy ad 1 u.1 u.2, wHb ad ct1_2, wKb cy ad nx1_2, wSt cy ad 20 (Zh1_2 0) (Fh1_2 0), wSt cy ad 27 (Zh1_2 1) (Fh1_2 1), wSt cy ad 34 (Zh1_2 2) (Fh1_2 2), wSt cy ad 41 (Zh1_2 3) (Fh1_2 3), wSt cy ad 48 (Zh1_2 4) (Fh1_2 4), wSt cy ad 55 (Zh1_2 5) (Fh1_2 5), wTx cy ad 0 tf]) [0, 1, 10] rfl rfl rfl (fun _ => rfl) (fun _ => rfl) (fun _ => rfl)) 0 4 rfl rfl rfl rfl hl.1 rfl (Nat.le_of_ble_eq_true rfl) dX4_takeWord_25 ⟨by decide, by decide⟩ (fun  u_3 H locs hw_3 hP hD hS => ?_)
  obtain ⟨z1_3, f1_3⟩ := u_3
  have hw_3 : Rep (z1_3 1) (f1_3 1) (tx.map (fun x => x - iI 97)) ∧ z1_3 0 = z 0 ∧ f1_3 0 = f 0 ∧ z1_3 3 = z 3 ∧ z1_3 4 = z 4 ∧ z1_3 5 = z 5 ∧ z1_3 6 = z 6 ∧ z1_3 7 = z 7 := hw_3
  have hP : va_P D vwCl (List.flatten [wTop ad, wSt cy ad 1 z1_3 f1_3, wHb ad ct1_2, wKb cy ad nx1_2, wSt cy ad 20 (Zh1_2 0) (Fh1_2 0), wSt cy ad 27 (Zh1_2 1) (Fh1_2 1), wSt cy ad 34 (Zh1_2 2) (Fh1_2 2), wSt cy ad 41 (Zh1_2 3) (Fh1_2 3), wSt cy ad 48 (Zh1_2 4) (Fh1_2 4), wSt cy ad 55 (Zh1_2 5) (Fh1_2 5), wTx cy ad 0 tf]) H := hP
  have hD : va_D A (List.flatten [wTop ad, wSt cy ad 1 z1_3 f1_3, wHb ad ct1_2, wKb cy ad nx1_2, wSt cy ad 20 (Zh1_2 0) (Fh1_2 0), wSt cy ad 27 (Zh1_2 1) (Fh1_2 1), wSt cy ad 34 (Zh1_2 2) (Fh1_2 2), wSt cy ad 41 (Zh1_2 3) (Fh1_2 3), wSt cy ad 48 (Zh1_2 4) (Fh1_2 4), wSt cy ad 55 (Zh1_2 5) (Fh1_2 5), wTx cy ad 0 tf]) := hD
  refine lv_aload_n hx hb dX4_takeWord_28 rfl (lv_at hl 0 rfl) ?_
  refine va_get (D := D) (ci := 4) (v := .ref (ad 1)) (C := RX4) (T := TX4) (N := 7) hx hb hts hiX4 hown hK hP 0 rfl rfl 0 (by decide) (hts (.fieldLink RX4 10 "BackwardSearch" "state" "LBackwardSearch$State;") (by decide +kernel)) (fun _ h9 => h9) rfl dX4_takeWord_29 ?_
  refine z_gVv (n := 0) (b := ad 1) (As := []) (rest := []) ⟨hx, hb, hml, hown, hts⟩ (c_X3_beginAnew l D cy (ad 1) (ad 2) (ad 4) (ad 6) (ad 7) (z1_3 2) (z1_3 3) (z1_3 4) (z1_3 5) (z1_3 6) (z1_3 7) ) gX4_takeWord_X3_beginAnew rfl (by decide +kernel) ⟨Nat.le_of_ble_eq_true rfl, Nat.le_of_ble_eq_true rfl⟩ hK hT hP hS (Fp.part hP hD hS hA (nbl := fun (u : Unit) => wSt cy ad 1 (zL [z1_3 0, z1_3 1, 0, (z1_3 3), (z1_3 4), 0, 0, 0]) f1_3) (nbs := fun (u : Unit) => [wTop ad, wSt cy ad 1 (zL [z1_3 0, z1_3 1, 0, (z1_3 3), (z1_3 4), 0, 0, 0]) f1_3, wHb ad ct1_2, wKb cy ad nx1_2, wSt cy ad 20 (Zh1_2 0) (Fh1_2 0), wSt cy ad 27 (Zh1_2 1) (Fh1_2 1), wSt cy ad 34 (Zh1_2 2) (Fh1_2 2), wSt cy ad 41 (Zh1_2 3) (Fh1_2 3), wSt cy ad 48 (Zh1_2 4) (Fh1_2 4), wSt cy ad 55 (Zh1_2 5) (Fh1_2 5), wTx cy ad 0 tf]) 1 rfl [0, 5] rfl rfl (fun _ => rfl) (fun _ => rfl) (fun _ => rfl)) 1 3 rfl rfl rfl rfl hl.1 rfl (Nat.le_of_ble_eq_true rfl) dX4_takeWord_32 ⟨by decide, by decide⟩ (fun  u_4 H locs hw_4 hP hD hS => ?_)
  have hw_4 : True := hw_4
  have hP : va_P D vwCl (List.flatten [wTop ad, wSt cy ad 1 (zL [z1_3 0, z1_3 1, 0, (z1_3 3), (z1_3 4), 0, 0, 0]) f1_3, wHb ad ct1_2, wKb cy ad nx1_2, wSt cy ad 20 (Zh1_2 0) (Fh1_2 0), wSt cy ad 27 (Zh1_2 1) (Fh1_2 1), wSt cy ad 34 (Zh1_2 2) (Fh1_2 2), wSt cy ad 41 (Zh1_2 3) (Fh1_2 3), wSt cy ad 48 (Zh1_2 4) (Fh1_2 4), wSt cy ad 55 (Zh1_2 5) (Fh1_2 5), wTx cy ad 0 tf]) H := hP
  have hD : va_D A (List.flatten [wTop ad, wSt cy ad 1 (zL [z1_3 0, z1_3 1, 0, (z1_3 3), (z1_3 4), 0, 0, 0]) f1_3, wHb ad ct1_2, wKb cy ad nx1_2, wSt cy ad 20 (Zh1_2 0) (Fh1_2 0), wSt cy ad 27 (Zh1_2 1) (Fh1_2 1), wSt cy ad 34 (Zh1_2 2) (Fh1_2 2), wSt cy ad 41 (Zh1_2 3) (Fh1_2 3), wSt cy ad 48 (Zh1_2 4) (Fh1_2 4), wSt cy ad 55 (Zh1_2 5) (Fh1_2 5), wTx cy ad 0 tf]) := hD
  refine lv_aload_n hx hb dX4_takeWord_35 rfl (lv_at hl 0 rfl) ?_
  refine va_get (D := D) (ci := 4) (v := .ref (ad 1)) (C := RX4) (T := TX4) (N := 7) hx hb hts hiX4 hown hK hP 0 rfl rfl 0 (by decide) (hts (.fieldLink RX4 10 "BackwardSearch" "state" "LBackwardSearch$State;") (by decide +kernel)) (fun _ h9 => h9) rfl dX4_takeWord_36 ?_
  refine va_getN (D := D) (ci := 3) (v := .ref (ad 4)) (C := RX3) (T := TX3) (N := 8) (host := RX4) hx hb hts hiX3 hown hK hP 1 rfl rfl 1 (by decide) (va_Nw.use rfl (hT.1 _ (List.mem_of_getElem? (i := 1) rfl))) (fun _ h9 => h9) rfl dX4_takeWord_39 ?_
  refine z_gVi (n := 0) (b := (ad 4)) (As := []) (rest := []) ⟨hx, hb, hml, hown, hts⟩ (c_X2_size l D cy (ad 4) (ad 5) (z1_3 1) ) gX4_takeWord_X2_size rfl (by decide +kernel) ⟨Nat.le_of_ble_eq_true rfl, Nat.le_of_ble_eq_true rfl⟩ hK hT hP hS (Fp.same hP hD hS hA [4] rfl rfl (fun _ => rfl)) 4 2 rfl rfl rfl rfl hl.1 rfl (Nat.le_of_ble_eq_true rfl) dX4_takeWord_42 ⟨by decide, by decide⟩ (fun r_5 u_5 H locs hw_5 hP hD hS => ?_)
  have hw_5 : r_5 = iI (z1_3 1) := hw_5
  have hP : va_P D vwCl (List.flatten [wTop ad, wSt cy ad 1 (zL [z1_3 0, z1_3 1, 0, (z1_3 3), (z1_3 4), 0, 0, 0]) f1_3, wHb ad ct1_2, wKb cy ad nx1_2, wSt cy ad 20 (Zh1_2 0) (Fh1_2 0), wSt cy ad 27 (Zh1_2 1) (Fh1_2 1), wSt cy ad 34 (Zh1_2 2) (Fh1_2 2), wSt cy ad 41 (Zh1_2 3) (Fh1_2 3), wSt cy ad 48 (Zh1_2 4) (Fh1_2 4), wSt cy ad 55 (Zh1_2 5) (Fh1_2 5), wTx cy ad 0 tf]) H := hP
  have hD : va_D A (List.flatten [wTop ad, wSt cy ad 1 (zL [z1_3 0, z1_3 1, 0, (z1_3 3), (z1_3 4), 0, 0, 0]) f1_3, wHb ad ct1_2, wKb cy ad nx1_2, wSt cy ad 20 (Zh1_2 0) (Fh1_2 0), wSt cy ad 27 (Zh1_2 1) (Fh1_2 1), wSt cy ad 34 (Zh1_2 2) (Fh1_2 2), wSt cy ad 41 (Zh1_2 3) (Fh1_2 3), wSt cy ad 48 (Zh1_2 4) (Fh1_2 4), wSt cy ad 55 (Zh1_2 5) (Fh1_2 5), wTx cy ad 0 tf]) := hD
  obtain rfl := hw_5
  exact x_iret hx hb hr hlocks hS ((zL [z1_3 0, z1_3 1, 0, (z1_3 3), (z1_3 4), 0, 0, 0]), f1_3, nx1_2, ct1_2, Zh1_2, Fh1_2) (show (errF tx 0 = -1 ∧ (tx.length : Int) ≤ 16) ∧ (iI (z1_3 1)) = iI (tx.length : Int) ∧ RS (zL [z1_3 0, z1_3 1, 0, (z1_3 3), (z1_3 4), 0, 0, 0]) f1_3 (mTakeW M tx) ∧ RXH nx1_2 ct1_2 Zh1_2 Fh1_2 (pushH h M) from ⟨⟨by omega, by omega⟩, congrArg iI (hw_3.1.1.trans (by rw [List.length_map])), RS_takeW hR hw_3, hw_2⟩) hP dX4_takeWord_45 (by decide) (by decide)
set_option maxHeartbeats 4000000 in
set_option maxRecDepth 100000 in
theorem c_X4_saveState (l : Launch) (hfl : l.stackTraces = false) (D : va_G) (cy : Nat → ClassId) (ad : Nat → Nat) (z : Nat → Int) (f : Nat → Nat → Int32) (M : MS) (Zs : Nat → Nat → Int) (Fs : Nat → Nat → Nat → Int32) (sv : Nat → Int32) (sl : Nat → Option MS) (x : Int) (hR : RS z f M) (hM : MOk M) (hSl : RXS sv Zs Fs sl) (hx1 : -2147483648 ≤ x ∧ x < 2147483648) : Xi l D cy yX4_saveState wsX4_saveState 7 112 1 [.ref (ad 0), .int (iI x)] (List.flatten [wTop ad, wSt cy ad 1 z f, wSa cy ad, wSt cy ad 63 (Zs 0) (Fs 0), wSt cy ad 70 (Zs 1) (Fs 1), wSv cy ad sv]) (fun (r : Int32) (u : (Nat → Nat → Int) × (Nat → Nat → Nat → Int32) × (Nat → Int32)) => (x = 0 ∨ x = 1) ∧ r = iI (M.1.length : Int) ∧ RXS u.2.2 u.1 u.2.1 (fun j => if j = x.toNat then some M else sl j)) (fun u : (Nat → Nat → Int) × (Nat → Nat → Nat → Int32) × (Nat → Int32) => (List.flatten [wTop ad, wSt cy ad 1 z f, wSa cy ad, wSt cy ad 63 (u.1 0) (u.2.1 0), wSt cy ad 70 (u.1 1) (u.2.1 1), wSv cy ad u.2.2])) (fun E => E = xIOB ∧ ¬ (x = 0 ∨ x = 1)) := by
  refine Xi_of (cc := cX4_saveState) (maxL := 2) (ret := (some .int)) (by decide) rfl rfl ?_
  intro p e s m args below meth c A hx hb hr hts hown hlocks hml htab hP hK hD hT hC hZ hA ls hl
  have hS : va_S A s.heap s.heap [] := va_S.rf
  have hl : lv_has ls 2 [(0, .ref (ad 0)), (1, .int (iI x))] := hl
  have hP : va_P D vwCl (List.flatten [wTop ad, wSt cy ad 1 z f, wSa cy ad, wSt cy ad 63 (Zs 0) (Fs 0), wSt cy ad 70 (Zs 1) (Fs 1), wSv cy ad sv]) s.heap := hP
  have hD : va_D A (List.flatten [wTop ad, wSt cy ad 1 z f, wSa cy ad, wSt cy ad 63 (Zs 0) (Fs 0), wSt cy ad 70 (Zs 1) (Fs 1), wSv cy ad sv]) := hD
  have hiX3 : ∀ w ∈ wsX30, w ∈ wsX4_saveState := by decide +kernel
  have hiX4 : ∀ w ∈ wsX40, w ∈ wsX4_saveState := by decide +kernel
  obtain ⟨r0, r1, r2, r3, r4, r5, r6, r7⟩ := id hR
  obtain ⟨o1, o2, o3, o4, o5, o6, o7, o8, o9, o10, o11, o12, o13, o14, o15⟩ := id hM
  have q0 := r0.1
  have q1 := r1.1
  have q2 := r2.1
  refine lv_iload_n hx hb dX4_saveState_0 rfl (lv_at hl 1 rfl) ?_
  refine x_gSv (n := 1) (As := [.int (iI x)]) (rest := []) ⟨hx, hb, hml, hown, hts⟩ (c_X4_refuseUnlessSlot l hfl D cy x (by first | assumption | omega)) gX4_saveState_X4_refuseUnlessSlot rfl (by decide +kernel) ⟨Nat.le_of_ble_eq_true rfl, Nat.le_of_ble_eq_true rfl⟩ hK hT hC hZ htab hlocks hS (Fp.same hP hD hS hA [] rfl rfl (fun _ => rfl)) (fun _ => rfl) (fun E hE => hE) () rfl hl.1 rfl (Nat.le_of_ble_eq_true rfl) dX4_saveState_1 ⟨by decide, by decide⟩ (by decide) (by decide) (fun  u_1 H locs hw_1 hP hD hS => ?_)
  have hw_1 : x = 0 ∨ x = 1 := hw_1
  have hP : va_P D vwCl (List.flatten [wTop ad, wSt cy ad 1 z f, wSa cy ad, wSt cy ad 63 (Zs 0) (Fs 0), wSt cy ad 70 (Zs 1) (Fs 1), wSv cy ad sv]) H := hP
  have hD : va_D A (List.flatten [wTop ad, wSt cy ad 1 z f, wSa cy ad, wSt cy ad 63 (Zs 0) (Fs 0), wSt cy ad 70 (Zs 1) (Fs 1), wSv cy ad sv]) := hD
  rcases hw_1 with hx0 | hx0
  · --
    refine lv_aload_n hx hb dX4_saveState_4 rfl (lv_at hl 0 rfl) ?_
    refine va_get (D := D) (ci := 4) (v := .ref (ad 62)) (C := RX4) (T := TX4) (N := 7) hx hb hts hiX4 hown hK hP 0 rfl rfl 4 (by decide) (hts (.fieldLink RX4 33 "BackwardSearch" "slots" "[LBackwardSearch$State;") (by decide +kernel)) (fun _ h9 => h9) rfl dX4_saveState_5 ?_
    refine lv_iload_n hx hb dX4_saveState_8 rfl (lv_at hl 1 rfl) ?_
    refine z_aldq (b := (ad 63)) hx hb hK hP 8 rfl (by omega) (by omega) (by omega) (by rw [hx0]; rfl) dX4_saveState_9 ?_
    refine lv_aload_n hx hb dX4_saveState_10 rfl (lv_at hl 0 rfl) ?_
    refine va_get (D := D) (ci := 4) (v := .ref (ad 1)) (C := RX4) (T := TX4) (N := 7) hx hb hts hiX4 hown hK hP 0 rfl rfl 0 (by decide) (hts (.fieldLink RX4 10 "BackwardSearch" "state" "LBackwardSearch$State;") (by decide +kernel)) (fun _ h9 => h9) rfl dX4_saveState_11 ?_
    refine z_gVv (n := 1) (b := (ad 63)) (As := [.ref (ad 1)]) (rest := []) ⟨hx, hb, hml, hown, hts⟩ (c_X3_copy l D cy (ad 63) (ad 64) (ad 65) (ad 66) (ad 67) (ad 68) (ad 69) ((Zs 0) 0) ((Fs 0) 0) ((Zs 0) 1) ((Fs 0) 1) ((Zs 0) 2) ((Fs 0) 2) ((Zs 0) 3) ((Zs 0) 4) ((Zs 0) 5) ((Zs 0) 6) ((Zs 0) 7) (ad 1) (ad 2) (ad 3) (ad 4) (ad 5) (ad 6) (ad 7) (z 0) (f 0) (z 1) (f 1) (z 2) (f 2) (z 3) (z 4) (z 5) (z 6) (z 7) (by first | assumption | omega)) gX4_saveState_X3_copy rfl (by decide +kernel) ⟨Nat.le_of_ble_eq_true rfl, Nat.le_of_ble_eq_true rfl⟩ hK hT hP hS (Fp.blocks hP hD hS hA (cs := [wSt cy ad 63 (Zs 0) (Fs 0), wSt cy ad 1 z f]) (nb := fun (u : (Nat → Int32) × (Nat → Int32) × (Nat → Int32)) => [wSt cy ad 63 (zL [(z 0), (z 1), (z 2), (z 3), (z 4), (z 5), (z 6), (z 7)]) (fL [u.1, u.2.1, u.2.2]), wSt cy ad 1 (zL [(z 0), (z 1), (z 2), (z 3), (z 4), (z 5), (z 6), (z 7)]) (fL [(f 0), (f 1), (f 2)])]) (nbs := fun (u : (Nat → Int32) × (Nat → Int32) × (Nat → Int32)) => [wTop ad, wSt cy ad 1 (zL [(z 0), (z 1), (z 2), (z 3), (z 4), (z 5), (z 6), (z 7)]) (fL [(f 0), (f 1), (f 2)]), wSa cy ad, wSt cy ad 63 (zL [(z 0), (z 1), (z 2), (z 3), (z 4), (z 5), (z 6), (z 7)]) (fL [u.1, u.2.1, u.2.2]), wSt cy ad 70 (Zs 1) (Fs 1), wSv cy ad sv]) [3, 1] rfl rfl rfl (fun _ => rfl) (fun _ => rfl) (fun _ => rfl)) 9 3 rfl rfl rfl rfl hl.1 rfl (Nat.le_of_ble_eq_true rfl) dX4_saveState_14 ⟨by decide, by decide⟩ (fun  u_2 H locs hw_2 hP hD hS => ?_)
    obtain ⟨Gl_2, Gw_2, Gf_2⟩ := u_2
    have hw_2 : (∀ j : Nat, (j : Int) < (z 0) → Gl_2 j = (f 0) j) ∧ (∀ j : Nat, (j : Int) < (z 1) → Gw_2 j = (f 1) j) ∧ ∀ j : Nat, (j : Int) < (z 2) → Gf_2 j = (f 2) j := hw_2
    have hP : va_P D vwCl (List.flatten [wTop ad, wSt cy ad 1 (zL [(z 0), (z 1), (z 2), (z 3), (z 4), (z 5), (z 6), (z 7)]) (fL [(f 0), (f 1), (f 2)]), wSa cy ad, wSt cy ad 63 (zL [(z 0), (z 1), (z 2), (z 3), (z 4), (z 5), (z 6), (z 7)]) (fL [Gl_2, Gw_2, Gf_2]), wSt cy ad 70 (Zs 1) (Fs 1), wSv cy ad sv]) H := hP
    have hD : va_D A (List.flatten [wTop ad, wSt cy ad 1 (zL [(z 0), (z 1), (z 2), (z 3), (z 4), (z 5), (z 6), (z 7)]) (fL [(f 0), (f 1), (f 2)]), wSa cy ad, wSt cy ad 63 (zL [(z 0), (z 1), (z 2), (z 3), (z 4), (z 5), (z 6), (z 7)]) (fL [Gl_2, Gw_2, Gf_2]), wSt cy ad 70 (Zs 1) (Fs 1), wSv cy ad sv]) := hD
    refine lv_aload_n hx hb dX4_saveState_17 rfl (lv_at hl 0 rfl) ?_
    refine va_get (D := D) (ci := 4) (v := .ref (ad 77)) (C := RX4) (T := TX4) (N := 7) hx hb hts hiX4 hown hK hP 0 rfl rfl 5 (by decide) (hts (.fieldLink RX4 37 "BackwardSearch" "saved" "[Z") (by decide +kernel)) (fun _ h9 => h9) rfl dX4_saveState_18 ?_
    refine lv_iload_n hx hb dX4_saveState_21 rfl (lv_at hl 1 rfl) ?_
    refine lv_iconst (v := iI 1) hx hb dX4_saveState_22 rfl ?_
    refine z_zast hx hb hK hP hD hS 23 rfl (by omega) (by omega) (by omega) (by decide +kernel) dX4_saveState_23 (fun H locs hP hD hS => ?_)
    have hP : va_P D vwCl (List.flatten [wTop ad, wSt cy ad 1 (zL [(z 0), (z 1), (z 2), (z 3), (z 4), (z 5), (z 6), (z 7)]) (fL [(f 0), (f 1), (f 2)]), wSa cy ad, wSt cy ad 63 (zL [(z 0), (z 1), (z 2), (z 3), (z 4), (z 5), (z 6), (z 7)]) (fL [Gl_2, Gw_2, Gf_2]), wSt cy ad 70 (Zs 1) (Fs 1), wSv cy ad (upd sv x.toNat (iI 1))]) H := hP
    have hD : va_D A (List.flatten [wTop ad, wSt cy ad 1 (zL [(z 0), (z 1), (z 2), (z 3), (z 4), (z 5), (z 6), (z 7)]) (fL [(f 0), (f 1), (f 2)]), wSa cy ad, wSt cy ad 63 (zL [(z 0), (z 1), (z 2), (z 3), (z 4), (z 5), (z 6), (z 7)]) (fL [Gl_2, Gw_2, Gf_2]), wSt cy ad 70 (Zs 1) (Fs 1), wSv cy ad (upd sv x.toNat (iI 1))]) := hD
    refine lv_aload_n hx hb dX4_saveState_24 rfl (lv_at hl 0 rfl) ?_
    refine va_get (D := D) (ci := 4) (v := .ref (ad 1)) (C := RX4) (T := TX4) (N := 7) hx hb hts hiX4 hown hK hP 0 rfl rfl 0 (by decide) (hts (.fieldLink RX4 10 "BackwardSearch" "state" "LBackwardSearch$State;") (by decide +kernel)) (fun _ h9 => h9) rfl dX4_saveState_25 ?_
    refine va_getN (D := D) (ci := 3) (v := .ref (ad 2)) (C := RX3) (T := TX3) (N := 8) (host := RX4) hx hb hts hiX3 hown hK hP 1 rfl rfl 0 (by decide) (va_Nw.use rfl (hT.1 _ (List.mem_of_getElem? (i := 0) rfl))) (fun _ h9 => h9) rfl dX4_saveState_28 ?_
    refine z_gVi (n := 0) (b := (ad 2)) (As := []) (rest := []) ⟨hx, hb, hml, hown, hts⟩ (c_X2_size l D cy (ad 2) (ad 3) (z 0) ) gX4_saveState_X2_size rfl (by decide +kernel) ⟨Nat.le_of_ble_eq_true rfl, Nat.le_of_ble_eq_true rfl⟩ hK hT hP hS (Fp.same hP hD hS hA [2] rfl rfl (fun _ => rfl)) 2 2 rfl rfl rfl rfl hl.1 rfl (Nat.le_of_ble_eq_true rfl) dX4_saveState_31 ⟨by decide, by decide⟩ (fun r_3 u_3 H locs hw_3 hP hD hS => ?_)
    have hw_3 : r_3 = iI (z 0) := hw_3
    have hP : va_P D vwCl (List.flatten [wTop ad, wSt cy ad 1 (zL [(z 0), (z 1), (z 2), (z 3), (z 4), (z 5), (z 6), (z 7)]) (fL [(f 0), (f 1), (f 2)]), wSa cy ad, wSt cy ad 63 (zL [(z 0), (z 1), (z 2), (z 3), (z 4), (z 5), (z 6), (z 7)]) (fL [Gl_2, Gw_2, Gf_2]), wSt cy ad 70 (Zs 1) (Fs 1), wSv cy ad (upd sv x.toNat (iI 1))]) H := hP
    have hD : va_D A (List.flatten [wTop ad, wSt cy ad 1 (zL [(z 0), (z 1), (z 2), (z 3), (z 4), (z 5), (z 6), (z 7)]) (fL [(f 0), (f 1), (f 2)]), wSa cy ad, wSt cy ad 63 (zL [(z 0), (z 1), (z 2), (z 3), (z 4), (z 5), (z 6), (z 7)]) (fL [Gl_2, Gw_2, Gf_2]), wSt cy ad 70 (Zs 1) (Fs 1), wSv cy ad (upd sv x.toNat (iI 1))]) := hD
    obtain rfl := hw_3
    exact x_iret hx hb hr hlocks hS (zset Zs 0 z, zset Fs 0 ((fL [Gl_2, Gw_2, Gf_2])), upd sv x.toNat (iI 1)) (show (x = 0 ∨ x = 1) ∧ (iI (z 0)) = iI (M.1.length : Int) ∧ RXS (upd sv x.toNat (iI 1)) (zset Zs 0 z) (zset Fs 0 ((fL [Gl_2, Gw_2, Gf_2]))) (fun j => if j = x.toNat then some M else sl j) from ⟨by omega, congrArg iI q0, RXS_save (k := 0) hSl (hR.cg hw_2) hM (by omega)⟩) hP dX4_saveState_34 (by decide) (by decide)
  · --
    refine lv_aload_n hx hb dX4_saveState_4 rfl (lv_at hl 0 rfl) ?_
    refine va_get (D := D) (ci := 4) (v := .ref (ad 62)) (C := RX4) (T := TX4) (N := 7) hx hb hts hiX4 hown hK hP 0 rfl rfl 4 (by decide) (hts (.fieldLink RX4 33 "BackwardSearch" "slots" "[LBackwardSearch$State;") (by decide +kernel)) (fun _ h9 => h9) rfl dX4_saveState_5 ?_
    refine lv_iload_n hx hb dX4_saveState_8 rfl (lv_at hl 1 rfl) ?_
    refine z_aldq (b := (ad 70)) hx hb hK hP 8 rfl (by omega) (by omega) (by omega) (by rw [hx0]; rfl) dX4_saveState_9 ?_
    refine lv_aload_n hx hb dX4_saveState_10 rfl (lv_at hl 0 rfl) ?_
    refine va_get (D := D) (ci := 4) (v := .ref (ad 1)) (C := RX4) (T := TX4) (N := 7) hx hb hts hiX4 hown hK hP 0 rfl rfl 0 (by decide) (hts (.fieldLink RX4 10 "BackwardSearch" "state" "LBackwardSearch$State;") (by decide +kernel)) (fun _ h9 => h9) rfl dX4_saveState_11 ?_
    refine z_gVv (n := 1) (b := (ad 70)) (As := [.ref (ad 1)]) (rest := []) ⟨hx, hb, hml, hown, hts⟩ (c_X3_copy l D cy (ad 70) (ad 71) (ad 72) (ad 73) (ad 74) (ad 75) (ad 76) ((Zs 1) 0) ((Fs 1) 0) ((Zs 1) 1) ((Fs 1) 1) ((Zs 1) 2) ((Fs 1) 2) ((Zs 1) 3) ((Zs 1) 4) ((Zs 1) 5) ((Zs 1) 6) ((Zs 1) 7) (ad 1) (ad 2) (ad 3) (ad 4) (ad 5) (ad 6) (ad 7) (z 0) (f 0) (z 1) (f 1) (z 2) (f 2) (z 3) (z 4) (z 5) (z 6) (z 7) (by first | assumption | omega)) gX4_saveState_X3_copy rfl (by decide +kernel) ⟨Nat.le_of_ble_eq_true rfl, Nat.le_of_ble_eq_true rfl⟩ hK hT hP hS (Fp.blocks hP hD hS hA (cs := [wSt cy ad 70 (Zs 1) (Fs 1), wSt cy ad 1 z f]) (nb := fun (u : (Nat → Int32) × (Nat → Int32) × (Nat → Int32)) => [wSt cy ad 70 (zL [(z 0), (z 1), (z 2), (z 3), (z 4), (z 5), (z 6), (z 7)]) (fL [u.1, u.2.1, u.2.2]), wSt cy ad 1 (zL [(z 0), (z 1), (z 2), (z 3), (z 4), (z 5), (z 6), (z 7)]) (fL [(f 0), (f 1), (f 2)])]) (nbs := fun (u : (Nat → Int32) × (Nat → Int32) × (Nat → Int32)) => [wTop ad, wSt cy ad 1 (zL [(z 0), (z 1), (z 2), (z 3), (z 4), (z 5), (z 6), (z 7)]) (fL [(f 0), (f 1), (f 2)]), wSa cy ad, wSt cy ad 63 (Zs 0) (Fs 0), wSt cy ad 70 (zL [(z 0), (z 1), (z 2), (z 3), (z 4), (z 5), (z 6), (z 7)]) (fL [u.1, u.2.1, u.2.2]), wSv cy ad sv]) [4, 1] rfl rfl rfl (fun _ => rfl) (fun _ => rfl) (fun _ => rfl)) 16 3 rfl rfl rfl rfl hl.1 rfl (Nat.le_of_ble_eq_true rfl) dX4_saveState_14 ⟨by decide, by decide⟩ (fun  u_4 H locs hw_4 hP hD hS => ?_)
    obtain ⟨Gl_4, Gw_4, Gf_4⟩ := u_4
    have hw_4 : (∀ j : Nat, (j : Int) < (z 0) → Gl_4 j = (f 0) j) ∧ (∀ j : Nat, (j : Int) < (z 1) → Gw_4 j = (f 1) j) ∧ ∀ j : Nat, (j : Int) < (z 2) → Gf_4 j = (f 2) j := hw_4
    have hP : va_P D vwCl (List.flatten [wTop ad, wSt cy ad 1 (zL [(z 0), (z 1), (z 2), (z 3), (z 4), (z 5), (z 6), (z 7)]) (fL [(f 0), (f 1), (f 2)]), wSa cy ad, wSt cy ad 63 (Zs 0) (Fs 0), wSt cy ad 70 (zL [(z 0), (z 1), (z 2), (z 3), (z 4), (z 5), (z 6), (z 7)]) (fL [Gl_4, Gw_4, Gf_4]), wSv cy ad sv]) H := hP
    have hD : va_D A (List.flatten [wTop ad, wSt cy ad 1 (zL [(z 0), (z 1), (z 2), (z 3), (z 4), (z 5), (z 6), (z 7)]) (fL [(f 0), (f 1), (f 2)]), wSa cy ad, wSt cy ad 63 (Zs 0) (Fs 0), wSt cy ad 70 (zL [(z 0), (z 1), (z 2), (z 3), (z 4), (z 5), (z 6), (z 7)]) (fL [Gl_4, Gw_4, Gf_4]), wSv cy ad sv]) := hD
    refine lv_aload_n hx hb dX4_saveState_17 rfl (lv_at hl 0 rfl) ?_
    refine va_get (D := D) (ci := 4) (v := .ref (ad 77)) (C := RX4) (T := TX4) (N := 7) hx hb hts hiX4 hown hK hP 0 rfl rfl 5 (by decide) (hts (.fieldLink RX4 37 "BackwardSearch" "saved" "[Z") (by decide +kernel)) (fun _ h9 => h9) rfl dX4_saveState_18 ?_
    refine lv_iload_n hx hb dX4_saveState_21 rfl (lv_at hl 1 rfl) ?_
    refine lv_iconst (v := iI 1) hx hb dX4_saveState_22 rfl ?_
    refine z_zast hx hb hK hP hD hS 23 rfl (by omega) (by omega) (by omega) (by decide +kernel) dX4_saveState_23 (fun H locs hP hD hS => ?_)
    have hP : va_P D vwCl (List.flatten [wTop ad, wSt cy ad 1 (zL [(z 0), (z 1), (z 2), (z 3), (z 4), (z 5), (z 6), (z 7)]) (fL [(f 0), (f 1), (f 2)]), wSa cy ad, wSt cy ad 63 (Zs 0) (Fs 0), wSt cy ad 70 (zL [(z 0), (z 1), (z 2), (z 3), (z 4), (z 5), (z 6), (z 7)]) (fL [Gl_4, Gw_4, Gf_4]), wSv cy ad (upd sv x.toNat (iI 1))]) H := hP
    have hD : va_D A (List.flatten [wTop ad, wSt cy ad 1 (zL [(z 0), (z 1), (z 2), (z 3), (z 4), (z 5), (z 6), (z 7)]) (fL [(f 0), (f 1), (f 2)]), wSa cy ad, wSt cy ad 63 (Zs 0) (Fs 0), wSt cy ad 70 (zL [(z 0), (z 1), (z 2), (z 3), (z 4), (z 5), (z 6), (z 7)]) (fL [Gl_4, Gw_4, Gf_4]), wSv cy ad (upd sv x.toNat (iI 1))]) := hD
    refine lv_aload_n hx hb dX4_saveState_24 rfl (lv_at hl 0 rfl) ?_
    refine va_get (D := D) (ci := 4) (v := .ref (ad 1)) (C := RX4) (T := TX4) (N := 7) hx hb hts hiX4 hown hK hP 0 rfl rfl 0 (by decide) (hts (.fieldLink RX4 10 "BackwardSearch" "state" "LBackwardSearch$State;") (by decide +kernel)) (fun _ h9 => h9) rfl dX4_saveState_25 ?_
    refine va_getN (D := D) (ci := 3) (v := .ref (ad 2)) (C := RX3) (T := TX3) (N := 8) (host := RX4) hx hb hts hiX3 hown hK hP 1 rfl rfl 0 (by decide) (va_Nw.use rfl (hT.1 _ (List.mem_of_getElem? (i := 0) rfl))) (fun _ h9 => h9) rfl dX4_saveState_28 ?_
    refine z_gVi (n := 0) (b := (ad 2)) (As := []) (rest := []) ⟨hx, hb, hml, hown, hts⟩ (c_X2_size l D cy (ad 2) (ad 3) (z 0) ) gX4_saveState_X2_size rfl (by decide +kernel) ⟨Nat.le_of_ble_eq_true rfl, Nat.le_of_ble_eq_true rfl⟩ hK hT hP hS (Fp.same hP hD hS hA [2] rfl rfl (fun _ => rfl)) 2 2 rfl rfl rfl rfl hl.1 rfl (Nat.le_of_ble_eq_true rfl) dX4_saveState_31 ⟨by decide, by decide⟩ (fun r_5 u_5 H locs hw_5 hP hD hS => ?_)
    have hw_5 : r_5 = iI (z 0) := hw_5
    have hP : va_P D vwCl (List.flatten [wTop ad, wSt cy ad 1 (zL [(z 0), (z 1), (z 2), (z 3), (z 4), (z 5), (z 6), (z 7)]) (fL [(f 0), (f 1), (f 2)]), wSa cy ad, wSt cy ad 63 (Zs 0) (Fs 0), wSt cy ad 70 (zL [(z 0), (z 1), (z 2), (z 3), (z 4), (z 5), (z 6), (z 7)]) (fL [Gl_4, Gw_4, Gf_4]), wSv cy ad (upd sv x.toNat (iI 1))]) H := hP
    have hD : va_D A (List.flatten [wTop ad, wSt cy ad 1 (zL [(z 0), (z 1), (z 2), (z 3), (z 4), (z 5), (z 6), (z 7)]) (fL [(f 0), (f 1), (f 2)]), wSa cy ad, wSt cy ad 63 (Zs 0) (Fs 0), wSt cy ad 70 (zL [(z 0), (z 1), (z 2), (z 3), (z 4), (z 5), (z 6), (z 7)]) (fL [Gl_4, Gw_4, Gf_4]), wSv cy ad (upd sv x.toNat (iI 1))]) := hD
    obtain rfl := hw_5
    exact x_iret hx hb hr hlocks hS (zset Zs 1 z, zset Fs 1 ((fL [Gl_4, Gw_4, Gf_4])), upd sv x.toNat (iI 1)) (show (x = 0 ∨ x = 1) ∧ (iI (z 0)) = iI (M.1.length : Int) ∧ RXS (upd sv x.toNat (iI 1)) (zset Zs 1 z) (zset Fs 1 ((fL [Gl_4, Gw_4, Gf_4]))) (fun j => if j = x.toNat then some M else sl j) from ⟨by omega, congrArg iI q0, RXS_save (k := 1) hSl (hR.cg hw_4) hM (by omega)⟩) hP dX4_saveState_34 (by decide) (by decide)
set_option maxHeartbeats 4000000 in
set_option maxRecDepth 100000 in
theorem c_X4_loadState (l : Launch) (hfl : l.stackTraces = false) (D : va_G) (cy : Nat → ClassId) (ad : Nat → Nat) (z : Nat → Int) (f : Nat → Nat → Int32) (M : MS) (nx : Int) (ct : Int) (Zh : Nat → Nat → Int) (Fh : Nat → Nat → Nat → Int32) (h : List MS) (Zs : Nat → Nat → Int) (Fs : Nat → Nat → Nat → Int32) (sv : Nat → Int32) (sl : Nat → Option MS) (x : Int) (hR : RS z f M) (hM : MOk M) (hH : RXH nx ct Zh Fh h) (hSl : RXS sv Zs Fs sl) (hx1 : -2147483648 ≤ x ∧ x < 2147483648) : Xi l D cy yX4_loadState wsX4_loadState 7 112 2 [.ref (ad 0), .int (iI x)] (List.flatten [wTop ad, wSt cy ad 1 z f, wHb ad ct, wKb cy ad nx, wSt cy ad 20 (Zh 0) (Fh 0), wSt cy ad 27 (Zh 1) (Fh 1), wSt cy ad 34 (Zh 2) (Fh 2), wSt cy ad 41 (Zh 3) (Fh 3), wSt cy ad 48 (Zh 4) (Fh 4), wSt cy ad 55 (Zh 5) (Fh 5), wSa cy ad, wSt cy ad 63 (Zs 0) (Fs 0), wSt cy ad 70 (Zs 1) (Fs 1), wSv cy ad sv]) (fun (r : Int32) (u : (Nat → Int) × (Nat → Nat → Int32) × Int × Int × (Nat → Nat → Int) × (Nat → Nat → Nat → Int32)) => (x = 0 ∨ x = 1) ∧ (∃ M2 : MS, sl x.toNat = some M2 ∧ r = iI (M2.1.length : Int) ∧ RS u.1 u.2.1 M2) ∧ RXH u.2.2.1 u.2.2.2.1 u.2.2.2.2.1 u.2.2.2.2.2 (pushH h M)) (fun u : (Nat → Int) × (Nat → Nat → Int32) × Int × Int × (Nat → Nat → Int) × (Nat → Nat → Nat → Int32) => (List.flatten [wTop ad, wSt cy ad 1 u.1 u.2.1, wHb ad u.2.2.2.1, wKb cy ad u.2.2.1, wSt cy ad 20 (u.2.2.2.2.1 0) (u.2.2.2.2.2 0), wSt cy ad 27 (u.2.2.2.2.1 1) (u.2.2.2.2.2 1), wSt cy ad 34 (u.2.2.2.2.1 2) (u.2.2.2.2.2 2), wSt cy ad 41 (u.2.2.2.2.1 3) (u.2.2.2.2.2 3), wSt cy ad 48 (u.2.2.2.2.1 4) (u.2.2.2.2.2 4), wSt cy ad 55 (u.2.2.2.2.1 5) (u.2.2.2.2.2 5), wSa cy ad, wSt cy ad 63 (Zs 0) (Fs 0), wSt cy ad 70 (Zs 1) (Fs 1), wSv cy ad sv])) (fun E => (E = xIOB ∧ ¬ (x = 0 ∨ x = 1)) ∨ (E = xISE ∧ (x = 0 ∨ x = 1) ∧ sl x.toNat = none)) := by
  refine Xi_of (cc := cX4_loadState) (maxL := 2) (ret := (some .int)) (by decide) rfl rfl ?_
  intro p e s m args below meth c A hx hb hr hts hown hlocks hml htab hP hK hD hT hC hZ hA ls hl
  have hS : va_S A s.heap s.heap [] := va_S.rf
  have hl : lv_has ls 2 [(0, .ref (ad 0)), (1, .int (iI x))] := hl
  have hP : va_P D vwCl (List.flatten [wTop ad, wSt cy ad 1 z f, wHb ad ct, wKb cy ad nx, wSt cy ad 20 (Zh 0) (Fh 0), wSt cy ad 27 (Zh 1) (Fh 1), wSt cy ad 34 (Zh 2) (Fh 2), wSt cy ad 41 (Zh 3) (Fh 3), wSt cy ad 48 (Zh 4) (Fh 4), wSt cy ad 55 (Zh 5) (Fh 5), wSa cy ad, wSt cy ad 63 (Zs 0) (Fs 0), wSt cy ad 70 (Zs 1) (Fs 1), wSv cy ad sv]) s.heap := hP
  have hD : va_D A (List.flatten [wTop ad, wSt cy ad 1 z f, wHb ad ct, wKb cy ad nx, wSt cy ad 20 (Zh 0) (Fh 0), wSt cy ad 27 (Zh 1) (Fh 1), wSt cy ad 34 (Zh 2) (Fh 2), wSt cy ad 41 (Zh 3) (Fh 3), wSt cy ad 48 (Zh 4) (Fh 4), wSt cy ad 55 (Zh 5) (Fh 5), wSa cy ad, wSt cy ad 63 (Zs 0) (Fs 0), wSt cy ad 70 (Zs 1) (Fs 1), wSv cy ad sv]) := hD
  have hiX3 : ∀ w ∈ wsX30, w ∈ wsX4_loadState := by decide +kernel
  have hiX4 : ∀ w ∈ wsX40, w ∈ wsX4_loadState := by decide +kernel
  obtain ⟨r0, r1, r2, r3, r4, r5, r6, r7⟩ := id hR
  obtain ⟨o1, o2, o3, o4, o5, o6, o7, o8, o9, o10, o11, o12, o13, o14, o15⟩ := id hM
  have q0 := r0.1
  have q1 := r1.1
  have q2 := r2.1
  refine lv_iload_n hx hb dX4_loadState_0 rfl (lv_at hl 1 rfl) ?_
  refine x_gSv (n := 1) (As := [.int (iI x)]) (rest := []) ⟨hx, hb, hml, hown, hts⟩ (c_X4_refuseUnlessSlot l hfl D cy x (by first | assumption | omega)) gX4_loadState_X4_refuseUnlessSlot rfl (by decide +kernel) ⟨Nat.le_of_ble_eq_true rfl, Nat.le_of_ble_eq_true rfl⟩ hK hT hC hZ htab hlocks hS (Fp.same hP hD hS hA [] rfl rfl (fun _ => rfl)) (fun _ => rfl) (fun E hE => Or.inl hE) () rfl hl.1 rfl (Nat.le_of_ble_eq_true rfl) dX4_loadState_1 ⟨by decide, by decide⟩ (by decide) (by decide) (fun  u_1 H locs hw_1 hP hD hS => ?_)
  have hw_1 : x = 0 ∨ x = 1 := hw_1
  have hP : va_P D vwCl (List.flatten [wTop ad, wSt cy ad 1 z f, wHb ad ct, wKb cy ad nx, wSt cy ad 20 (Zh 0) (Fh 0), wSt cy ad 27 (Zh 1) (Fh 1), wSt cy ad 34 (Zh 2) (Fh 2), wSt cy ad 41 (Zh 3) (Fh 3), wSt cy ad 48 (Zh 4) (Fh 4), wSt cy ad 55 (Zh 5) (Fh 5), wSa cy ad, wSt cy ad 63 (Zs 0) (Fs 0), wSt cy ad 70 (Zs 1) (Fs 1), wSv cy ad sv]) H := hP
  have hD : va_D A (List.flatten [wTop ad, wSt cy ad 1 z f, wHb ad ct, wKb cy ad nx, wSt cy ad 20 (Zh 0) (Fh 0), wSt cy ad 27 (Zh 1) (Fh 1), wSt cy ad 34 (Zh 2) (Fh 2), wSt cy ad 41 (Zh 3) (Fh 3), wSt cy ad 48 (Zh 4) (Fh 4), wSt cy ad 55 (Zh 5) (Fh 5), wSa cy ad, wSt cy ad 63 (Zs 0) (Fs 0), wSt cy ad 70 (Zs 1) (Fs 1), wSv cy ad sv]) := hD
  rcases hw_1 with hx0 | hx0
  · --
    refine lv_aload_n hx hb dX4_loadState_4 rfl (lv_at hl 0 rfl) ?_
    refine va_get (D := D) (ci := 4) (v := .ref (ad 77)) (C := RX4) (T := TX4) (N := 7) hx hb hts hiX4 hown hK hP 0 rfl rfl 5 (by decide) (hts (.fieldLink RX4 37 "BackwardSearch" "saved" "[Z") (by decide +kernel)) (fun _ h9 => h9) rfl dX4_loadState_5 ?_
    refine lv_iload_n hx hb dX4_loadState_8 rfl (lv_at hl 1 rfl) ?_
    refine z_zald hx hb hK hP 67 rfl (by omega) (by omega) (by omega) dX4_loadState_9 ?_
    refine z_if_ne (tgt := 23) hx hb rfl dX4_loadState_10 (by decide) (fun c2 => ?_) (fun c2 => ?_)
    · --
      obtain ⟨M2, e2, s2, m2⟩ := RXS_some (x := x) hSl (by omega) (by omega)
      have hz0 : x.toNat = 0 := by omega
      have s2 : RS (Zs 0) (Fs 0) M2 := by rw [hz0] at s2; exact s2
      have hsb := SB_of s2 m2
      simp only [SB] at hsb
      refine lv_aload_n hx hb dX4_loadState_23 rfl (lv_at hl 0 rfl) ?_
      refine va_get (D := D) (ci := 4) (v := .ref (ad 18)) (C := RX4) (T := TX4) (N := 7) hx hb hts hiX4 hown hK hP 0 rfl rfl 3 (by decide) (hts (.fieldLink RX4 29 "BackwardSearch" "history" "LBackwardSearch$History;") (by decide +kernel)) (fun _ h9 => h9) rfl dX4_loadState_24 ?_
      refine lv_aload_n hx hb dX4_loadState_27 rfl (lv_at hl 0 rfl) ?_
      refine va_get (D := D) (ci := 4) (v := .ref (ad 1)) (C := RX4) (T := TX4) (N := 7) hx hb hts hiX4 hown hK hP 0 rfl rfl 0 (by decide) (hts (.fieldLink RX4 10 "BackwardSearch" "state" "LBackwardSearch$State;") (by decide +kernel)) (fun _ h9 => h9) rfl dX4_loadState_28 ?_
      refine z_gVv (n := 1) (b := ad 18) (As := [.ref (ad 1)]) (rest := []) ⟨hx, hb, hml, hown, hts⟩ (c_X1_keepA l D cy ad nx ct Zh Fh h z f M (hR) (hM) (hH)) gX4_loadState_X1_keep rfl (by decide +kernel) ⟨Nat.le_of_ble_eq_true rfl, Nat.le_of_ble_eq_true rfl⟩ hK hT hP hS (Fp.blocks hP hD hS hA (cs := [wHb ad ct, wKb cy ad nx, wSt cy ad 20 (Zh 0) (Fh 0), wSt cy ad 27 (Zh 1) (Fh 1), wSt cy ad 34 (Zh 2) (Fh 2), wSt cy ad 41 (Zh 3) (Fh 3), wSt cy ad 48 (Zh 4) (Fh 4), wSt cy ad 55 (Zh 5) (Fh 5), wSt cy ad 1 z f]) (nb := fun (u : Int × Int × (Nat → Nat → Int) × (Nat → Nat → Nat → Int32)) => [wHb ad u.2.1, wKb cy ad u.1, wSt cy ad 20 (u.2.2.1 0) (u.2.2.2 0), wSt cy ad 27 (u.2.2.1 1) (u.2.2.2 1), wSt cy ad 34 (u.2.2.1 2) (u.2.2.2 2), wSt cy ad 41 (u.2.2.1 3) (u.2.2.2 3), wSt cy ad 48 (u.2.2.1 4) (u.2.2.2 4), wSt cy ad 55 (u.2.2.1 5) (u.2.2.2 5), wSt cy ad 1 z f]) (nbs := fun (u : Int × Int × (Nat → Nat → Int) × (Nat → Nat → Nat → Int32)) => [wTop ad, wSt cy ad 1 z f, wHb ad u.2.1, wKb cy ad u.1, wSt cy ad 20 (u.2.2.1 0) (u.2.2.2 0), wSt cy ad 27 (u.2.2.1 1) (u.2.2.2 1), wSt cy ad 34 (u.2.2.1 2) (u.2.2.2 2), wSt cy ad 41 (u.2.2.1 3) (u.2.2.2 3), wSt cy ad 48 (u.2.2.1 4) (u.2.2.2 4), wSt cy ad 55 (u.2.2.1 5) (u.2.2.2 5), wSa cy ad, wSt cy ad 63 (Zs 0) (Fs 0), wSt cy ad 70 (Zs 1) (Fs 1), wSv cy ad sv]) [2, 3, 4, 5, 6, 7, 8, 9, 1] rfl rfl rfl (fun _ => rfl) (fun _ => rfl) (fun _ => rfl)) 8 1 rfl rfl rfl rfl hl.1 rfl (Nat.le_of_ble_eq_true rfl) dX4_loadState_31 ⟨by decide, by decide⟩ (fun  u_3 H locs hw_3 hP hD hS => ?_)
      obtain ⟨nx1_3, ct1_3, Zh1_3, Fh1_3⟩ := u_3
      have hw_3 : RXH nx1_3 ct1_3 Zh1_3 Fh1_3 (pushH h M) := hw_3
      have hP : va_P D vwCl (List.flatten [wTop ad, wSt cy ad 1 z f, wHb ad ct1_3, wKb cy ad nx1_3, wSt cy ad 20 (Zh1_3 0) (Fh1_3 0), wSt cy ad 27 (Zh1_3 1) (Fh1_3 1), wSt cy ad 34 (Zh1_3 2) (Fh1_3 2), wSt cy ad 41 (Zh1_3 3) (Fh1_3 3), wSt cy ad 48 (Zh1_3 4) (Fh1_3 4), wSt cy ad 55 (Zh1_3 5) (Fh1_3 5), wSa cy ad, wSt cy ad 63 (Zs 0) (Fs 0), wSt cy ad 70 (Zs 1) (Fs 1), wSv cy ad sv]) H := hP
      have hD : va_D A (List.flatten [wTop ad, wSt cy ad 1 z f, wHb ad ct1_3, wKb cy ad nx1_3, wSt cy ad 20 (Zh1_3 0) (Fh1_3 0), wSt cy ad 27 (Zh1_3 1) (Fh1_3 1), wSt cy ad 34 (Zh1_3 2) (Fh1_3 2), wSt cy ad 41 (Zh1_3 3) (Fh1_3 3), wSt cy ad 48 (Zh1_3 4) (Fh1_3 4), wSt cy ad 55 (Zh1_3 5) (Fh1_3 5), wSa cy ad, wSt cy ad 63 (Zs 0) (Fs 0), wSt cy ad 70 (Zs 1) (Fs 1), wSv cy ad sv]) := hD
      refine lv_aload_n hx hb dX4_loadState_34 rfl (lv_at hl 0 rfl) ?_
      refine va_get (D := D) (ci := 4) (v := .ref (ad 1)) (C := RX4) (T := TX4) (N := 7) hx hb hts hiX4 hown hK hP 0 rfl rfl 0 (by decide) (hts (.fieldLink RX4 10 "BackwardSearch" "state" "LBackwardSearch$State;") (by decide +kernel)) (fun _ h9 => h9) rfl dX4_loadState_35 ?_
      refine lv_aload_n hx hb dX4_loadState_38 rfl (lv_at hl 0 rfl) ?_
      refine va_get (D := D) (ci := 4) (v := .ref (ad 62)) (C := RX4) (T := TX4) (N := 7) hx hb hts hiX4 hown hK hP 0 rfl rfl 4 (by decide) (hts (.fieldLink RX4 33 "BackwardSearch" "slots" "[LBackwardSearch$State;") (by decide +kernel)) (fun _ h9 => h9) rfl dX4_loadState_39 ?_
      refine lv_iload_n hx hb dX4_loadState_42 rfl (lv_at hl 1 rfl) ?_
      refine z_aldq (b := (ad 63)) hx hb hK hP 52 rfl (by omega) (by omega) (by omega) (by rw [hx0]; rfl) dX4_loadState_43 ?_
      refine z_gVv (n := 1) (b := ad 1) (As := [.ref (ad 63)]) (rest := []) ⟨hx, hb, hml, hown, hts⟩ (c_X3_copy l D cy (ad 1) (ad 2) (ad 3) (ad 4) (ad 5) (ad 6) (ad 7) (z 0) (f 0) (z 1) (f 1) (z 2) (f 2) (z 3) (z 4) (z 5) (z 6) (z 7) (ad 63) (ad 64) (ad 65) (ad 66) (ad 67) (ad 68) (ad 69) ((Zs 0) 0) ((Fs 0) 0) ((Zs 0) 1) ((Fs 0) 1) ((Zs 0) 2) ((Fs 0) 2) ((Zs 0) 3) ((Zs 0) 4) ((Zs 0) 5) ((Zs 0) 6) ((Zs 0) 7) (by first | assumption | omega)) gX4_loadState_X3_copy rfl (by decide +kernel) ⟨Nat.le_of_ble_eq_true rfl, Nat.le_of_ble_eq_true rfl⟩ hK hT hP hS (Fp.blocks hP hD hS hA (cs := [wSt cy ad 1 z f, wSt cy ad 63 (Zs 0) (Fs 0)]) (nb := fun (u : (Nat → Int32) × (Nat → Int32) × (Nat → Int32)) => [wSt cy ad 1 (zL [((Zs 0) 0), ((Zs 0) 1), ((Zs 0) 2), ((Zs 0) 3), ((Zs 0) 4), ((Zs 0) 5), ((Zs 0) 6), ((Zs 0) 7)]) (fL [u.1, u.2.1, u.2.2]), wSt cy ad 63 (zL [((Zs 0) 0), ((Zs 0) 1), ((Zs 0) 2), ((Zs 0) 3), ((Zs 0) 4), ((Zs 0) 5), ((Zs 0) 6), ((Zs 0) 7)]) (fL [((Fs 0) 0), ((Fs 0) 1), ((Fs 0) 2)])]) (nbs := fun (u : (Nat → Int32) × (Nat → Int32) × (Nat → Int32)) => [wTop ad, wSt cy ad 1 (zL [((Zs 0) 0), ((Zs 0) 1), ((Zs 0) 2), ((Zs 0) 3), ((Zs 0) 4), ((Zs 0) 5), ((Zs 0) 6), ((Zs 0) 7)]) (fL [u.1, u.2.1, u.2.2]), wHb ad ct1_3, wKb cy ad nx1_3, wSt cy ad 20 (Zh1_3 0) (Fh1_3 0), wSt cy ad 27 (Zh1_3 1) (Fh1_3 1), wSt cy ad 34 (Zh1_3 2) (Fh1_3 2), wSt cy ad 41 (Zh1_3 3) (Fh1_3 3), wSt cy ad 48 (Zh1_3 4) (Fh1_3 4), wSt cy ad 55 (Zh1_3 5) (Fh1_3 5), wSa cy ad, wSt cy ad 63 (zL [((Zs 0) 0), ((Zs 0) 1), ((Zs 0) 2), ((Zs 0) 3), ((Zs 0) 4), ((Zs 0) 5), ((Zs 0) 6), ((Zs 0) 7)]) (fL [((Fs 0) 0), ((Fs 0) 1), ((Fs 0) 2)]), wSt cy ad 70 (Zs 1) (Fs 1), wSv cy ad sv]) [1, 11] rfl rfl rfl (fun _ => rfl) (fun _ => rfl) (fun _ => rfl)) 1 3 rfl rfl rfl rfl hl.1 rfl (Nat.le_of_ble_eq_true rfl) dX4_loadState_44 ⟨by decide, by decide⟩ (fun  u_4 H locs hw_4 hP hD hS => ?_)
      obtain ⟨Gl_4, Gw_4, Gf_4⟩ := u_4
      have hw_4 : (∀ j : Nat, (j : Int) < ((Zs 0) 0) → Gl_4 j = ((Fs 0) 0) j) ∧ (∀ j : Nat, (j : Int) < ((Zs 0) 1) → Gw_4 j = ((Fs 0) 1) j) ∧ ∀ j : Nat, (j : Int) < ((Zs 0) 2) → Gf_4 j = ((Fs 0) 2) j := hw_4
      have hP : va_P D vwCl (List.flatten [wTop ad, wSt cy ad 1 (zL [((Zs 0) 0), ((Zs 0) 1), ((Zs 0) 2), ((Zs 0) 3), ((Zs 0) 4), ((Zs 0) 5), ((Zs 0) 6), ((Zs 0) 7)]) (fL [Gl_4, Gw_4, Gf_4]), wHb ad ct1_3, wKb cy ad nx1_3, wSt cy ad 20 (Zh1_3 0) (Fh1_3 0), wSt cy ad 27 (Zh1_3 1) (Fh1_3 1), wSt cy ad 34 (Zh1_3 2) (Fh1_3 2), wSt cy ad 41 (Zh1_3 3) (Fh1_3 3), wSt cy ad 48 (Zh1_3 4) (Fh1_3 4), wSt cy ad 55 (Zh1_3 5) (Fh1_3 5), wSa cy ad, wSt cy ad 63 (zL [((Zs 0) 0), ((Zs 0) 1), ((Zs 0) 2), ((Zs 0) 3), ((Zs 0) 4), ((Zs 0) 5), ((Zs 0) 6), ((Zs 0) 7)]) (fL [((Fs 0) 0), ((Fs 0) 1), ((Fs 0) 2)]), wSt cy ad 70 (Zs 1) (Fs 1), wSv cy ad sv]) H := hP
      have hD : va_D A (List.flatten [wTop ad, wSt cy ad 1 (zL [((Zs 0) 0), ((Zs 0) 1), ((Zs 0) 2), ((Zs 0) 3), ((Zs 0) 4), ((Zs 0) 5), ((Zs 0) 6), ((Zs 0) 7)]) (fL [Gl_4, Gw_4, Gf_4]), wHb ad ct1_3, wKb cy ad nx1_3, wSt cy ad 20 (Zh1_3 0) (Fh1_3 0), wSt cy ad 27 (Zh1_3 1) (Fh1_3 1), wSt cy ad 34 (Zh1_3 2) (Fh1_3 2), wSt cy ad 41 (Zh1_3 3) (Fh1_3 3), wSt cy ad 48 (Zh1_3 4) (Fh1_3 4), wSt cy ad 55 (Zh1_3 5) (Fh1_3 5), wSa cy ad, wSt cy ad 63 (zL [((Zs 0) 0), ((Zs 0) 1), ((Zs 0) 2), ((Zs 0) 3), ((Zs 0) 4), ((Zs 0) 5), ((Zs 0) 6), ((Zs 0) 7)]) (fL [((Fs 0) 0), ((Fs 0) 1), ((Fs 0) 2)]), wSt cy ad 70 (Zs 1) (Fs 1), wSv cy ad sv]) := hD
      refine lv_aload_n hx hb dX4_loadState_47 rfl (lv_at hl 0 rfl) ?_
      refine va_get (D := D) (ci := 4) (v := .ref (ad 1)) (C := RX4) (T := TX4) (N := 7) hx hb hts hiX4 hown hK hP 0 rfl rfl 0 (by decide) (hts (.fieldLink RX4 10 "BackwardSearch" "state" "LBackwardSearch$State;") (by decide +kernel)) (fun _ h9 => h9) rfl dX4_loadState_48 ?_
      refine va_getN (D := D) (ci := 3) (v := .ref (ad 2)) (C := RX3) (T := TX3) (N := 8) (host := RX4) hx hb hts hiX3 hown hK hP 1 rfl rfl 0 (by decide) (va_Nw.use rfl (hT.1 _ (List.mem_of_getElem? (i := 0) rfl))) (fun _ h9 => h9) rfl dX4_loadState_51 ?_
      refine z_gVi (n := 0) (b := (ad 2)) (As := []) (rest := []) ⟨hx, hb, hml, hown, hts⟩ (c_X2_size l D cy (ad 2) (ad 3) ((Zs 0) 0) ) gX4_loadState_X2_size rfl (by decide +kernel) ⟨Nat.le_of_ble_eq_true rfl, Nat.le_of_ble_eq_true rfl⟩ hK hT hP hS (Fp.same hP hD hS hA [2] rfl rfl (fun _ => rfl)) 2 2 rfl rfl rfl rfl hl.1 rfl (Nat.le_of_ble_eq_true rfl) dX4_loadState_54 ⟨by decide, by decide⟩ (fun r_5 u_5 H locs hw_5 hP hD hS => ?_)
      have hw_5 : r_5 = iI ((Zs 0) 0) := hw_5
      have hP : va_P D vwCl (List.flatten [wTop ad, wSt cy ad 1 (zL [((Zs 0) 0), ((Zs 0) 1), ((Zs 0) 2), ((Zs 0) 3), ((Zs 0) 4), ((Zs 0) 5), ((Zs 0) 6), ((Zs 0) 7)]) (fL [Gl_4, Gw_4, Gf_4]), wHb ad ct1_3, wKb cy ad nx1_3, wSt cy ad 20 (Zh1_3 0) (Fh1_3 0), wSt cy ad 27 (Zh1_3 1) (Fh1_3 1), wSt cy ad 34 (Zh1_3 2) (Fh1_3 2), wSt cy ad 41 (Zh1_3 3) (Fh1_3 3), wSt cy ad 48 (Zh1_3 4) (Fh1_3 4), wSt cy ad 55 (Zh1_3 5) (Fh1_3 5), wSa cy ad, wSt cy ad 63 (zL [((Zs 0) 0), ((Zs 0) 1), ((Zs 0) 2), ((Zs 0) 3), ((Zs 0) 4), ((Zs 0) 5), ((Zs 0) 6), ((Zs 0) 7)]) (fL [((Fs 0) 0), ((Fs 0) 1), ((Fs 0) 2)]), wSt cy ad 70 (Zs 1) (Fs 1), wSv cy ad sv]) H := hP
      have hD : va_D A (List.flatten [wTop ad, wSt cy ad 1 (zL [((Zs 0) 0), ((Zs 0) 1), ((Zs 0) 2), ((Zs 0) 3), ((Zs 0) 4), ((Zs 0) 5), ((Zs 0) 6), ((Zs 0) 7)]) (fL [Gl_4, Gw_4, Gf_4]), wHb ad ct1_3, wKb cy ad nx1_3, wSt cy ad 20 (Zh1_3 0) (Fh1_3 0), wSt cy ad 27 (Zh1_3 1) (Fh1_3 1), wSt cy ad 34 (Zh1_3 2) (Fh1_3 2), wSt cy ad 41 (Zh1_3 3) (Fh1_3 3), wSt cy ad 48 (Zh1_3 4) (Fh1_3 4), wSt cy ad 55 (Zh1_3 5) (Fh1_3 5), wSa cy ad, wSt cy ad 63 (zL [((Zs 0) 0), ((Zs 0) 1), ((Zs 0) 2), ((Zs 0) 3), ((Zs 0) 4), ((Zs 0) 5), ((Zs 0) 6), ((Zs 0) 7)]) (fL [((Fs 0) 0), ((Fs 0) 1), ((Fs 0) 2)]), wSt cy ad 70 (Zs 1) (Fs 1), wSv cy ad sv]) := hD
      obtain rfl := hw_5
      exact x_iret hx hb hr hlocks hS ((zL [((Zs 0) 0), ((Zs 0) 1), ((Zs 0) 2), ((Zs 0) 3), ((Zs 0) 4), ((Zs 0) 5), ((Zs 0) 6), ((Zs 0) 7)]), (fL [Gl_4, Gw_4, Gf_4]), nx1_3, ct1_3, Zh1_3, Fh1_3) (show (x = 0 ∨ x = 1) ∧ (∃ M2 : MS, sl x.toNat = some M2 ∧ (iI ((Zs 0) 0)) = iI (M2.1.length : Int) ∧ RS (zL [((Zs 0) 0), ((Zs 0) 1), ((Zs 0) 2), ((Zs 0) 3), ((Zs 0) 4), ((Zs 0) 5), ((Zs 0) 6), ((Zs 0) 7)]) (fL [Gl_4, Gw_4, Gf_4]) M2) ∧ RXH nx1_3 ct1_3 Zh1_3 Fh1_3 (pushH h M) from ⟨by omega, ⟨M2, e2, congrArg iI s2.1.1, s2.cg hw_4⟩, hw_3⟩) hP dX4_loadState_57 (by decide) (by decide)
    · --
      exact x_throw (cls := xISE) (text := "nothing was saved in the slot") (ik := 85) (is := 208) (ic := 89) (Ts := wsX4_loadState) hx hb hfl hown (by decide +kernel) (by decide +kernel) hts (by decide +kernel) (by decide +kernel) (by decide +kernel) x_ng1 x_gw1 hT hC (by decide +kernel) hZ hS (hl.1.trans hml.symm) dX4_loadState_13 dX4_loadState_16 dX4_loadState_17 dX4_loadState_19 dX4_loadState_22 htab (by decide) (by decide) (by decide) (by decide) hlocks hP (Or.inr ⟨rfl, by omega, RXS_none hSl (by omega) (by omega)⟩) (by decide) (by decide)
  · --
    refine lv_aload_n hx hb dX4_loadState_4 rfl (lv_at hl 0 rfl) ?_
    refine va_get (D := D) (ci := 4) (v := .ref (ad 77)) (C := RX4) (T := TX4) (N := 7) hx hb hts hiX4 hown hK hP 0 rfl rfl 5 (by decide) (hts (.fieldLink RX4 37 "BackwardSearch" "saved" "[Z") (by decide +kernel)) (fun _ h9 => h9) rfl dX4_loadState_5 ?_
    refine lv_iload_n hx hb dX4_loadState_8 rfl (lv_at hl 1 rfl) ?_
    refine z_zald hx hb hK hP 67 rfl (by omega) (by omega) (by omega) dX4_loadState_9 ?_
    refine z_if_ne (tgt := 23) hx hb rfl dX4_loadState_10 (by decide) (fun c6 => ?_) (fun c6 => ?_)
    · --
      obtain ⟨M2, e2, s2, m2⟩ := RXS_some (x := x) hSl (by omega) (by omega)
      have hz0 : x.toNat = 1 := by omega
      have s2 : RS (Zs 1) (Fs 1) M2 := by rw [hz0] at s2; exact s2
      have hsb := SB_of s2 m2
      simp only [SB] at hsb
      refine lv_aload_n hx hb dX4_loadState_23 rfl (lv_at hl 0 rfl) ?_
      refine va_get (D := D) (ci := 4) (v := .ref (ad 18)) (C := RX4) (T := TX4) (N := 7) hx hb hts hiX4 hown hK hP 0 rfl rfl 3 (by decide) (hts (.fieldLink RX4 29 "BackwardSearch" "history" "LBackwardSearch$History;") (by decide +kernel)) (fun _ h9 => h9) rfl dX4_loadState_24 ?_
      refine lv_aload_n hx hb dX4_loadState_27 rfl (lv_at hl 0 rfl) ?_
      refine va_get (D := D) (ci := 4) (v := .ref (ad 1)) (C := RX4) (T := TX4) (N := 7) hx hb hts hiX4 hown hK hP 0 rfl rfl 0 (by decide) (hts (.fieldLink RX4 10 "BackwardSearch" "state" "LBackwardSearch$State;") (by decide +kernel)) (fun _ h9 => h9) rfl dX4_loadState_28 ?_
      refine z_gVv (n := 1) (b := ad 18) (As := [.ref (ad 1)]) (rest := []) ⟨hx, hb, hml, hown, hts⟩ (c_X1_keepA l D cy ad nx ct Zh Fh h z f M (hR) (hM) (hH)) gX4_loadState_X1_keep rfl (by decide +kernel) ⟨Nat.le_of_ble_eq_true rfl, Nat.le_of_ble_eq_true rfl⟩ hK hT hP hS (Fp.blocks hP hD hS hA (cs := [wHb ad ct, wKb cy ad nx, wSt cy ad 20 (Zh 0) (Fh 0), wSt cy ad 27 (Zh 1) (Fh 1), wSt cy ad 34 (Zh 2) (Fh 2), wSt cy ad 41 (Zh 3) (Fh 3), wSt cy ad 48 (Zh 4) (Fh 4), wSt cy ad 55 (Zh 5) (Fh 5), wSt cy ad 1 z f]) (nb := fun (u : Int × Int × (Nat → Nat → Int) × (Nat → Nat → Nat → Int32)) => [wHb ad u.2.1, wKb cy ad u.1, wSt cy ad 20 (u.2.2.1 0) (u.2.2.2 0), wSt cy ad 27 (u.2.2.1 1) (u.2.2.2 1), wSt cy ad 34 (u.2.2.1 2) (u.2.2.2 2), wSt cy ad 41 (u.2.2.1 3) (u.2.2.2 3), wSt cy ad 48 (u.2.2.1 4) (u.2.2.2 4), wSt cy ad 55 (u.2.2.1 5) (u.2.2.2 5), wSt cy ad 1 z f]) (nbs := fun (u : Int × Int × (Nat → Nat → Int) × (Nat → Nat → Nat → Int32)) => [wTop ad, wSt cy ad 1 z f, wHb ad u.2.1, wKb cy ad u.1, wSt cy ad 20 (u.2.2.1 0) (u.2.2.2 0), wSt cy ad 27 (u.2.2.1 1) (u.2.2.2 1), wSt cy ad 34 (u.2.2.1 2) (u.2.2.2 2), wSt cy ad 41 (u.2.2.1 3) (u.2.2.2 3), wSt cy ad 48 (u.2.2.1 4) (u.2.2.2 4), wSt cy ad 55 (u.2.2.1 5) (u.2.2.2 5), wSa cy ad, wSt cy ad 63 (Zs 0) (Fs 0), wSt cy ad 70 (Zs 1) (Fs 1), wSv cy ad sv]) [2, 3, 4, 5, 6, 7, 8, 9, 1] rfl rfl rfl (fun _ => rfl) (fun _ => rfl) (fun _ => rfl)) 8 1 rfl rfl rfl rfl hl.1 rfl (Nat.le_of_ble_eq_true rfl) dX4_loadState_31 ⟨by decide, by decide⟩ (fun  u_7 H locs hw_7 hP hD hS => ?_)
      obtain ⟨nx1_7, ct1_7, Zh1_7, Fh1_7⟩ := u_7
      have hw_7 : RXH nx1_7 ct1_7 Zh1_7 Fh1_7 (pushH h M) := hw_7
      have hP : va_P D vwCl (List.flatten [wTop ad, wSt cy ad 1 z f, wHb ad ct1_7, wKb cy ad nx1_7, wSt cy ad 20 (Zh1_7 0) (Fh1_7 0), wSt cy ad 27 (Zh1_7 1) (Fh1_7 1), wSt cy ad 34 (Zh1_7 2) (Fh1_7 2), wSt cy ad 41 (Zh1_7 3) (Fh1_7 3), wSt cy ad 48 (Zh1_7 4) (Fh1_7 4), wSt cy ad 55 (Zh1_7 5) (Fh1_7 5), wSa cy ad, wSt cy ad 63 (Zs 0) (Fs 0), wSt cy ad 70 (Zs 1) (Fs 1), wSv cy ad sv]) H := hP
      have hD : va_D A (List.flatten [wTop ad, wSt cy ad 1 z f, wHb ad ct1_7, wKb cy ad nx1_7, wSt cy ad 20 (Zh1_7 0) (Fh1_7 0), wSt cy ad 27 (Zh1_7 1) (Fh1_7 1), wSt cy ad 34 (Zh1_7 2) (Fh1_7 2), wSt cy ad 41 (Zh1_7 3) (Fh1_7 3), wSt cy ad 48 (Zh1_7 4) (Fh1_7 4), wSt cy ad 55 (Zh1_7 5) (Fh1_7 5), wSa cy ad, wSt cy ad 63 (Zs 0) (Fs 0), wSt cy ad 70 (Zs 1) (Fs 1), wSv cy ad sv]) := hD
      refine lv_aload_n hx hb dX4_loadState_34 rfl (lv_at hl 0 rfl) ?_
      refine va_get (D := D) (ci := 4) (v := .ref (ad 1)) (C := RX4) (T := TX4) (N := 7) hx hb hts hiX4 hown hK hP 0 rfl rfl 0 (by decide) (hts (.fieldLink RX4 10 "BackwardSearch" "state" "LBackwardSearch$State;") (by decide +kernel)) (fun _ h9 => h9) rfl dX4_loadState_35 ?_
      refine lv_aload_n hx hb dX4_loadState_38 rfl (lv_at hl 0 rfl) ?_
      refine va_get (D := D) (ci := 4) (v := .ref (ad 62)) (C := RX4) (T := TX4) (N := 7) hx hb hts hiX4 hown hK hP 0 rfl rfl 4 (by decide) (hts (.fieldLink RX4 33 "BackwardSearch" "slots" "[LBackwardSearch$State;") (by decide +kernel)) (fun _ h9 => h9) rfl dX4_loadState_39 ?_
      refine lv_iload_n hx hb dX4_loadState_42 rfl (lv_at hl 1 rfl) ?_
      refine z_aldq (b := (ad 70)) hx hb hK hP 52 rfl (by omega) (by omega) (by omega) (by rw [hx0]; rfl) dX4_loadState_43 ?_
      refine z_gVv (n := 1) (b := ad 1) (As := [.ref (ad 70)]) (rest := []) ⟨hx, hb, hml, hown, hts⟩ (c_X3_copy l D cy (ad 1) (ad 2) (ad 3) (ad 4) (ad 5) (ad 6) (ad 7) (z 0) (f 0) (z 1) (f 1) (z 2) (f 2) (z 3) (z 4) (z 5) (z 6) (z 7) (ad 70) (ad 71) (ad 72) (ad 73) (ad 74) (ad 75) (ad 76) ((Zs 1) 0) ((Fs 1) 0) ((Zs 1) 1) ((Fs 1) 1) ((Zs 1) 2) ((Fs 1) 2) ((Zs 1) 3) ((Zs 1) 4) ((Zs 1) 5) ((Zs 1) 6) ((Zs 1) 7) (by first | assumption | omega)) gX4_loadState_X3_copy rfl (by decide +kernel) ⟨Nat.le_of_ble_eq_true rfl, Nat.le_of_ble_eq_true rfl⟩ hK hT hP hS (Fp.blocks hP hD hS hA (cs := [wSt cy ad 1 z f, wSt cy ad 70 (Zs 1) (Fs 1)]) (nb := fun (u : (Nat → Int32) × (Nat → Int32) × (Nat → Int32)) => [wSt cy ad 1 (zL [((Zs 1) 0), ((Zs 1) 1), ((Zs 1) 2), ((Zs 1) 3), ((Zs 1) 4), ((Zs 1) 5), ((Zs 1) 6), ((Zs 1) 7)]) (fL [u.1, u.2.1, u.2.2]), wSt cy ad 70 (zL [((Zs 1) 0), ((Zs 1) 1), ((Zs 1) 2), ((Zs 1) 3), ((Zs 1) 4), ((Zs 1) 5), ((Zs 1) 6), ((Zs 1) 7)]) (fL [((Fs 1) 0), ((Fs 1) 1), ((Fs 1) 2)])]) (nbs := fun (u : (Nat → Int32) × (Nat → Int32) × (Nat → Int32)) => [wTop ad, wSt cy ad 1 (zL [((Zs 1) 0), ((Zs 1) 1), ((Zs 1) 2), ((Zs 1) 3), ((Zs 1) 4), ((Zs 1) 5), ((Zs 1) 6), ((Zs 1) 7)]) (fL [u.1, u.2.1, u.2.2]), wHb ad ct1_7, wKb cy ad nx1_7, wSt cy ad 20 (Zh1_7 0) (Fh1_7 0), wSt cy ad 27 (Zh1_7 1) (Fh1_7 1), wSt cy ad 34 (Zh1_7 2) (Fh1_7 2), wSt cy ad 41 (Zh1_7 3) (Fh1_7 3), wSt cy ad 48 (Zh1_7 4) (Fh1_7 4), wSt cy ad 55 (Zh1_7 5) (Fh1_7 5), wSa cy ad, wSt cy ad 63 (Zs 0) (Fs 0), wSt cy ad 70 (zL [((Zs 1) 0), ((Zs 1) 1), ((Zs 1) 2), ((Zs 1) 3), ((Zs 1) 4), ((Zs 1) 5), ((Zs 1) 6), ((Zs 1) 7)]) (fL [((Fs 1) 0), ((Fs 1) 1), ((Fs 1) 2)]), wSv cy ad sv]) [1, 12] rfl rfl rfl (fun _ => rfl) (fun _ => rfl) (fun _ => rfl)) 1 3 rfl rfl rfl rfl hl.1 rfl (Nat.le_of_ble_eq_true rfl) dX4_loadState_44 ⟨by decide, by decide⟩ (fun  u_8 H locs hw_8 hP hD hS => ?_)
      obtain ⟨Gl_8, Gw_8, Gf_8⟩ := u_8
      have hw_8 : (∀ j : Nat, (j : Int) < ((Zs 1) 0) → Gl_8 j = ((Fs 1) 0) j) ∧ (∀ j : Nat, (j : Int) < ((Zs 1) 1) → Gw_8 j = ((Fs 1) 1) j) ∧ ∀ j : Nat, (j : Int) < ((Zs 1) 2) → Gf_8 j = ((Fs 1) 2) j := hw_8
      have hP : va_P D vwCl (List.flatten [wTop ad, wSt cy ad 1 (zL [((Zs 1) 0), ((Zs 1) 1), ((Zs 1) 2), ((Zs 1) 3), ((Zs 1) 4), ((Zs 1) 5), ((Zs 1) 6), ((Zs 1) 7)]) (fL [Gl_8, Gw_8, Gf_8]), wHb ad ct1_7, wKb cy ad nx1_7, wSt cy ad 20 (Zh1_7 0) (Fh1_7 0), wSt cy ad 27 (Zh1_7 1) (Fh1_7 1), wSt cy ad 34 (Zh1_7 2) (Fh1_7 2), wSt cy ad 41 (Zh1_7 3) (Fh1_7 3), wSt cy ad 48 (Zh1_7 4) (Fh1_7 4), wSt cy ad 55 (Zh1_7 5) (Fh1_7 5), wSa cy ad, wSt cy ad 63 (Zs 0) (Fs 0), wSt cy ad 70 (zL [((Zs 1) 0), ((Zs 1) 1), ((Zs 1) 2), ((Zs 1) 3), ((Zs 1) 4), ((Zs 1) 5), ((Zs 1) 6), ((Zs 1) 7)]) (fL [((Fs 1) 0), ((Fs 1) 1), ((Fs 1) 2)]), wSv cy ad sv]) H := hP
      have hD : va_D A (List.flatten [wTop ad, wSt cy ad 1 (zL [((Zs 1) 0), ((Zs 1) 1), ((Zs 1) 2), ((Zs 1) 3), ((Zs 1) 4), ((Zs 1) 5), ((Zs 1) 6), ((Zs 1) 7)]) (fL [Gl_8, Gw_8, Gf_8]), wHb ad ct1_7, wKb cy ad nx1_7, wSt cy ad 20 (Zh1_7 0) (Fh1_7 0), wSt cy ad 27 (Zh1_7 1) (Fh1_7 1), wSt cy ad 34 (Zh1_7 2) (Fh1_7 2), wSt cy ad 41 (Zh1_7 3) (Fh1_7 3), wSt cy ad 48 (Zh1_7 4) (Fh1_7 4), wSt cy ad 55 (Zh1_7 5) (Fh1_7 5), wSa cy ad, wSt cy ad 63 (Zs 0) (Fs 0), wSt cy ad 70 (zL [((Zs 1) 0), ((Zs 1) 1), ((Zs 1) 2), ((Zs 1) 3), ((Zs 1) 4), ((Zs 1) 5), ((Zs 1) 6), ((Zs 1) 7)]) (fL [((Fs 1) 0), ((Fs 1) 1), ((Fs 1) 2)]), wSv cy ad sv]) := hD
      refine lv_aload_n hx hb dX4_loadState_47 rfl (lv_at hl 0 rfl) ?_
      refine va_get (D := D) (ci := 4) (v := .ref (ad 1)) (C := RX4) (T := TX4) (N := 7) hx hb hts hiX4 hown hK hP 0 rfl rfl 0 (by decide) (hts (.fieldLink RX4 10 "BackwardSearch" "state" "LBackwardSearch$State;") (by decide +kernel)) (fun _ h9 => h9) rfl dX4_loadState_48 ?_
      refine va_getN (D := D) (ci := 3) (v := .ref (ad 2)) (C := RX3) (T := TX3) (N := 8) (host := RX4) hx hb hts hiX3 hown hK hP 1 rfl rfl 0 (by decide) (va_Nw.use rfl (hT.1 _ (List.mem_of_getElem? (i := 0) rfl))) (fun _ h9 => h9) rfl dX4_loadState_51 ?_
      refine z_gVi (n := 0) (b := (ad 2)) (As := []) (rest := []) ⟨hx, hb, hml, hown, hts⟩ (c_X2_size l D cy (ad 2) (ad 3) ((Zs 1) 0) ) gX4_loadState_X2_size rfl (by decide +kernel) ⟨Nat.le_of_ble_eq_true rfl, Nat.le_of_ble_eq_true rfl⟩ hK hT hP hS (Fp.same hP hD hS hA [2] rfl rfl (fun _ => rfl)) 2 2 rfl rfl rfl rfl hl.1 rfl (Nat.le_of_ble_eq_true rfl) dX4_loadState_54 ⟨by decide, by decide⟩ (fun r_9 u_9 H locs hw_9 hP hD hS => ?_)
      have hw_9 : r_9 = iI ((Zs 1) 0) := hw_9
      have hP : va_P D vwCl (List.flatten [wTop ad, wSt cy ad 1 (zL [((Zs 1) 0), ((Zs 1) 1), ((Zs 1) 2), ((Zs 1) 3), ((Zs 1) 4), ((Zs 1) 5), ((Zs 1) 6), ((Zs 1) 7)]) (fL [Gl_8, Gw_8, Gf_8]), wHb ad ct1_7, wKb cy ad nx1_7, wSt cy ad 20 (Zh1_7 0) (Fh1_7 0), wSt cy ad 27 (Zh1_7 1) (Fh1_7 1), wSt cy ad 34 (Zh1_7 2) (Fh1_7 2), wSt cy ad 41 (Zh1_7 3) (Fh1_7 3), wSt cy ad 48 (Zh1_7 4) (Fh1_7 4), wSt cy ad 55 (Zh1_7 5) (Fh1_7 5), wSa cy ad, wSt cy ad 63 (Zs 0) (Fs 0), wSt cy ad 70 (zL [((Zs 1) 0), ((Zs 1) 1), ((Zs 1) 2), ((Zs 1) 3), ((Zs 1) 4), ((Zs 1) 5), ((Zs 1) 6), ((Zs 1) 7)]) (fL [((Fs 1) 0), ((Fs 1) 1), ((Fs 1) 2)]), wSv cy ad sv]) H := hP
      have hD : va_D A (List.flatten [wTop ad, wSt cy ad 1 (zL [((Zs 1) 0), ((Zs 1) 1), ((Zs 1) 2), ((Zs 1) 3), ((Zs 1) 4), ((Zs 1) 5), ((Zs 1) 6), ((Zs 1) 7)]) (fL [Gl_8, Gw_8, Gf_8]), wHb ad ct1_7, wKb cy ad nx1_7, wSt cy ad 20 (Zh1_7 0) (Fh1_7 0), wSt cy ad 27 (Zh1_7 1) (Fh1_7 1), wSt cy ad 34 (Zh1_7 2) (Fh1_7 2), wSt cy ad 41 (Zh1_7 3) (Fh1_7 3), wSt cy ad 48 (Zh1_7 4) (Fh1_7 4), wSt cy ad 55 (Zh1_7 5) (Fh1_7 5), wSa cy ad, wSt cy ad 63 (Zs 0) (Fs 0), wSt cy ad 70 (zL [((Zs 1) 0), ((Zs 1) 1), ((Zs 1) 2), ((Zs 1) 3), ((Zs 1) 4), ((Zs 1) 5), ((Zs 1) 6), ((Zs 1) 7)]) (fL [((Fs 1) 0), ((Fs 1) 1), ((Fs 1) 2)]), wSv cy ad sv]) := hD
      obtain rfl := hw_9
      exact x_iret hx hb hr hlocks hS ((zL [((Zs 1) 0), ((Zs 1) 1), ((Zs 1) 2), ((Zs 1) 3), ((Zs 1) 4), ((Zs 1) 5), ((Zs 1) 6), ((Zs 1) 7)]), (fL [Gl_8, Gw_8, Gf_8]), nx1_7, ct1_7, Zh1_7, Fh1_7) (show (x = 0 ∨ x = 1) ∧ (∃ M2 : MS, sl x.toNat = some M2 ∧ (iI ((Zs 1) 0)) = iI (M2.1.length : Int) ∧ RS (zL [((Zs 1) 0), ((Zs 1) 1), ((Zs 1) 2), ((Zs 1) 3), ((Zs 1) 4), ((Zs 1) 5), ((Zs 1) 6), ((Zs 1) 7)]) (fL [Gl_8, Gw_8, Gf_8]) M2) ∧ RXH nx1_7 ct1_7 Zh1_7 Fh1_7 (pushH h M) from ⟨by omega, ⟨M2, e2, congrArg iI s2.1.1, s2.cg hw_8⟩, hw_7⟩) hP dX4_loadState_57 (by decide) (by decide)
    · --
      exact x_throw (cls := xISE) (text := "nothing was saved in the slot") (ik := 85) (is := 208) (ic := 89) (Ts := wsX4_loadState) hx hb hfl hown (by decide +kernel) (by decide +kernel) hts (by decide +kernel) (by decide +kernel) (by decide +kernel) x_ng1 x_gw1 hT hC (by decide +kernel) hZ hS (hl.1.trans hml.symm) dX4_loadState_13 dX4_loadState_16 dX4_loadState_17 dX4_loadState_19 dX4_loadState_22 htab (by decide) (by decide) (by decide) (by decide) hlocks hP (Or.inr ⟨rfl, by omega, RXS_none hSl (by omega) (by omega)⟩) (by decide) (by decide)

theorem dL_addGap_0 : decode cL_addGap 0 = .ok (.aload 4, 2) := by decide +kernel
theorem dL_addGap_2 : decode cL_addGap 2 = .ok (.iconst 0, 1) := by decide +kernel
theorem dL_addGap_3 : decode cL_addGap 3 = .ok (.aload_n 0, 1) := by decide +kernel
theorem dL_addGap_4 : decode cL_addGap 4 = .ok (.iload_n 1, 1) := by decide +kernel
theorem dL_addGap_5 : decode cL_addGap 5 = .ok (.iload_n 2, 1) := by decide +kernel
theorem dL_addGap_6 : decode cL_addGap 6 = .ok (.iload_n 3, 1) := by decide +kernel
theorem dL_addGap_7 : decode cL_addGap 7 = .ok (.invokevirtual 7, 3) := by decide +kernel
theorem dL_addGap_10 : decode cL_addGap 10 = .ok (.i2l, 1) := by decide +kernel
theorem dL_addGap_11 : decode cL_addGap 11 = .ok (.lastore, 1) := by decide +kernel
theorem dL_addGap_12 : decode cL_addGap 12 = .ok (.goto 15, 3) := by decide +kernel
theorem dL_addGap_15 : decode cL_addGap 15 = .ok (.astore 5, 2) := by decide +kernel
theorem dL_addGap_17 : decode cL_addGap 17 = .ok (.iconst 1, 1) := by decide +kernel
theorem dL_addGap_18 : decode cL_addGap 18 = .ok (.ireturn, 1) := by decide +kernel
theorem dL_addGap_19 : decode cL_addGap 19 = .ok (.astore 5, 2) := by decide +kernel
theorem dL_addGap_21 : decode cL_addGap 21 = .ok (.iconst 2, 1) := by decide +kernel
theorem dL_addGap_22 : decode cL_addGap 22 = .ok (.ireturn, 1) := by decide +kernel
theorem dL_addGap_23 : decode cL_addGap 23 = .ok (.astore 5, 2) := by decide +kernel
theorem dL_addGap_25 : decode cL_addGap 25 = .ok (.iconst 3, 1) := by decide +kernel
theorem dL_addGap_26 : decode cL_addGap 26 = .ok (.ireturn, 1) := by decide +kernel
theorem dL_addGap_27 : decode cL_addGap 27 = .ok (.iconst 0, 1) := by decide +kernel
theorem dL_addGap_28 : decode cL_addGap 28 = .ok (.ireturn, 1) := by decide +kernel
set_option maxRecDepth 20000 in
theorem ggL_gapCount_X4_gapCount : GoodIn wsL_gapCount wsX4_gapCount := goodIn_ca (goodIn_r _ [6, 7, 8, 9, 5, 10, 11, 12, 13, 14, 15, 16, 17, 18, 19, 20, 21, 22, 23, 24, 25, 26, 27, 28, 29, 30, 31, 32, 33, 34, 35, 36, 37, 38, 39, 40, 41, 42, 43, 44] (by decide +kernel) (by decide +kernel)) (goodIn_sub (fun _ h => List.mem_cons_of_mem _ (List.mem_append_right _ h)) (by decide +kernel))
set_option maxRecDepth 20000 in
theorem gL_gapCount_X4_gapCount : GoodIn wsL_gapCount (wsV RL 19 RX4 yX4_gapCount wsX4_gapCount) := goodIn_app (goodIn_of _ (by decide +kernel)) ggL_gapCount_X4_gapCount
theorem dL_gapCount_0 : decode cL_gapCount 0 = .ok (.aload_n 2, 1) := by decide +kernel
theorem dL_gapCount_1 : decode cL_gapCount 1 = .ok (.iconst 0, 1) := by decide +kernel
theorem dL_gapCount_2 : decode cL_gapCount 2 = .ok (.aload_n 0, 1) := by decide +kernel
theorem dL_gapCount_3 : decode cL_gapCount 3 = .ok (.iload_n 1, 1) := by decide +kernel
theorem dL_gapCount_4 : decode cL_gapCount 4 = .ok (.invokevirtual 19, 3) := by decide +kernel
theorem dL_gapCount_7 : decode cL_gapCount 7 = .ok (.i2l, 1) := by decide +kernel
theorem dL_gapCount_8 : decode cL_gapCount 8 = .ok (.lastore, 1) := by decide +kernel
theorem dL_gapCount_9 : decode cL_gapCount 9 = .ok (.goto 6, 3) := by decide +kernel
theorem dL_gapCount_12 : decode cL_gapCount 12 = .ok (.astore_n 3, 1) := by decide +kernel
theorem dL_gapCount_13 : decode cL_gapCount 13 = .ok (.iconst 1, 1) := by decide +kernel
theorem dL_gapCount_14 : decode cL_gapCount 14 = .ok (.ireturn, 1) := by decide +kernel
theorem dL_gapCount_15 : decode cL_gapCount 15 = .ok (.iconst 0, 1) := by decide +kernel
theorem dL_gapCount_16 : decode cL_gapCount 16 = .ok (.ireturn, 1) := by decide +kernel
set_option maxRecDepth 20000 in
theorem ggL_gapDay_X4_gapDay : GoodIn wsL_gapDay wsX4_gapDay := goodIn_ca (goodIn_r _ [6, 7, 8, 9, 5, 10, 11, 12, 13, 14, 15, 16, 17, 18, 19, 20, 21, 22, 23, 24, 25, 26, 27, 28, 29, 30, 31, 32, 33, 34, 35, 36, 37, 38, 39, 40, 41, 42, 43, 44] (by decide +kernel) (by decide +kernel)) (goodIn_sub (fun _ h => List.mem_cons_of_mem _ (List.mem_append_right _ h)) (by decide +kernel))
set_option maxRecDepth 20000 in
theorem gL_gapDay_X4_gapDay : GoodIn wsL_gapDay (wsV RL 23 RX4 yX4_gapDay wsX4_gapDay) := goodIn_app (goodIn_of _ (by decide +kernel)) ggL_gapDay_X4_gapDay
theorem dL_gapDay_0 : decode cL_gapDay 0 = .ok (.aload_n 3, 1) := by decide +kernel
theorem dL_gapDay_1 : decode cL_gapDay 1 = .ok (.iconst 0, 1) := by decide +kernel
theorem dL_gapDay_2 : decode cL_gapDay 2 = .ok (.aload_n 0, 1) := by decide +kernel
theorem dL_gapDay_3 : decode cL_gapDay 3 = .ok (.iload_n 1, 1) := by decide +kernel
theorem dL_gapDay_4 : decode cL_gapDay 4 = .ok (.iload_n 2, 1) := by decide +kernel
theorem dL_gapDay_5 : decode cL_gapDay 5 = .ok (.invokevirtual 23, 3) := by decide +kernel
theorem dL_gapDay_8 : decode cL_gapDay 8 = .ok (.i2l, 1) := by decide +kernel
theorem dL_gapDay_9 : decode cL_gapDay 9 = .ok (.lastore, 1) := by decide +kernel
theorem dL_gapDay_10 : decode cL_gapDay 10 = .ok (.goto 7, 3) := by decide +kernel
theorem dL_gapDay_13 : decode cL_gapDay 13 = .ok (.astore 4, 2) := by decide +kernel
theorem dL_gapDay_15 : decode cL_gapDay 15 = .ok (.iconst 1, 1) := by decide +kernel
theorem dL_gapDay_16 : decode cL_gapDay 16 = .ok (.ireturn, 1) := by decide +kernel
theorem dL_gapDay_17 : decode cL_gapDay 17 = .ok (.iconst 0, 1) := by decide +kernel
theorem dL_gapDay_18 : decode cL_gapDay 18 = .ok (.ireturn, 1) := by decide +kernel
set_option maxRecDepth 20000 in
theorem ggL_gapLength_X4_gapLength : GoodIn wsL_gapLength wsX4_gapLength := goodIn_ca (goodIn_r _ [6, 7, 8, 9, 5, 10, 11, 12, 13, 14, 15, 16, 17, 18, 19, 20, 21, 22, 23, 24, 25, 26, 27, 28, 29, 30, 31, 32, 33, 34, 35, 36, 37, 38, 39, 40, 41, 42, 43, 44] (by decide +kernel) (by decide +kernel)) (goodIn_sub (fun _ h => List.mem_cons_of_mem _ (List.mem_append_right _ h)) (by decide +kernel))
set_option maxRecDepth 20000 in
theorem gL_gapLength_X4_gapLength : GoodIn wsL_gapLength (wsV RL 27 RX4 yX4_gapLength wsX4_gapLength) := goodIn_app (goodIn_of _ (by decide +kernel)) ggL_gapLength_X4_gapLength
theorem dL_gapLength_0 : decode cL_gapLength 0 = .ok (.aload_n 3, 1) := by decide +kernel
theorem dL_gapLength_1 : decode cL_gapLength 1 = .ok (.iconst 0, 1) := by decide +kernel
theorem dL_gapLength_2 : decode cL_gapLength 2 = .ok (.aload_n 0, 1) := by decide +kernel
theorem dL_gapLength_3 : decode cL_gapLength 3 = .ok (.iload_n 1, 1) := by decide +kernel
theorem dL_gapLength_4 : decode cL_gapLength 4 = .ok (.iload_n 2, 1) := by decide +kernel
theorem dL_gapLength_5 : decode cL_gapLength 5 = .ok (.invokevirtual 27, 3) := by decide +kernel
theorem dL_gapLength_8 : decode cL_gapLength 8 = .ok (.i2l, 1) := by decide +kernel
theorem dL_gapLength_9 : decode cL_gapLength 9 = .ok (.lastore, 1) := by decide +kernel
theorem dL_gapLength_10 : decode cL_gapLength 10 = .ok (.goto 7, 3) := by decide +kernel
theorem dL_gapLength_13 : decode cL_gapLength 13 = .ok (.astore 4, 2) := by decide +kernel
theorem dL_gapLength_15 : decode cL_gapLength 15 = .ok (.iconst 1, 1) := by decide +kernel
theorem dL_gapLength_16 : decode cL_gapLength 16 = .ok (.ireturn, 1) := by decide +kernel
theorem dL_gapLength_17 : decode cL_gapLength 17 = .ok (.iconst 0, 1) := by decide +kernel
theorem dL_gapLength_18 : decode cL_gapLength 18 = .ok (.ireturn, 1) := by decide +kernel
set_option maxRecDepth 20000 in
theorem ggL_monthLength_X4_monthLength : GoodIn wsL_monthLength wsX4_monthLength := goodIn_ca (goodIn_ca (goodIn_r _ [7, 8, 9, 10, 6, 11, 12, 13, 14, 15, 16, 17, 18, 19, 20, 21, 22, 23, 24, 25, 26, 27, 28, 29, 30, 31, 32, 33, 34, 35, 36, 37, 38, 39, 40, 41, 42, 43, 44, 45, 46, 47, 48, 49, 50, 51, 52, 53, 54, 55, 56] (by decide +kernel) (by decide +kernel)) (goodIn_sub (fun _ h => List.mem_cons_of_mem _ (List.mem_append_left _ (List.mem_append_right _ h))) (by decide +kernel))) (goodIn_sub (fun _ h => List.mem_cons_of_mem _ (List.mem_append_right _ h)) (by decide +kernel))
set_option maxRecDepth 20000 in
theorem gL_monthLength_X4_monthLength : GoodIn wsL_monthLength (wsV RL 30 RX4 yX4_monthLength wsX4_monthLength) := goodIn_app (goodIn_of _ (by decide +kernel)) ggL_monthLength_X4_monthLength
theorem dL_monthLength_0 : decode cL_monthLength 0 = .ok (.aload_n 3, 1) := by decide +kernel
theorem dL_monthLength_1 : decode cL_monthLength 1 = .ok (.iconst 0, 1) := by decide +kernel
theorem dL_monthLength_2 : decode cL_monthLength 2 = .ok (.aload_n 0, 1) := by decide +kernel
theorem dL_monthLength_3 : decode cL_monthLength 3 = .ok (.iload_n 1, 1) := by decide +kernel
theorem dL_monthLength_4 : decode cL_monthLength 4 = .ok (.iload_n 2, 1) := by decide +kernel
theorem dL_monthLength_5 : decode cL_monthLength 5 = .ok (.invokevirtual 30, 3) := by decide +kernel
theorem dL_monthLength_8 : decode cL_monthLength 8 = .ok (.i2l, 1) := by decide +kernel
theorem dL_monthLength_9 : decode cL_monthLength 9 = .ok (.lastore, 1) := by decide +kernel
theorem dL_monthLength_10 : decode cL_monthLength 10 = .ok (.goto 11, 3) := by decide +kernel
theorem dL_monthLength_13 : decode cL_monthLength 13 = .ok (.astore 4, 2) := by decide +kernel
theorem dL_monthLength_15 : decode cL_monthLength 15 = .ok (.iconst 1, 1) := by decide +kernel
theorem dL_monthLength_16 : decode cL_monthLength 16 = .ok (.ireturn, 1) := by decide +kernel
theorem dL_monthLength_17 : decode cL_monthLength 17 = .ok (.astore 4, 2) := by decide +kernel
theorem dL_monthLength_19 : decode cL_monthLength 19 = .ok (.iconst 2, 1) := by decide +kernel
theorem dL_monthLength_20 : decode cL_monthLength 20 = .ok (.ireturn, 1) := by decide +kernel
theorem dL_monthLength_21 : decode cL_monthLength 21 = .ok (.iconst 0, 1) := by decide +kernel
theorem dL_monthLength_22 : decode cL_monthLength 22 = .ok (.ireturn, 1) := by decide +kernel
set_option maxRecDepth 20000 in
theorem ggL_dayOfMonth_X4_dayOfMonth : GoodIn wsL_dayOfMonth wsX4_dayOfMonth := goodIn_ca (goodIn_ca (goodIn_r _ [7, 8, 9, 10, 6, 11, 12, 13, 14, 15, 16, 17, 18, 19, 20, 21, 22, 23, 24, 25, 26, 27, 28, 29, 30, 31, 32, 33, 34, 35, 36, 37, 38, 39, 40, 41, 42, 43, 44, 45, 46, 47, 48, 49, 50, 51, 52, 53, 54, 55, 56, 57, 58, 59, 60, 61, 62, 63, 64, 65, 66, 67, 68, 69, 70, 71, 72, 73, 74, 75] (by decide +kernel) (by decide +kernel)) (goodIn_sub (fun _ h => List.mem_cons_of_mem _ (List.mem_append_left _ (List.mem_append_right _ h))) (by decide +kernel))) (goodIn_sub (fun _ h => List.mem_cons_of_mem _ (List.mem_append_right _ h)) (by decide +kernel))
set_option maxRecDepth 20000 in
theorem gL_dayOfMonth_X4_dayOfMonth : GoodIn wsL_dayOfMonth (wsV RL 33 RX4 yX4_dayOfMonth wsX4_dayOfMonth) := goodIn_app (goodIn_of _ (by decide +kernel)) ggL_dayOfMonth_X4_dayOfMonth
theorem dL_dayOfMonth_0 : decode cL_dayOfMonth 0 = .ok (.aload_n 3, 1) := by decide +kernel
theorem dL_dayOfMonth_1 : decode cL_dayOfMonth 1 = .ok (.iconst 0, 1) := by decide +kernel
theorem dL_dayOfMonth_2 : decode cL_dayOfMonth 2 = .ok (.aload_n 0, 1) := by decide +kernel
theorem dL_dayOfMonth_3 : decode cL_dayOfMonth 3 = .ok (.iload_n 1, 1) := by decide +kernel
theorem dL_dayOfMonth_4 : decode cL_dayOfMonth 4 = .ok (.iload_n 2, 1) := by decide +kernel
theorem dL_dayOfMonth_5 : decode cL_dayOfMonth 5 = .ok (.invokevirtual 33, 3) := by decide +kernel
theorem dL_dayOfMonth_8 : decode cL_dayOfMonth 8 = .ok (.i2l, 1) := by decide +kernel
theorem dL_dayOfMonth_9 : decode cL_dayOfMonth 9 = .ok (.lastore, 1) := by decide +kernel
theorem dL_dayOfMonth_10 : decode cL_dayOfMonth 10 = .ok (.goto 11, 3) := by decide +kernel
theorem dL_dayOfMonth_13 : decode cL_dayOfMonth 13 = .ok (.astore 4, 2) := by decide +kernel
theorem dL_dayOfMonth_15 : decode cL_dayOfMonth 15 = .ok (.iconst 1, 1) := by decide +kernel
theorem dL_dayOfMonth_16 : decode cL_dayOfMonth 16 = .ok (.ireturn, 1) := by decide +kernel
theorem dL_dayOfMonth_17 : decode cL_dayOfMonth 17 = .ok (.astore 4, 2) := by decide +kernel
theorem dL_dayOfMonth_19 : decode cL_dayOfMonth 19 = .ok (.iconst 2, 1) := by decide +kernel
theorem dL_dayOfMonth_20 : decode cL_dayOfMonth 20 = .ok (.ireturn, 1) := by decide +kernel
theorem dL_dayOfMonth_21 : decode cL_dayOfMonth 21 = .ok (.iconst 0, 1) := by decide +kernel
theorem dL_dayOfMonth_22 : decode cL_dayOfMonth 22 = .ok (.ireturn, 1) := by decide +kernel
set_option maxRecDepth 20000 in
theorem ggL_monthOf_X4_monthOf : GoodIn wsL_monthOf wsX4_monthOf := goodIn_ca (goodIn_ca (goodIn_r _ [7, 8, 9, 10, 6, 11, 12, 13, 14, 15, 16, 17, 18, 19, 20, 21, 22, 23, 24, 25, 26, 27, 28, 29, 30, 31, 32, 33, 34, 35, 36, 37, 38, 39, 40, 41, 42, 43, 44, 45, 46, 47, 48, 49, 50, 51, 52, 53, 54, 55, 56, 57, 58, 59, 60, 61, 62, 63, 64, 65, 66, 67, 68, 69, 70, 71] (by decide +kernel) (by decide +kernel)) (goodIn_sub (fun _ h => List.mem_cons_of_mem _ (List.mem_append_left _ (List.mem_append_right _ h))) (by decide +kernel))) (goodIn_sub (fun _ h => List.mem_cons_of_mem _ (List.mem_append_right _ h)) (by decide +kernel))
set_option maxRecDepth 20000 in
theorem gL_monthOf_X4_monthOf : GoodIn wsL_monthOf (wsV RL 36 RX4 yX4_monthOf wsX4_monthOf) := goodIn_app (goodIn_of _ (by decide +kernel)) ggL_monthOf_X4_monthOf
theorem dL_monthOf_0 : decode cL_monthOf 0 = .ok (.aload_n 3, 1) := by decide +kernel
theorem dL_monthOf_1 : decode cL_monthOf 1 = .ok (.iconst 0, 1) := by decide +kernel
theorem dL_monthOf_2 : decode cL_monthOf 2 = .ok (.aload_n 0, 1) := by decide +kernel
theorem dL_monthOf_3 : decode cL_monthOf 3 = .ok (.iload_n 1, 1) := by decide +kernel
theorem dL_monthOf_4 : decode cL_monthOf 4 = .ok (.iload_n 2, 1) := by decide +kernel
theorem dL_monthOf_5 : decode cL_monthOf 5 = .ok (.invokevirtual 36, 3) := by decide +kernel
theorem dL_monthOf_8 : decode cL_monthOf 8 = .ok (.i2l, 1) := by decide +kernel
theorem dL_monthOf_9 : decode cL_monthOf 9 = .ok (.lastore, 1) := by decide +kernel
theorem dL_monthOf_10 : decode cL_monthOf 10 = .ok (.goto 11, 3) := by decide +kernel
theorem dL_monthOf_13 : decode cL_monthOf 13 = .ok (.astore 4, 2) := by decide +kernel
theorem dL_monthOf_15 : decode cL_monthOf 15 = .ok (.iconst 1, 1) := by decide +kernel
theorem dL_monthOf_16 : decode cL_monthOf 16 = .ok (.ireturn, 1) := by decide +kernel
theorem dL_monthOf_17 : decode cL_monthOf 17 = .ok (.astore 4, 2) := by decide +kernel
theorem dL_monthOf_19 : decode cL_monthOf 19 = .ok (.iconst 2, 1) := by decide +kernel
theorem dL_monthOf_20 : decode cL_monthOf 20 = .ok (.ireturn, 1) := by decide +kernel
theorem dL_monthOf_21 : decode cL_monthOf 21 = .ok (.iconst 0, 1) := by decide +kernel
theorem dL_monthOf_22 : decode cL_monthOf 22 = .ok (.ireturn, 1) := by decide +kernel
set_option maxRecDepth 20000 in
theorem ggL_yearOf_X4_yearOf : GoodIn wsL_yearOf wsX4_yearOf := goodIn_ca (goodIn_ca (goodIn_r _ [7, 8, 9, 10, 6, 11, 12, 13, 14, 15, 16, 17, 18, 19, 20, 21, 22, 23, 24, 25, 26, 27, 28, 29, 30, 31, 32, 33, 34, 35, 36, 37, 38, 39, 40, 41, 42, 43, 44, 45, 46, 47, 48, 49, 50, 51, 52, 53, 54, 55, 56, 57, 58, 59, 60, 61, 62, 63] (by decide +kernel) (by decide +kernel)) (goodIn_sub (fun _ h => List.mem_cons_of_mem _ (List.mem_append_left _ (List.mem_append_right _ h))) (by decide +kernel))) (goodIn_sub (fun _ h => List.mem_cons_of_mem _ (List.mem_append_right _ h)) (by decide +kernel))
set_option maxRecDepth 20000 in
theorem gL_yearOf_X4_yearOf : GoodIn wsL_yearOf (wsV RL 39 RX4 yX4_yearOf wsX4_yearOf) := goodIn_app (goodIn_of _ (by decide +kernel)) ggL_yearOf_X4_yearOf
theorem dL_yearOf_0 : decode cL_yearOf 0 = .ok (.aload_n 3, 1) := by decide +kernel
theorem dL_yearOf_1 : decode cL_yearOf 1 = .ok (.iconst 0, 1) := by decide +kernel
theorem dL_yearOf_2 : decode cL_yearOf 2 = .ok (.aload_n 0, 1) := by decide +kernel
theorem dL_yearOf_3 : decode cL_yearOf 3 = .ok (.iload_n 1, 1) := by decide +kernel
theorem dL_yearOf_4 : decode cL_yearOf 4 = .ok (.iload_n 2, 1) := by decide +kernel
theorem dL_yearOf_5 : decode cL_yearOf 5 = .ok (.invokevirtual 39, 3) := by decide +kernel
theorem dL_yearOf_8 : decode cL_yearOf 8 = .ok (.i2l, 1) := by decide +kernel
theorem dL_yearOf_9 : decode cL_yearOf 9 = .ok (.lastore, 1) := by decide +kernel
theorem dL_yearOf_10 : decode cL_yearOf 10 = .ok (.goto 11, 3) := by decide +kernel
theorem dL_yearOf_13 : decode cL_yearOf 13 = .ok (.astore 4, 2) := by decide +kernel
theorem dL_yearOf_15 : decode cL_yearOf 15 = .ok (.iconst 1, 1) := by decide +kernel
theorem dL_yearOf_16 : decode cL_yearOf 16 = .ok (.ireturn, 1) := by decide +kernel
theorem dL_yearOf_17 : decode cL_yearOf 17 = .ok (.astore 4, 2) := by decide +kernel
theorem dL_yearOf_19 : decode cL_yearOf 19 = .ok (.iconst 2, 1) := by decide +kernel
theorem dL_yearOf_20 : decode cL_yearOf 20 = .ok (.ireturn, 1) := by decide +kernel
theorem dL_yearOf_21 : decode cL_yearOf 21 = .ok (.iconst 0, 1) := by decide +kernel
theorem dL_yearOf_22 : decode cL_yearOf 22 = .ok (.ireturn, 1) := by decide +kernel
set_option maxRecDepth 20000 in
theorem ggL_weekday_X4_weekday : GoodIn wsL_weekday wsX4_weekday := goodIn_ca (goodIn_r _ [6, 7, 8, 5, 9, 10, 11] (by decide +kernel) (by decide +kernel)) (goodIn_sub (fun _ h => List.mem_cons_of_mem _ (List.mem_append_right _ h)) (by decide +kernel))
set_option maxRecDepth 20000 in
theorem gL_weekday_X4_weekday : GoodIn wsL_weekday (wsV RL 42 RX4 yX4_weekday wsX4_weekday) := goodIn_app (goodIn_of _ (by decide +kernel)) ggL_weekday_X4_weekday
theorem dL_weekday_0 : decode cL_weekday 0 = .ok (.aload_n 2, 1) := by decide +kernel
theorem dL_weekday_1 : decode cL_weekday 1 = .ok (.iconst 0, 1) := by decide +kernel
theorem dL_weekday_2 : decode cL_weekday 2 = .ok (.aload_n 0, 1) := by decide +kernel
theorem dL_weekday_3 : decode cL_weekday 3 = .ok (.iload_n 1, 1) := by decide +kernel
theorem dL_weekday_4 : decode cL_weekday 4 = .ok (.invokevirtual 42, 3) := by decide +kernel
theorem dL_weekday_7 : decode cL_weekday 7 = .ok (.i2l, 1) := by decide +kernel
theorem dL_weekday_8 : decode cL_weekday 8 = .ok (.lastore, 1) := by decide +kernel
theorem dL_weekday_9 : decode cL_weekday 9 = .ok (.goto 6, 3) := by decide +kernel
theorem dL_weekday_12 : decode cL_weekday 12 = .ok (.astore_n 3, 1) := by decide +kernel
theorem dL_weekday_13 : decode cL_weekday 13 = .ok (.iconst 1, 1) := by decide +kernel
theorem dL_weekday_14 : decode cL_weekday 14 = .ok (.ireturn, 1) := by decide +kernel
theorem dL_weekday_15 : decode cL_weekday 15 = .ok (.iconst 0, 1) := by decide +kernel
theorem dL_weekday_16 : decode cL_weekday 16 = .ok (.ireturn, 1) := by decide +kernel
set_option maxRecDepth 20000 in
theorem ggL_dayOfDate_X4_dayOfDate : GoodIn wsL_dayOfDate wsX4_dayOfDate := goodIn_ca (goodIn_ca (goodIn_r _ [7, 8, 9, 10, 6, 11, 12, 13, 14, 15, 16, 17, 18, 19, 20, 21, 22, 23, 24, 25, 26, 27, 28, 29, 30, 31, 32, 33, 34, 35, 36, 37, 38, 39, 40, 41, 42, 43, 44, 45, 46, 47, 48, 49, 50, 51, 52, 53, 54, 55, 56, 57, 58, 59, 60, 61, 62, 63, 64, 65, 66, 67, 68, 69, 70, 71, 72, 73, 74, 75, 76, 77, 78, 79, 80, 81, 82, 83] (by decide +kernel) (by decide +kernel)) (goodIn_sub (fun _ h => List.mem_cons_of_mem _ (List.mem_append_left _ (List.mem_append_right _ h))) (by decide +kernel))) (goodIn_sub (fun _ h => List.mem_cons_of_mem _ (List.mem_append_right _ h)) (by decide +kernel))
set_option maxRecDepth 20000 in
theorem gL_dayOfDate_X4_dayOfDate : GoodIn wsL_dayOfDate (wsV RL 45 RX4 yX4_dayOfDate wsX4_dayOfDate) := goodIn_app (goodIn_of _ (by decide +kernel)) ggL_dayOfDate_X4_dayOfDate
theorem dL_dayOfDate_0 : decode cL_dayOfDate 0 = .ok (.aload 5, 2) := by decide +kernel
theorem dL_dayOfDate_2 : decode cL_dayOfDate 2 = .ok (.iconst 0, 1) := by decide +kernel
theorem dL_dayOfDate_3 : decode cL_dayOfDate 3 = .ok (.aload_n 0, 1) := by decide +kernel
theorem dL_dayOfDate_4 : decode cL_dayOfDate 4 = .ok (.iload_n 1, 1) := by decide +kernel
theorem dL_dayOfDate_5 : decode cL_dayOfDate 5 = .ok (.iload_n 2, 1) := by decide +kernel
theorem dL_dayOfDate_6 : decode cL_dayOfDate 6 = .ok (.iload_n 3, 1) := by decide +kernel
theorem dL_dayOfDate_7 : decode cL_dayOfDate 7 = .ok (.iload 4, 2) := by decide +kernel
theorem dL_dayOfDate_9 : decode cL_dayOfDate 9 = .ok (.invokevirtual 45, 3) := by decide +kernel
theorem dL_dayOfDate_12 : decode cL_dayOfDate 12 = .ok (.i2l, 1) := by decide +kernel
theorem dL_dayOfDate_13 : decode cL_dayOfDate 13 = .ok (.lastore, 1) := by decide +kernel
theorem dL_dayOfDate_14 : decode cL_dayOfDate 14 = .ok (.goto 11, 3) := by decide +kernel
theorem dL_dayOfDate_17 : decode cL_dayOfDate 17 = .ok (.astore 6, 2) := by decide +kernel
theorem dL_dayOfDate_19 : decode cL_dayOfDate 19 = .ok (.iconst 1, 1) := by decide +kernel
theorem dL_dayOfDate_20 : decode cL_dayOfDate 20 = .ok (.ireturn, 1) := by decide +kernel
theorem dL_dayOfDate_21 : decode cL_dayOfDate 21 = .ok (.astore 6, 2) := by decide +kernel
theorem dL_dayOfDate_23 : decode cL_dayOfDate 23 = .ok (.iconst 2, 1) := by decide +kernel
theorem dL_dayOfDate_24 : decode cL_dayOfDate 24 = .ok (.ireturn, 1) := by decide +kernel
theorem dL_dayOfDate_25 : decode cL_dayOfDate 25 = .ok (.iconst 0, 1) := by decide +kernel
theorem dL_dayOfDate_26 : decode cL_dayOfDate 26 = .ok (.ireturn, 1) := by decide +kernel
set_option maxRecDepth 20000 in
theorem ggL_addFeast_X4_addFeast : GoodIn wsL_addFeast wsX4_addFeast := goodIn_ca (goodIn_ca (goodIn_ca (goodIn_r _ [8, 9, 10, 11, 12, 13, 14, 7, 15, 16, 17, 18, 19, 20, 21, 22, 23, 24, 25, 26, 27, 28, 29, 30, 31, 32, 33, 34, 35, 36, 37, 38, 39, 40, 41, 42, 43, 44, 45, 46, 47, 48, 49, 50, 51, 52, 53, 54, 55, 56, 57, 58, 59, 60, 61, 62, 63, 64, 65, 66, 67, 68, 69, 70, 71, 72, 73, 74, 75, 76, 77, 78, 79, 80, 81, 82, 83, 84, 85, 86, 87, 88, 89, 90, 91, 92, 93, 94, 95, 96, 97, 98, 99, 100] (by decide +kernel) (by decide +kernel)) (goodIn_sub (fun _ h => List.mem_cons_of_mem _ (List.mem_append_left _ (List.mem_append_left _ (List.mem_append_right _ h)))) (by decide +kernel))) (goodIn_sub (fun _ h => List.mem_cons_of_mem _ (List.mem_append_left _ (List.mem_append_right _ h))) (by decide +kernel))) (goodIn_sub (fun _ h => List.mem_cons_of_mem _ (List.mem_append_right _ h)) (by decide +kernel))
set_option maxRecDepth 20000 in
theorem gL_addFeast_X4_addFeast : GoodIn wsL_addFeast (wsV RL 49 RX4 yX4_addFeast wsX4_addFeast) := goodIn_app (goodIn_of _ (by decide +kernel)) ggL_addFeast_X4_addFeast
theorem dL_addFeast_0 : decode cL_addFeast 0 = .ok (.aload 4, 2) := by decide +kernel
theorem dL_addFeast_2 : decode cL_addFeast 2 = .ok (.iconst 0, 1) := by decide +kernel
theorem dL_addFeast_3 : decode cL_addFeast 3 = .ok (.aload_n 0, 1) := by decide +kernel
theorem dL_addFeast_4 : decode cL_addFeast 4 = .ok (.iload_n 1, 1) := by decide +kernel
theorem dL_addFeast_5 : decode cL_addFeast 5 = .ok (.iload_n 2, 1) := by decide +kernel
theorem dL_addFeast_6 : decode cL_addFeast 6 = .ok (.iload_n 3, 1) := by decide +kernel
theorem dL_addFeast_7 : decode cL_addFeast 7 = .ok (.invokevirtual 49, 3) := by decide +kernel
theorem dL_addFeast_10 : decode cL_addFeast 10 = .ok (.i2l, 1) := by decide +kernel
theorem dL_addFeast_11 : decode cL_addFeast 11 = .ok (.lastore, 1) := by decide +kernel
theorem dL_addFeast_12 : decode cL_addFeast 12 = .ok (.goto 15, 3) := by decide +kernel
theorem dL_addFeast_15 : decode cL_addFeast 15 = .ok (.astore 5, 2) := by decide +kernel
theorem dL_addFeast_17 : decode cL_addFeast 17 = .ok (.iconst 1, 1) := by decide +kernel
theorem dL_addFeast_18 : decode cL_addFeast 18 = .ok (.ireturn, 1) := by decide +kernel
theorem dL_addFeast_19 : decode cL_addFeast 19 = .ok (.astore 5, 2) := by decide +kernel
theorem dL_addFeast_21 : decode cL_addFeast 21 = .ok (.iconst 2, 1) := by decide +kernel
theorem dL_addFeast_22 : decode cL_addFeast 22 = .ok (.ireturn, 1) := by decide +kernel
theorem dL_addFeast_23 : decode cL_addFeast 23 = .ok (.astore 5, 2) := by decide +kernel
theorem dL_addFeast_25 : decode cL_addFeast 25 = .ok (.iconst 3, 1) := by decide +kernel
theorem dL_addFeast_26 : decode cL_addFeast 26 = .ok (.ireturn, 1) := by decide +kernel
theorem dL_addFeast_27 : decode cL_addFeast 27 = .ok (.iconst 0, 1) := by decide +kernel
theorem dL_addFeast_28 : decode cL_addFeast 28 = .ok (.ireturn, 1) := by decide +kernel
set_option maxRecDepth 20000 in
theorem ggL_barWeekday_X4_barWeekday : GoodIn wsL_barWeekday wsX4_barWeekday := goodIn_ca (goodIn_ca (goodIn_r _ [7, 8, 9, 10, 6, 11, 12, 13, 14, 15, 16, 17, 18, 19, 20, 21, 22, 23, 24, 25, 26, 27, 28, 29, 30, 31, 32, 33, 34, 35, 36, 37, 38, 39, 40, 41, 42, 43, 44, 45, 46, 47, 48, 49, 50, 51, 52, 53, 54, 55, 56, 57, 58, 59, 60, 61, 62, 63, 64, 65, 66, 67, 68, 69, 70, 71, 72, 73, 74, 75, 76, 77, 78, 79, 80, 81, 82, 83, 84, 85, 86, 87, 88, 89] (by decide +kernel) (by decide +kernel)) (goodIn_sub (fun _ h => List.mem_cons_of_mem _ (List.mem_append_left _ (List.mem_append_right _ h))) (by decide +kernel))) (goodIn_sub (fun _ h => List.mem_cons_of_mem _ (List.mem_append_right _ h)) (by decide +kernel))
set_option maxRecDepth 20000 in
theorem gL_barWeekday_X4_barWeekday : GoodIn wsL_barWeekday (wsV RL 52 RX4 yX4_barWeekday wsX4_barWeekday) := goodIn_app (goodIn_of _ (by decide +kernel)) ggL_barWeekday_X4_barWeekday
theorem dL_barWeekday_0 : decode cL_barWeekday 0 = .ok (.aload_n 3, 1) := by decide +kernel
theorem dL_barWeekday_1 : decode cL_barWeekday 1 = .ok (.iconst 0, 1) := by decide +kernel
theorem dL_barWeekday_2 : decode cL_barWeekday 2 = .ok (.aload_n 0, 1) := by decide +kernel
theorem dL_barWeekday_3 : decode cL_barWeekday 3 = .ok (.iload_n 1, 1) := by decide +kernel
theorem dL_barWeekday_4 : decode cL_barWeekday 4 = .ok (.iload_n 2, 1) := by decide +kernel
theorem dL_barWeekday_5 : decode cL_barWeekday 5 = .ok (.invokevirtual 52, 3) := by decide +kernel
theorem dL_barWeekday_8 : decode cL_barWeekday 8 = .ok (.i2l, 1) := by decide +kernel
theorem dL_barWeekday_9 : decode cL_barWeekday 9 = .ok (.lastore, 1) := by decide +kernel
theorem dL_barWeekday_10 : decode cL_barWeekday 10 = .ok (.goto 11, 3) := by decide +kernel
theorem dL_barWeekday_13 : decode cL_barWeekday 13 = .ok (.astore 4, 2) := by decide +kernel
theorem dL_barWeekday_15 : decode cL_barWeekday 15 = .ok (.iconst 1, 1) := by decide +kernel
theorem dL_barWeekday_16 : decode cL_barWeekday 16 = .ok (.ireturn, 1) := by decide +kernel
theorem dL_barWeekday_17 : decode cL_barWeekday 17 = .ok (.astore 4, 2) := by decide +kernel
theorem dL_barWeekday_19 : decode cL_barWeekday 19 = .ok (.iconst 2, 1) := by decide +kernel
theorem dL_barWeekday_20 : decode cL_barWeekday 20 = .ok (.ireturn, 1) := by decide +kernel
theorem dL_barWeekday_21 : decode cL_barWeekday 21 = .ok (.iconst 0, 1) := by decide +kernel
theorem dL_barWeekday_22 : decode cL_barWeekday 22 = .ok (.ireturn, 1) := by decide +kernel
set_option maxRecDepth 20000 in
theorem ggL_allowAllWeekdays_X4_allowAllWeekdays : GoodIn wsL_allowAllWeekdays wsX4_allowAllWeekdays := goodIn_ca (goodIn_ca (goodIn_r _ [7, 8, 9, 10, 11, 12, 6, 13, 14, 15, 16, 17, 18, 19, 20, 21, 22, 23, 24, 25, 26, 27, 28, 29, 30, 31, 32, 33, 34, 35, 36, 37, 38, 39, 40, 41, 42, 43, 44, 45, 46, 47, 48, 49, 50, 51, 52, 53, 54, 55, 56, 57, 58, 59, 60, 61, 62, 63, 64, 65, 66, 67, 68, 69, 70, 71, 72, 73, 74, 75, 76, 77, 78, 79, 80, 81, 82, 83, 84, 85, 86] (by decide +kernel) (by decide +kernel)) (goodIn_sub (fun _ h => List.mem_cons_of_mem _ (List.mem_append_left _ (List.mem_append_right _ h))) (by decide +kernel))) (goodIn_sub (fun _ h => List.mem_cons_of_mem _ (List.mem_append_right _ h)) (by decide +kernel))
set_option maxRecDepth 20000 in
theorem gL_allowAllWeekdays_X4_allowAllWeekdays : GoodIn wsL_allowAllWeekdays (wsV RL 55 RX4 yX4_allowAllWeekdays wsX4_allowAllWeekdays) := goodIn_app (goodIn_of _ (by decide +kernel)) ggL_allowAllWeekdays_X4_allowAllWeekdays
theorem dL_allowAllWeekdays_0 : decode cL_allowAllWeekdays 0 = .ok (.aload_n 2, 1) := by decide +kernel
theorem dL_allowAllWeekdays_1 : decode cL_allowAllWeekdays 1 = .ok (.iconst 0, 1) := by decide +kernel
theorem dL_allowAllWeekdays_2 : decode cL_allowAllWeekdays 2 = .ok (.aload_n 0, 1) := by decide +kernel
theorem dL_allowAllWeekdays_3 : decode cL_allowAllWeekdays 3 = .ok (.iload_n 1, 1) := by decide +kernel
theorem dL_allowAllWeekdays_4 : decode cL_allowAllWeekdays 4 = .ok (.invokevirtual 55, 3) := by decide +kernel
theorem dL_allowAllWeekdays_7 : decode cL_allowAllWeekdays 7 = .ok (.i2l, 1) := by decide +kernel
theorem dL_allowAllWeekdays_8 : decode cL_allowAllWeekdays 8 = .ok (.lastore, 1) := by decide +kernel
theorem dL_allowAllWeekdays_9 : decode cL_allowAllWeekdays 9 = .ok (.goto 9, 3) := by decide +kernel
theorem dL_allowAllWeekdays_12 : decode cL_allowAllWeekdays 12 = .ok (.astore_n 3, 1) := by decide +kernel
theorem dL_allowAllWeekdays_13 : decode cL_allowAllWeekdays 13 = .ok (.iconst 1, 1) := by decide +kernel
theorem dL_allowAllWeekdays_14 : decode cL_allowAllWeekdays 14 = .ok (.ireturn, 1) := by decide +kernel
theorem dL_allowAllWeekdays_15 : decode cL_allowAllWeekdays 15 = .ok (.astore_n 3, 1) := by decide +kernel
theorem dL_allowAllWeekdays_16 : decode cL_allowAllWeekdays 16 = .ok (.iconst 2, 1) := by decide +kernel
theorem dL_allowAllWeekdays_17 : decode cL_allowAllWeekdays 17 = .ok (.ireturn, 1) := by decide +kernel
theorem dL_allowAllWeekdays_18 : decode cL_allowAllWeekdays 18 = .ok (.iconst 0, 1) := by decide +kernel
theorem dL_allowAllWeekdays_19 : decode cL_allowAllWeekdays 19 = .ok (.ireturn, 1) := by decide +kernel
set_option maxRecDepth 20000 in
theorem ggL_feastTown_X4_feastTown : GoodIn wsL_feastTown wsX4_feastTown := goodIn_ca (goodIn_r _ [6, 7, 8, 9, 5, 10, 11, 12, 13, 14, 15, 16, 17, 18, 19, 20, 21, 22, 23, 24, 25, 26, 27, 28, 29, 30, 31, 32, 33, 34, 35, 36] (by decide +kernel) (by decide +kernel)) (goodIn_sub (fun _ h => List.mem_cons_of_mem _ (List.mem_append_right _ h)) (by decide +kernel))
set_option maxRecDepth 20000 in
theorem gL_feastTown_X4_feastTown : GoodIn wsL_feastTown (wsV RL 58 RX4 yX4_feastTown wsX4_feastTown) := goodIn_app (goodIn_of _ (by decide +kernel)) ggL_feastTown_X4_feastTown
theorem dL_feastTown_0 : decode cL_feastTown 0 = .ok (.aload_n 2, 1) := by decide +kernel
theorem dL_feastTown_1 : decode cL_feastTown 1 = .ok (.iconst 0, 1) := by decide +kernel
theorem dL_feastTown_2 : decode cL_feastTown 2 = .ok (.aload_n 0, 1) := by decide +kernel
theorem dL_feastTown_3 : decode cL_feastTown 3 = .ok (.iload_n 1, 1) := by decide +kernel
theorem dL_feastTown_4 : decode cL_feastTown 4 = .ok (.invokevirtual 58, 3) := by decide +kernel
theorem dL_feastTown_7 : decode cL_feastTown 7 = .ok (.i2l, 1) := by decide +kernel
theorem dL_feastTown_8 : decode cL_feastTown 8 = .ok (.lastore, 1) := by decide +kernel
theorem dL_feastTown_9 : decode cL_feastTown 9 = .ok (.goto 6, 3) := by decide +kernel
theorem dL_feastTown_12 : decode cL_feastTown 12 = .ok (.astore_n 3, 1) := by decide +kernel
theorem dL_feastTown_13 : decode cL_feastTown 13 = .ok (.iconst 1, 1) := by decide +kernel
theorem dL_feastTown_14 : decode cL_feastTown 14 = .ok (.ireturn, 1) := by decide +kernel
theorem dL_feastTown_15 : decode cL_feastTown 15 = .ok (.iconst 0, 1) := by decide +kernel
theorem dL_feastTown_16 : decode cL_feastTown 16 = .ok (.ireturn, 1) := by decide +kernel
set_option maxRecDepth 20000 in
theorem ggL_barredWeekday_X4_barredWeekday : GoodIn wsL_barredWeekday wsX4_barredWeekday := goodIn_ca (goodIn_r _ [6, 7, 8, 9, 5, 10, 11, 12, 13, 14, 15, 16, 17, 18, 19, 20, 21, 22, 23, 24, 25, 26, 27, 28, 29, 30, 31, 32, 33, 34, 35, 36] (by decide +kernel) (by decide +kernel)) (goodIn_sub (fun _ h => List.mem_cons_of_mem _ (List.mem_append_right _ h)) (by decide +kernel))
set_option maxRecDepth 20000 in
theorem gL_barredWeekday_X4_barredWeekday : GoodIn wsL_barredWeekday (wsV RL 61 RX4 yX4_barredWeekday wsX4_barredWeekday) := goodIn_app (goodIn_of _ (by decide +kernel)) ggL_barredWeekday_X4_barredWeekday
theorem dL_barredWeekday_0 : decode cL_barredWeekday 0 = .ok (.aload_n 2, 1) := by decide +kernel
theorem dL_barredWeekday_1 : decode cL_barredWeekday 1 = .ok (.iconst 0, 1) := by decide +kernel
theorem dL_barredWeekday_2 : decode cL_barredWeekday 2 = .ok (.aload_n 0, 1) := by decide +kernel
theorem dL_barredWeekday_3 : decode cL_barredWeekday 3 = .ok (.iload_n 1, 1) := by decide +kernel
theorem dL_barredWeekday_4 : decode cL_barredWeekday 4 = .ok (.invokevirtual 61, 3) := by decide +kernel
theorem dL_barredWeekday_7 : decode cL_barredWeekday 7 = .ok (.i2l, 1) := by decide +kernel
theorem dL_barredWeekday_8 : decode cL_barredWeekday 8 = .ok (.lastore, 1) := by decide +kernel
theorem dL_barredWeekday_9 : decode cL_barredWeekday 9 = .ok (.goto 6, 3) := by decide +kernel
theorem dL_barredWeekday_12 : decode cL_barredWeekday 12 = .ok (.astore_n 3, 1) := by decide +kernel
theorem dL_barredWeekday_13 : decode cL_barredWeekday 13 = .ok (.iconst 1, 1) := by decide +kernel
theorem dL_barredWeekday_14 : decode cL_barredWeekday 14 = .ok (.ireturn, 1) := by decide +kernel
theorem dL_barredWeekday_15 : decode cL_barredWeekday 15 = .ok (.iconst 0, 1) := by decide +kernel
theorem dL_barredWeekday_16 : decode cL_barredWeekday 16 = .ok (.ireturn, 1) := by decide +kernel
set_option maxRecDepth 20000 in
theorem ggL_dayDue_X4_dayDue : GoodIn wsL_dayDue wsX4_dayDue := goodIn_ca (goodIn_ca (goodIn_r _ [7, 8, 9, 10, 11, 6, 12, 13, 14, 15, 16, 17, 18, 19, 20, 21, 22, 23, 24, 25, 26, 27, 28, 29, 30, 31, 32, 33, 34, 35, 36, 37, 38, 39, 40, 41, 42, 43, 44, 45, 46, 47, 48, 49, 50, 51, 52, 53, 54, 55, 56, 57, 58, 59, 60, 61, 62, 63, 64, 65, 66, 67, 68, 69, 70, 71, 72, 73, 74, 75, 76, 77, 78, 79, 80, 81, 82, 83, 84, 85, 86, 87, 88, 89, 90, 91] (by decide +kernel) (by decide +kernel)) (goodIn_sub (fun _ h => List.mem_cons_of_mem _ (List.mem_append_left _ (List.mem_append_right _ h))) (by decide +kernel))) (goodIn_sub (fun _ h => List.mem_cons_of_mem _ (List.mem_append_right _ h)) (by decide +kernel))
set_option maxRecDepth 20000 in
theorem gL_dayDue_X4_dayDue : GoodIn wsL_dayDue (wsV RL 64 RX4 yX4_dayDue wsX4_dayDue) := goodIn_app (goodIn_of _ (by decide +kernel)) ggL_dayDue_X4_dayDue
theorem dL_dayDue_0 : decode cL_dayDue 0 = .ok (.aload_n 3, 1) := by decide +kernel
theorem dL_dayDue_1 : decode cL_dayDue 1 = .ok (.iconst 0, 1) := by decide +kernel
theorem dL_dayDue_2 : decode cL_dayDue 2 = .ok (.aload_n 0, 1) := by decide +kernel
theorem dL_dayDue_3 : decode cL_dayDue 3 = .ok (.iload_n 1, 1) := by decide +kernel
theorem dL_dayDue_4 : decode cL_dayDue 4 = .ok (.iload_n 2, 1) := by decide +kernel
theorem dL_dayDue_5 : decode cL_dayDue 5 = .ok (.invokevirtual 64, 3) := by decide +kernel
theorem dL_dayDue_8 : decode cL_dayDue 8 = .ok (.i2l, 1) := by decide +kernel
theorem dL_dayDue_9 : decode cL_dayDue 9 = .ok (.lastore, 1) := by decide +kernel
theorem dL_dayDue_10 : decode cL_dayDue 10 = .ok (.goto 11, 3) := by decide +kernel
theorem dL_dayDue_13 : decode cL_dayDue 13 = .ok (.astore 4, 2) := by decide +kernel
theorem dL_dayDue_15 : decode cL_dayDue 15 = .ok (.iconst 1, 1) := by decide +kernel
theorem dL_dayDue_16 : decode cL_dayDue 16 = .ok (.ireturn, 1) := by decide +kernel
theorem dL_dayDue_17 : decode cL_dayDue 17 = .ok (.astore 4, 2) := by decide +kernel
theorem dL_dayDue_19 : decode cL_dayDue 19 = .ok (.iconst 2, 1) := by decide +kernel
theorem dL_dayDue_20 : decode cL_dayDue 20 = .ok (.ireturn, 1) := by decide +kernel
theorem dL_dayDue_21 : decode cL_dayDue 21 = .ok (.iconst 0, 1) := by decide +kernel
theorem dL_dayDue_22 : decode cL_dayDue 22 = .ok (.ireturn, 1) := by decide +kernel
set_option maxRecDepth 20000 in
theorem ggL_dayKept_X4_dayKept : GoodIn wsL_dayKept wsX4_dayKept := goodIn_ca (goodIn_ca (goodIn_r _ [7, 8, 9, 10, 11, 6, 12, 13, 14, 15, 16, 17, 18, 19, 20, 21, 22, 23, 24, 25, 26, 27, 28, 29, 30, 31, 32, 33, 34, 35, 36, 37, 38, 39, 40, 41, 42, 43, 44, 45, 46, 47, 48, 49, 50, 51, 52, 53, 54, 55, 56, 57, 58, 59, 60, 61, 62, 63, 64, 65, 66, 67, 68, 69, 70, 71, 72, 73, 74, 75, 76, 77, 78, 79, 80, 81, 82, 83, 84, 85, 86, 87, 88, 89, 90, 91, 92, 93, 94, 95, 96] (by decide +kernel) (by decide +kernel)) (goodIn_sub (fun _ h => List.mem_cons_of_mem _ (List.mem_append_left _ (List.mem_append_right _ h))) (by decide +kernel))) (goodIn_sub (fun _ h => List.mem_cons_of_mem _ (List.mem_append_right _ h)) (by decide +kernel))
set_option maxRecDepth 20000 in
theorem gL_dayKept_X4_dayKept : GoodIn wsL_dayKept (wsV RL 67 RX4 yX4_dayKept wsX4_dayKept) := goodIn_app (goodIn_of _ (by decide +kernel)) ggL_dayKept_X4_dayKept
theorem dL_dayKept_0 : decode cL_dayKept 0 = .ok (.aload_n 3, 1) := by decide +kernel
theorem dL_dayKept_1 : decode cL_dayKept 1 = .ok (.iconst 0, 1) := by decide +kernel
theorem dL_dayKept_2 : decode cL_dayKept 2 = .ok (.aload_n 0, 1) := by decide +kernel
theorem dL_dayKept_3 : decode cL_dayKept 3 = .ok (.iload_n 1, 1) := by decide +kernel
theorem dL_dayKept_4 : decode cL_dayKept 4 = .ok (.iload_n 2, 1) := by decide +kernel
theorem dL_dayKept_5 : decode cL_dayKept 5 = .ok (.invokevirtual 67, 3) := by decide +kernel
theorem dL_dayKept_8 : decode cL_dayKept 8 = .ok (.i2l, 1) := by decide +kernel
theorem dL_dayKept_9 : decode cL_dayKept 9 = .ok (.lastore, 1) := by decide +kernel
theorem dL_dayKept_10 : decode cL_dayKept 10 = .ok (.goto 11, 3) := by decide +kernel
theorem dL_dayKept_13 : decode cL_dayKept 13 = .ok (.astore 4, 2) := by decide +kernel
theorem dL_dayKept_15 : decode cL_dayKept 15 = .ok (.iconst 1, 1) := by decide +kernel
theorem dL_dayKept_16 : decode cL_dayKept 16 = .ok (.ireturn, 1) := by decide +kernel
theorem dL_dayKept_17 : decode cL_dayKept 17 = .ok (.astore 4, 2) := by decide +kernel
theorem dL_dayKept_19 : decode cL_dayKept 19 = .ok (.iconst 2, 1) := by decide +kernel
theorem dL_dayKept_20 : decode cL_dayKept 20 = .ok (.ireturn, 1) := by decide +kernel
theorem dL_dayKept_21 : decode cL_dayKept 21 = .ok (.iconst 0, 1) := by decide +kernel
theorem dL_dayKept_22 : decode cL_dayKept 22 = .ok (.ireturn, 1) := by decide +kernel
set_option maxRecDepth 20000 in
theorem ggL_isKept_X4_isKept : GoodIn wsL_isKept wsX4_isKept := goodIn_ca (goodIn_ca (goodIn_r _ [7, 8, 9, 10, 11, 6, 12, 13, 14, 15, 16, 17, 18, 19, 20, 21, 22, 23, 24, 25, 26, 27, 28, 29, 30, 31, 32, 33, 34, 35, 36, 37, 38, 39, 40, 41, 42, 43, 44, 45, 46, 47, 48, 49, 50, 51, 52, 53, 54, 55, 56, 57, 58, 59, 60, 61, 62, 63, 64, 65, 66, 67, 68, 69, 70, 71, 72, 73, 74, 75, 76, 77, 78, 79, 80, 81, 82, 83, 84, 85, 86, 87, 88, 89, 90, 91, 92, 93, 94, 95, 96, 97, 98, 99, 100, 101, 102, 103, 104, 105, 106, 107, 108, 109] (by decide +kernel) (by decide +kernel)) (goodIn_sub (fun _ h => List.mem_cons_of_mem _ (List.mem_append_left _ (List.mem_append_right _ h))) (by decide +kernel))) (goodIn_sub (fun _ h => List.mem_cons_of_mem _ (List.mem_append_right _ h)) (by decide +kernel))
set_option maxRecDepth 20000 in
theorem gL_isKept_X4_isKept : GoodIn wsL_isKept (wsV RL 70 RX4 yX4_isKept wsX4_isKept) := goodIn_app (goodIn_of _ (by decide +kernel)) ggL_isKept_X4_isKept
theorem dL_isKept_0 : decode cL_isKept 0 = .ok (.aload_n 3, 1) := by decide +kernel
theorem dL_isKept_1 : decode cL_isKept 1 = .ok (.iconst 0, 1) := by decide +kernel
theorem dL_isKept_2 : decode cL_isKept 2 = .ok (.aload_n 0, 1) := by decide +kernel
theorem dL_isKept_3 : decode cL_isKept 3 = .ok (.iload_n 1, 1) := by decide +kernel
theorem dL_isKept_4 : decode cL_isKept 4 = .ok (.iload_n 2, 1) := by decide +kernel
theorem dL_isKept_5 : decode cL_isKept 5 = .ok (.invokevirtual 70, 3) := by decide +kernel
theorem dL_isKept_8 : decode cL_isKept 8 = .ok (.ifCond .eq 7, 3) := by decide +kernel
theorem dL_isKept_11 : decode cL_isKept 11 = .ok (.lconst 1, 1) := by decide +kernel
theorem dL_isKept_12 : decode cL_isKept 12 = .ok (.goto 4, 3) := by decide +kernel
theorem dL_isKept_15 : decode cL_isKept 15 = .ok (.lconst 0, 1) := by decide +kernel
theorem dL_isKept_16 : decode cL_isKept 16 = .ok (.lastore, 1) := by decide +kernel
theorem dL_isKept_17 : decode cL_isKept 17 = .ok (.goto 11, 3) := by decide +kernel
theorem dL_isKept_20 : decode cL_isKept 20 = .ok (.astore 4, 2) := by decide +kernel
theorem dL_isKept_22 : decode cL_isKept 22 = .ok (.iconst 1, 1) := by decide +kernel
theorem dL_isKept_23 : decode cL_isKept 23 = .ok (.ireturn, 1) := by decide +kernel
theorem dL_isKept_24 : decode cL_isKept 24 = .ok (.astore 4, 2) := by decide +kernel
theorem dL_isKept_26 : decode cL_isKept 26 = .ok (.iconst 2, 1) := by decide +kernel
theorem dL_isKept_27 : decode cL_isKept 27 = .ok (.ireturn, 1) := by decide +kernel
theorem dL_isKept_28 : decode cL_isKept 28 = .ok (.iconst 0, 1) := by decide +kernel
theorem dL_isKept_29 : decode cL_isKept 29 = .ok (.ireturn, 1) := by decide +kernel
set_option maxRecDepth 20000 in
theorem ggL_feastsOn_X4_feastsOn : GoodIn wsL_feastsOn wsX4_feastsOn := goodIn_ca (goodIn_r _ [6, 7, 8, 9, 10, 5, 11, 12, 13, 14, 15, 16, 17, 18, 19, 20, 21, 22, 23, 24, 25, 26, 27, 28, 29, 30, 31, 32, 33, 34, 35, 36, 37, 38, 39, 40, 41, 42, 43, 44, 45, 46, 47, 48, 49, 50, 51, 52, 53, 54, 55, 56, 57, 58, 59, 60, 61, 62, 63, 64, 65, 66, 67, 68, 69, 70, 71, 72, 73, 74, 75, 76, 77, 78, 79, 80, 81, 82, 83, 84, 85, 86, 87, 88, 89, 90, 91, 92, 93, 94, 95, 96, 97, 98, 99, 100, 101, 102] (by decide +kernel) (by decide +kernel)) (goodIn_sub (fun _ h => List.mem_cons_of_mem _ (List.mem_append_right _ h)) (by decide +kernel))
set_option maxRecDepth 20000 in
theorem gL_feastsOn_X4_feastsOn : GoodIn wsL_feastsOn (wsV RL 74 RX4 yX4_feastsOn wsX4_feastsOn) := goodIn_app (goodIn_of _ (by decide +kernel)) ggL_feastsOn_X4_feastsOn
theorem dL_feastsOn_0 : decode cL_feastsOn 0 = .ok (.aload_n 2, 1) := by decide +kernel
theorem dL_feastsOn_1 : decode cL_feastsOn 1 = .ok (.iconst 0, 1) := by decide +kernel
theorem dL_feastsOn_2 : decode cL_feastsOn 2 = .ok (.aload_n 0, 1) := by decide +kernel
theorem dL_feastsOn_3 : decode cL_feastsOn 3 = .ok (.iload_n 1, 1) := by decide +kernel
theorem dL_feastsOn_4 : decode cL_feastsOn 4 = .ok (.invokevirtual 74, 3) := by decide +kernel
theorem dL_feastsOn_7 : decode cL_feastsOn 7 = .ok (.i2l, 1) := by decide +kernel
theorem dL_feastsOn_8 : decode cL_feastsOn 8 = .ok (.lastore, 1) := by decide +kernel
theorem dL_feastsOn_9 : decode cL_feastsOn 9 = .ok (.goto 6, 3) := by decide +kernel
theorem dL_feastsOn_12 : decode cL_feastsOn 12 = .ok (.astore_n 3, 1) := by decide +kernel
theorem dL_feastsOn_13 : decode cL_feastsOn 13 = .ok (.iconst 1, 1) := by decide +kernel
theorem dL_feastsOn_14 : decode cL_feastsOn 14 = .ok (.ireturn, 1) := by decide +kernel
theorem dL_feastsOn_15 : decode cL_feastsOn 15 = .ok (.iconst 0, 1) := by decide +kernel
theorem dL_feastsOn_16 : decode cL_feastsOn 16 = .ok (.ireturn, 1) := by decide +kernel
set_option maxRecDepth 20000 in
theorem ggL_isQuarrel_X4_isQuarrel : GoodIn wsL_isQuarrel wsX4_isQuarrel := goodIn_ca (goodIn_r _ [6, 7, 8, 5, 9, 10, 11, 12, 13, 14, 15, 16, 17, 18, 19, 20, 21, 22, 23, 24, 25, 26, 27, 28, 29, 30, 31, 32, 33, 34, 35, 36, 37, 38, 39, 40, 41, 42, 43, 44, 45, 46, 47, 48, 49, 50, 51, 52, 53, 54, 55, 56, 57, 58, 59, 60, 61, 62, 63, 64, 65, 66, 67, 68, 69, 70, 71, 72, 73, 74, 75, 76, 77, 78, 79, 80, 81, 82, 83, 84, 85, 86, 87, 88, 89, 90, 91, 92, 93, 94, 95, 96, 97, 98, 99, 100, 101, 102, 103, 104, 105, 106, 107, 108, 109, 110, 111, 112, 113, 114] (by decide +kernel) (by decide +kernel)) (goodIn_sub (fun _ h => List.mem_cons_of_mem _ (List.mem_append_right _ h)) (by decide +kernel))
set_option maxRecDepth 20000 in
theorem gL_isQuarrel_X4_isQuarrel : GoodIn wsL_isQuarrel (wsV RL 77 RX4 yX4_isQuarrel wsX4_isQuarrel) := goodIn_app (goodIn_of _ (by decide +kernel)) ggL_isQuarrel_X4_isQuarrel
theorem dL_isQuarrel_0 : decode cL_isQuarrel 0 = .ok (.aload_n 2, 1) := by decide +kernel
theorem dL_isQuarrel_1 : decode cL_isQuarrel 1 = .ok (.iconst 0, 1) := by decide +kernel
theorem dL_isQuarrel_2 : decode cL_isQuarrel 2 = .ok (.aload_n 0, 1) := by decide +kernel
theorem dL_isQuarrel_3 : decode cL_isQuarrel 3 = .ok (.iload_n 1, 1) := by decide +kernel
theorem dL_isQuarrel_4 : decode cL_isQuarrel 4 = .ok (.invokevirtual 77, 3) := by decide +kernel
theorem dL_isQuarrel_7 : decode cL_isQuarrel 7 = .ok (.ifCond .eq 7, 3) := by decide +kernel
theorem dL_isQuarrel_10 : decode cL_isQuarrel 10 = .ok (.lconst 1, 1) := by decide +kernel
theorem dL_isQuarrel_11 : decode cL_isQuarrel 11 = .ok (.goto 4, 3) := by decide +kernel
theorem dL_isQuarrel_14 : decode cL_isQuarrel 14 = .ok (.lconst 0, 1) := by decide +kernel
theorem dL_isQuarrel_15 : decode cL_isQuarrel 15 = .ok (.lastore, 1) := by decide +kernel
theorem dL_isQuarrel_16 : decode cL_isQuarrel 16 = .ok (.goto 6, 3) := by decide +kernel
theorem dL_isQuarrel_19 : decode cL_isQuarrel 19 = .ok (.astore_n 3, 1) := by decide +kernel
theorem dL_isQuarrel_20 : decode cL_isQuarrel 20 = .ok (.iconst 1, 1) := by decide +kernel
theorem dL_isQuarrel_21 : decode cL_isQuarrel 21 = .ok (.ireturn, 1) := by decide +kernel
theorem dL_isQuarrel_22 : decode cL_isQuarrel 22 = .ok (.iconst 0, 1) := by decide +kernel
theorem dL_isQuarrel_23 : decode cL_isQuarrel 23 = .ok (.ireturn, 1) := by decide +kernel
set_option maxRecDepth 20000 in
theorem ggL_setShift_X4_setShift : GoodIn wsL_setShift wsX4_setShift := goodIn_ca (goodIn_r _ [6, 7, 8, 9, 5, 10, 11, 12, 13, 14, 15, 16, 17, 18, 19, 20, 21, 22, 23, 24, 25, 26, 27, 28, 29, 30, 31, 32, 33, 34, 35, 36, 37, 38, 39, 40, 41, 42, 43, 44, 45, 46, 47, 48, 49, 50, 51, 52, 53, 54, 55, 56, 57, 58, 59, 60, 61, 62, 63, 64, 65, 66, 67, 68, 69, 70, 71, 72, 73, 74, 75, 76, 77, 78, 79] (by decide +kernel) (by decide +kernel)) (goodIn_sub (fun _ h => List.mem_cons_of_mem _ (List.mem_append_right _ h)) (by decide +kernel))
set_option maxRecDepth 20000 in
theorem gL_setShift_X4_setShift : GoodIn wsL_setShift (wsV RL 81 RX4 yX4_setShift wsX4_setShift) := goodIn_app (goodIn_of _ (by decide +kernel)) ggL_setShift_X4_setShift
theorem dL_setShift_0 : decode cL_setShift 0 = .ok (.aload_n 2, 1) := by decide +kernel
theorem dL_setShift_1 : decode cL_setShift 1 = .ok (.iconst 0, 1) := by decide +kernel
theorem dL_setShift_2 : decode cL_setShift 2 = .ok (.aload_n 0, 1) := by decide +kernel
theorem dL_setShift_3 : decode cL_setShift 3 = .ok (.iload_n 1, 1) := by decide +kernel
theorem dL_setShift_4 : decode cL_setShift 4 = .ok (.invokevirtual 81, 3) := by decide +kernel
theorem dL_setShift_7 : decode cL_setShift 7 = .ok (.i2l, 1) := by decide +kernel
theorem dL_setShift_8 : decode cL_setShift 8 = .ok (.lastore, 1) := by decide +kernel
theorem dL_setShift_9 : decode cL_setShift 9 = .ok (.goto 6, 3) := by decide +kernel
theorem dL_setShift_12 : decode cL_setShift 12 = .ok (.astore_n 3, 1) := by decide +kernel
theorem dL_setShift_13 : decode cL_setShift 13 = .ok (.iconst 1, 1) := by decide +kernel
theorem dL_setShift_14 : decode cL_setShift 14 = .ok (.ireturn, 1) := by decide +kernel
theorem dL_setShift_15 : decode cL_setShift 15 = .ok (.iconst 0, 1) := by decide +kernel
theorem dL_setShift_16 : decode cL_setShift 16 = .ok (.ireturn, 1) := by decide +kernel
set_option maxRecDepth 20000 in
theorem ggL_setCopiesPerDay_X4_setCopiesPerDay : GoodIn wsL_setCopiesPerDay wsX4_setCopiesPerDay := goodIn_ca (goodIn_r _ [6, 7, 8, 9, 5, 10, 11, 12, 13, 14, 15, 16, 17, 18, 19, 20, 21, 22, 23, 24, 25, 26, 27, 28, 29, 30, 31, 32, 33, 34, 35, 36, 37, 38, 39, 40, 41, 42, 43, 44, 45, 46, 47, 48, 49, 50, 51, 52, 53, 54, 55, 56, 57, 58, 59, 60, 61, 62, 63, 64, 65, 66, 67, 68, 69, 70, 71, 72, 73, 74, 75, 76, 77, 78, 79] (by decide +kernel) (by decide +kernel)) (goodIn_sub (fun _ h => List.mem_cons_of_mem _ (List.mem_append_right _ h)) (by decide +kernel))
set_option maxRecDepth 20000 in
theorem gL_setCopiesPerDay_X4_setCopiesPerDay : GoodIn wsL_setCopiesPerDay (wsV RL 84 RX4 yX4_setCopiesPerDay wsX4_setCopiesPerDay) := goodIn_app (goodIn_of _ (by decide +kernel)) ggL_setCopiesPerDay_X4_setCopiesPerDay
theorem dL_setCopiesPerDay_0 : decode cL_setCopiesPerDay 0 = .ok (.aload_n 2, 1) := by decide +kernel
theorem dL_setCopiesPerDay_1 : decode cL_setCopiesPerDay 1 = .ok (.iconst 0, 1) := by decide +kernel
theorem dL_setCopiesPerDay_2 : decode cL_setCopiesPerDay 2 = .ok (.aload_n 0, 1) := by decide +kernel
theorem dL_setCopiesPerDay_3 : decode cL_setCopiesPerDay 3 = .ok (.iload_n 1, 1) := by decide +kernel
theorem dL_setCopiesPerDay_4 : decode cL_setCopiesPerDay 4 = .ok (.invokevirtual 84, 3) := by decide +kernel
theorem dL_setCopiesPerDay_7 : decode cL_setCopiesPerDay 7 = .ok (.i2l, 1) := by decide +kernel
theorem dL_setCopiesPerDay_8 : decode cL_setCopiesPerDay 8 = .ok (.lastore, 1) := by decide +kernel
theorem dL_setCopiesPerDay_9 : decode cL_setCopiesPerDay 9 = .ok (.goto 6, 3) := by decide +kernel
theorem dL_setCopiesPerDay_12 : decode cL_setCopiesPerDay 12 = .ok (.astore_n 3, 1) := by decide +kernel
theorem dL_setCopiesPerDay_13 : decode cL_setCopiesPerDay 13 = .ok (.iconst 1, 1) := by decide +kernel
theorem dL_setCopiesPerDay_14 : decode cL_setCopiesPerDay 14 = .ok (.ireturn, 1) := by decide +kernel
theorem dL_setCopiesPerDay_15 : decode cL_setCopiesPerDay 15 = .ok (.iconst 0, 1) := by decide +kernel
theorem dL_setCopiesPerDay_16 : decode cL_setCopiesPerDay 16 = .ok (.ireturn, 1) := by decide +kernel
set_option maxRecDepth 20000 in
theorem ggL_passDays_X4_passDays : GoodIn wsL_passDays wsX4_passDays := goodIn_ca (goodIn_ca (goodIn_r _ [7, 8, 9, 10, 11, 12, 13, 6, 14, 15, 16, 17, 18, 19, 20, 21, 22, 23, 24, 25, 26, 27, 28, 29, 30, 31, 32, 33, 34, 35, 36, 37, 38, 39, 40, 41, 42, 43, 44, 45, 46, 47, 48, 49, 50, 51, 52, 53, 54, 55, 56, 57, 58, 59, 60, 61, 62, 63, 64, 65, 66, 67, 68, 69, 70, 71, 72, 73, 74, 75, 76, 77, 78, 79, 80, 81, 82, 83, 84, 85, 86, 87, 88, 89, 90, 91, 92, 93, 94, 95, 96, 97, 98, 99, 100, 101, 102, 103, 104, 105, 106, 107, 108, 109, 110, 111, 112, 113, 114, 115, 116, 117, 118, 119, 120, 121, 122, 123, 124, 125, 126, 127, 128, 129, 130, 131, 132, 133, 134, 135, 136, 137, 138, 139, 140, 141, 142, 143, 144, 145, 146, 147, 148, 149, 150, 151, 152, 153, 154, 155, 156, 157, 158, 159, 160] (by decide +kernel) (by decide +kernel)) (goodIn_sub (fun _ h => List.mem_cons_of_mem _ (List.mem_append_left _ (List.mem_append_right _ h))) (by decide +kernel))) (goodIn_sub (fun _ h => List.mem_cons_of_mem _ (List.mem_append_right _ h)) (by decide +kernel))
set_option maxRecDepth 20000 in
theorem gL_passDays_X4_passDays : GoodIn wsL_passDays (wsV RL 87 RX4 yX4_passDays wsX4_passDays) := goodIn_app (goodIn_of _ (by decide +kernel)) ggL_passDays_X4_passDays
theorem dL_passDays_0 : decode cL_passDays 0 = .ok (.aload_n 2, 1) := by decide +kernel
theorem dL_passDays_1 : decode cL_passDays 1 = .ok (.iconst 0, 1) := by decide +kernel
theorem dL_passDays_2 : decode cL_passDays 2 = .ok (.aload_n 0, 1) := by decide +kernel
theorem dL_passDays_3 : decode cL_passDays 3 = .ok (.iload_n 1, 1) := by decide +kernel
theorem dL_passDays_4 : decode cL_passDays 4 = .ok (.invokevirtual 87, 3) := by decide +kernel
theorem dL_passDays_7 : decode cL_passDays 7 = .ok (.i2l, 1) := by decide +kernel
theorem dL_passDays_8 : decode cL_passDays 8 = .ok (.lastore, 1) := by decide +kernel
theorem dL_passDays_9 : decode cL_passDays 9 = .ok (.goto 9, 3) := by decide +kernel
theorem dL_passDays_12 : decode cL_passDays 12 = .ok (.astore_n 3, 1) := by decide +kernel
theorem dL_passDays_13 : decode cL_passDays 13 = .ok (.iconst 1, 1) := by decide +kernel
theorem dL_passDays_14 : decode cL_passDays 14 = .ok (.ireturn, 1) := by decide +kernel
theorem dL_passDays_15 : decode cL_passDays 15 = .ok (.astore_n 3, 1) := by decide +kernel
theorem dL_passDays_16 : decode cL_passDays 16 = .ok (.iconst 2, 1) := by decide +kernel
theorem dL_passDays_17 : decode cL_passDays 17 = .ok (.ireturn, 1) := by decide +kernel
theorem dL_passDays_18 : decode cL_passDays 18 = .ok (.iconst 0, 1) := by decide +kernel
theorem dL_passDays_19 : decode cL_passDays 19 = .ok (.ireturn, 1) := by decide +kernel
set_option maxRecDepth 20000 in
theorem ggL_feastsKept_X4_feastsKept : GoodIn wsL_feastsKept wsX4_feastsKept := goodIn_ca (goodIn_r _ [6, 7, 8, 9, 5, 10, 11, 12, 13, 14, 15, 16, 17, 18, 19, 20, 21, 22, 23, 24, 25, 26, 27, 28, 29, 30, 31, 32, 33, 34, 35, 36, 37, 38, 39, 40, 41, 42, 43, 44] (by decide +kernel) (by decide +kernel)) (goodIn_sub (fun _ h => List.mem_cons_of_mem _ (List.mem_append_right _ h)) (by decide +kernel))
set_option maxRecDepth 20000 in
theorem gL_feastsKept_X4_feastsKept : GoodIn wsL_feastsKept (wsV RL 90 RX4 yX4_feastsKept wsX4_feastsKept) := goodIn_app (goodIn_of _ (by decide +kernel)) ggL_feastsKept_X4_feastsKept
theorem dL_feastsKept_0 : decode cL_feastsKept 0 = .ok (.aload_n 2, 1) := by decide +kernel
theorem dL_feastsKept_1 : decode cL_feastsKept 1 = .ok (.iconst 0, 1) := by decide +kernel
theorem dL_feastsKept_2 : decode cL_feastsKept 2 = .ok (.aload_n 0, 1) := by decide +kernel
theorem dL_feastsKept_3 : decode cL_feastsKept 3 = .ok (.iload_n 1, 1) := by decide +kernel
theorem dL_feastsKept_4 : decode cL_feastsKept 4 = .ok (.invokevirtual 90, 3) := by decide +kernel
theorem dL_feastsKept_7 : decode cL_feastsKept 7 = .ok (.i2l, 1) := by decide +kernel
theorem dL_feastsKept_8 : decode cL_feastsKept 8 = .ok (.lastore, 1) := by decide +kernel
theorem dL_feastsKept_9 : decode cL_feastsKept 9 = .ok (.goto 6, 3) := by decide +kernel
theorem dL_feastsKept_12 : decode cL_feastsKept 12 = .ok (.astore_n 3, 1) := by decide +kernel
theorem dL_feastsKept_13 : decode cL_feastsKept 13 = .ok (.iconst 1, 1) := by decide +kernel
theorem dL_feastsKept_14 : decode cL_feastsKept 14 = .ok (.ireturn, 1) := by decide +kernel
theorem dL_feastsKept_15 : decode cL_feastsKept 15 = .ok (.iconst 0, 1) := by decide +kernel
theorem dL_feastsKept_16 : decode cL_feastsKept 16 = .ok (.ireturn, 1) := by decide +kernel
set_option maxRecDepth 20000 in
theorem ggL_nextDay_X4_nextDay : GoodIn wsL_nextDay wsX4_nextDay := goodIn_ca (goodIn_r _ [6, 7, 8, 9, 10, 5, 11, 12, 13, 14, 15, 16, 17, 18, 19, 20, 21, 22, 23, 24, 25, 26, 27, 28, 29, 30, 31, 32, 33, 34, 35, 36, 37, 38, 39, 40, 41, 42, 43, 44, 45, 46, 47, 48, 49, 50, 51, 52, 53, 54, 55, 56, 57, 58, 59, 60, 61, 62, 63, 64, 65, 66, 67, 68, 69, 70, 71, 72, 73, 74, 75, 76, 77, 78, 79, 80, 81, 82, 83, 84, 85, 86, 87, 88, 89, 90, 91, 92, 93, 94, 95, 96, 97, 98, 99, 100, 101, 102, 103] (by decide +kernel) (by decide +kernel)) (goodIn_sub (fun _ h => List.mem_cons_of_mem _ (List.mem_append_right _ h)) (by decide +kernel))
set_option maxRecDepth 20000 in
theorem gL_nextDay_X4_nextDay : GoodIn wsL_nextDay (wsV RL 93 RX4 yX4_nextDay wsX4_nextDay) := goodIn_app (goodIn_of _ (by decide +kernel)) ggL_nextDay_X4_nextDay
theorem dL_nextDay_0 : decode cL_nextDay 0 = .ok (.aload_n 2, 1) := by decide +kernel
theorem dL_nextDay_1 : decode cL_nextDay 1 = .ok (.iconst 0, 1) := by decide +kernel
theorem dL_nextDay_2 : decode cL_nextDay 2 = .ok (.aload_n 0, 1) := by decide +kernel
theorem dL_nextDay_3 : decode cL_nextDay 3 = .ok (.iload_n 1, 1) := by decide +kernel
theorem dL_nextDay_4 : decode cL_nextDay 4 = .ok (.invokevirtual 93, 3) := by decide +kernel
theorem dL_nextDay_7 : decode cL_nextDay 7 = .ok (.i2l, 1) := by decide +kernel
theorem dL_nextDay_8 : decode cL_nextDay 8 = .ok (.lastore, 1) := by decide +kernel
theorem dL_nextDay_9 : decode cL_nextDay 9 = .ok (.goto 6, 3) := by decide +kernel
theorem dL_nextDay_12 : decode cL_nextDay 12 = .ok (.astore_n 3, 1) := by decide +kernel
theorem dL_nextDay_13 : decode cL_nextDay 13 = .ok (.iconst 1, 1) := by decide +kernel
theorem dL_nextDay_14 : decode cL_nextDay 14 = .ok (.ireturn, 1) := by decide +kernel
theorem dL_nextDay_15 : decode cL_nextDay 15 = .ok (.iconst 0, 1) := by decide +kernel
theorem dL_nextDay_16 : decode cL_nextDay 16 = .ok (.ireturn, 1) := by decide +kernel
set_option maxRecDepth 20000 in
theorem ggL_daysUntilMeeting_X4_daysUntilMeeting : GoodIn wsL_daysUntilMeeting wsX4_daysUntilMeeting := goodIn_ca (goodIn_ca (goodIn_r _ [7, 8, 9, 10, 11, 12, 13, 6, 14, 15, 16, 17, 18, 19, 20, 21, 22, 23, 24, 25, 26, 27, 28, 29, 30, 31, 32, 33, 34, 35, 36, 37, 38, 39, 40, 41, 42, 43, 44, 45, 46, 47, 48, 49, 50, 51, 52, 53, 54, 55, 56, 57, 58, 59, 60, 61, 62, 63, 64, 65, 66, 67, 68, 69, 70, 71, 72, 73, 74, 75, 76, 77, 78, 79, 80, 81, 82, 83, 84, 85, 86, 87, 88, 89, 90, 91, 92, 93, 94, 95, 96, 97, 98, 99, 100, 101, 102, 103, 104, 105, 106, 107, 108, 109, 110] (by decide +kernel) (by decide +kernel)) (goodIn_sub (fun _ h => List.mem_cons_of_mem _ (List.mem_append_left _ (List.mem_append_right _ h))) (by decide +kernel))) (goodIn_sub (fun _ h => List.mem_cons_of_mem _ (List.mem_append_right _ h)) (by decide +kernel))
set_option maxRecDepth 20000 in
theorem gL_daysUntilMeeting_X4_daysUntilMeeting : GoodIn wsL_daysUntilMeeting (wsV RL 96 RX4 yX4_daysUntilMeeting wsX4_daysUntilMeeting) := goodIn_app (goodIn_of _ (by decide +kernel)) ggL_daysUntilMeeting_X4_daysUntilMeeting
theorem dL_daysUntilMeeting_0 : decode cL_daysUntilMeeting 0 = .ok (.aload_n 3, 1) := by decide +kernel
theorem dL_daysUntilMeeting_1 : decode cL_daysUntilMeeting 1 = .ok (.iconst 0, 1) := by decide +kernel
theorem dL_daysUntilMeeting_2 : decode cL_daysUntilMeeting 2 = .ok (.aload_n 0, 1) := by decide +kernel
theorem dL_daysUntilMeeting_3 : decode cL_daysUntilMeeting 3 = .ok (.iload_n 1, 1) := by decide +kernel
theorem dL_daysUntilMeeting_4 : decode cL_daysUntilMeeting 4 = .ok (.iload_n 2, 1) := by decide +kernel
theorem dL_daysUntilMeeting_5 : decode cL_daysUntilMeeting 5 = .ok (.invokevirtual 96, 3) := by decide +kernel
theorem dL_daysUntilMeeting_8 : decode cL_daysUntilMeeting 8 = .ok (.i2l, 1) := by decide +kernel
theorem dL_daysUntilMeeting_9 : decode cL_daysUntilMeeting 9 = .ok (.lastore, 1) := by decide +kernel
theorem dL_daysUntilMeeting_10 : decode cL_daysUntilMeeting 10 = .ok (.goto 11, 3) := by decide +kernel
theorem dL_daysUntilMeeting_13 : decode cL_daysUntilMeeting 13 = .ok (.astore 4, 2) := by decide +kernel
theorem dL_daysUntilMeeting_15 : decode cL_daysUntilMeeting 15 = .ok (.iconst 1, 1) := by decide +kernel
theorem dL_daysUntilMeeting_16 : decode cL_daysUntilMeeting 16 = .ok (.ireturn, 1) := by decide +kernel
theorem dL_daysUntilMeeting_17 : decode cL_daysUntilMeeting 17 = .ok (.astore 4, 2) := by decide +kernel
theorem dL_daysUntilMeeting_19 : decode cL_daysUntilMeeting 19 = .ok (.iconst 2, 1) := by decide +kernel
theorem dL_daysUntilMeeting_20 : decode cL_daysUntilMeeting 20 = .ok (.ireturn, 1) := by decide +kernel
theorem dL_daysUntilMeeting_21 : decode cL_daysUntilMeeting 21 = .ok (.iconst 0, 1) := by decide +kernel
theorem dL_daysUntilMeeting_22 : decode cL_daysUntilMeeting 22 = .ok (.ireturn, 1) := by decide +kernel
set_option maxRecDepth 20000 in
theorem ggL_quarrelsWithin_X4_quarrelsWithin : GoodIn wsL_quarrelsWithin wsX4_quarrelsWithin := goodIn_ca (goodIn_r _ [6, 7, 8, 9, 5, 10, 11, 12, 13, 14, 15, 16, 17, 18, 19, 20, 21, 22, 23, 24, 25, 26, 27, 28, 29, 30, 31, 32, 33, 34, 35, 36, 37, 38, 39, 40, 41, 42, 43, 44, 45, 46, 47, 48, 49, 50, 51, 52, 53, 54, 55, 56, 57, 58, 59, 60, 61, 62, 63, 64, 65, 66, 67, 68, 69, 70, 71, 72, 73, 74, 75, 76, 77, 78, 79, 80, 81, 82, 83, 84, 85, 86, 87, 88, 89, 90, 91, 92, 93, 94, 95, 96, 97, 98, 99, 100, 101, 102, 103, 104, 105, 106, 107, 108, 109, 110, 111, 112, 113, 114] (by decide +kernel) (by decide +kernel)) (goodIn_sub (fun _ h => List.mem_cons_of_mem _ (List.mem_append_right _ h)) (by decide +kernel))
set_option maxRecDepth 20000 in
theorem gL_quarrelsWithin_X4_quarrelsWithin : GoodIn wsL_quarrelsWithin (wsV RL 99 RX4 yX4_quarrelsWithin wsX4_quarrelsWithin) := goodIn_app (goodIn_of _ (by decide +kernel)) ggL_quarrelsWithin_X4_quarrelsWithin
theorem dL_quarrelsWithin_0 : decode cL_quarrelsWithin 0 = .ok (.aload_n 2, 1) := by decide +kernel
theorem dL_quarrelsWithin_1 : decode cL_quarrelsWithin 1 = .ok (.iconst 0, 1) := by decide +kernel
theorem dL_quarrelsWithin_2 : decode cL_quarrelsWithin 2 = .ok (.aload_n 0, 1) := by decide +kernel
theorem dL_quarrelsWithin_3 : decode cL_quarrelsWithin 3 = .ok (.iload_n 1, 1) := by decide +kernel
theorem dL_quarrelsWithin_4 : decode cL_quarrelsWithin 4 = .ok (.invokevirtual 99, 3) := by decide +kernel
theorem dL_quarrelsWithin_7 : decode cL_quarrelsWithin 7 = .ok (.i2l, 1) := by decide +kernel
theorem dL_quarrelsWithin_8 : decode cL_quarrelsWithin 8 = .ok (.lastore, 1) := by decide +kernel
theorem dL_quarrelsWithin_9 : decode cL_quarrelsWithin 9 = .ok (.goto 6, 3) := by decide +kernel
theorem dL_quarrelsWithin_12 : decode cL_quarrelsWithin 12 = .ok (.astore_n 3, 1) := by decide +kernel
theorem dL_quarrelsWithin_13 : decode cL_quarrelsWithin 13 = .ok (.iconst 1, 1) := by decide +kernel
theorem dL_quarrelsWithin_14 : decode cL_quarrelsWithin 14 = .ok (.ireturn, 1) := by decide +kernel
theorem dL_quarrelsWithin_15 : decode cL_quarrelsWithin 15 = .ok (.iconst 0, 1) := by decide +kernel
theorem dL_quarrelsWithin_16 : decode cL_quarrelsWithin 16 = .ok (.ireturn, 1) := by decide +kernel
set_option maxRecDepth 20000 in
theorem ggL_bestBarredWeekday_X4_bestBarredWeekday : GoodIn wsL_bestBarredWeekday wsX4_bestBarredWeekday := goodIn_ca (goodIn_r _ [6, 7, 8, 9, 10, 5, 11, 12, 13, 14, 15, 16, 17, 18, 19, 20, 21, 22, 23, 24, 25, 26, 27, 28, 29, 30, 31, 32, 33, 34, 35, 36, 37, 38, 39, 40, 41, 42, 43, 44, 45, 46, 47, 48, 49, 50, 51, 52, 53, 54, 55, 56, 57, 58, 59, 60, 61, 62, 63, 64, 65, 66, 67, 68, 69, 70, 71, 72, 73, 74, 75, 76, 77, 78, 79, 80, 81, 82, 83, 84, 85, 86, 87, 88, 89, 90, 91, 92, 93, 94, 95, 96, 97, 98, 99, 100, 101, 102, 103, 104, 105, 106, 107, 108, 109, 110, 111, 112, 113, 114, 115, 116, 117, 118] (by decide +kernel) (by decide +kernel)) (goodIn_sub (fun _ h => List.mem_cons_of_mem _ (List.mem_append_right _ h)) (by decide +kernel))
set_option maxRecDepth 20000 in
theorem gL_bestBarredWeekday_X4_bestBarredWeekday : GoodIn wsL_bestBarredWeekday (wsV RL 102 RX4 yX4_bestBarredWeekday wsX4_bestBarredWeekday) := goodIn_app (goodIn_of _ (by decide +kernel)) ggL_bestBarredWeekday_X4_bestBarredWeekday
theorem dL_bestBarredWeekday_0 : decode cL_bestBarredWeekday 0 = .ok (.aload_n 2, 1) := by decide +kernel
theorem dL_bestBarredWeekday_1 : decode cL_bestBarredWeekday 1 = .ok (.iconst 0, 1) := by decide +kernel
theorem dL_bestBarredWeekday_2 : decode cL_bestBarredWeekday 2 = .ok (.aload_n 0, 1) := by decide +kernel
theorem dL_bestBarredWeekday_3 : decode cL_bestBarredWeekday 3 = .ok (.iload_n 1, 1) := by decide +kernel
theorem dL_bestBarredWeekday_4 : decode cL_bestBarredWeekday 4 = .ok (.invokevirtual 102, 3) := by decide +kernel
theorem dL_bestBarredWeekday_7 : decode cL_bestBarredWeekday 7 = .ok (.i2l, 1) := by decide +kernel
theorem dL_bestBarredWeekday_8 : decode cL_bestBarredWeekday 8 = .ok (.lastore, 1) := by decide +kernel
theorem dL_bestBarredWeekday_9 : decode cL_bestBarredWeekday 9 = .ok (.goto 6, 3) := by decide +kernel
theorem dL_bestBarredWeekday_12 : decode cL_bestBarredWeekday 12 = .ok (.astore_n 3, 1) := by decide +kernel
theorem dL_bestBarredWeekday_13 : decode cL_bestBarredWeekday 13 = .ok (.iconst 1, 1) := by decide +kernel
theorem dL_bestBarredWeekday_14 : decode cL_bestBarredWeekday 14 = .ok (.ireturn, 1) := by decide +kernel
theorem dL_bestBarredWeekday_15 : decode cL_bestBarredWeekday 15 = .ok (.iconst 0, 1) := by decide +kernel
theorem dL_bestBarredWeekday_16 : decode cL_bestBarredWeekday 16 = .ok (.ireturn, 1) := by decide +kernel
set_option maxRecDepth 20000 in
theorem ggL_appendText_X4_appendText : GoodIn wsL_appendText wsX4_appendText := goodIn_ca (goodIn_ca (goodIn_r _ [7, 8, 9, 10, 11, 12, 13, 14, 6, 15, 16, 17, 18, 19, 20, 21, 22, 23, 24, 25, 26, 27, 28, 29, 30, 31, 32, 33, 34, 35] (by decide +kernel) (by decide +kernel)) (goodIn_sub (fun _ h => List.mem_cons_of_mem _ (List.mem_append_left _ (List.mem_append_right _ h))) (by decide +kernel))) (goodIn_sub (fun _ h => List.mem_cons_of_mem _ (List.mem_append_right _ h)) (by decide +kernel))
set_option maxRecDepth 20000 in
theorem gL_appendText_X4_appendText : GoodIn wsL_appendText (wsV RL 105 RX4 yX4_appendText wsX4_appendText) := goodIn_app (goodIn_of _ (by decide +kernel)) ggL_appendText_X4_appendText
theorem dL_appendText_0 : decode cL_appendText 0 = .ok (.aload_n 3, 1) := by decide +kernel
theorem dL_appendText_1 : decode cL_appendText 1 = .ok (.iconst 0, 1) := by decide +kernel
theorem dL_appendText_2 : decode cL_appendText 2 = .ok (.aload_n 0, 1) := by decide +kernel
theorem dL_appendText_3 : decode cL_appendText 3 = .ok (.lload_n 1, 1) := by decide +kernel
theorem dL_appendText_4 : decode cL_appendText 4 = .ok (.invokevirtual 105, 3) := by decide +kernel
theorem dL_appendText_7 : decode cL_appendText 7 = .ok (.i2l, 1) := by decide +kernel
theorem dL_appendText_8 : decode cL_appendText 8 = .ok (.lastore, 1) := by decide +kernel
theorem dL_appendText_9 : decode cL_appendText 9 = .ok (.goto 11, 3) := by decide +kernel
theorem dL_appendText_12 : decode cL_appendText 12 = .ok (.astore 4, 2) := by decide +kernel
theorem dL_appendText_14 : decode cL_appendText 14 = .ok (.iconst 1, 1) := by decide +kernel
theorem dL_appendText_15 : decode cL_appendText 15 = .ok (.ireturn, 1) := by decide +kernel
theorem dL_appendText_16 : decode cL_appendText 16 = .ok (.astore 4, 2) := by decide +kernel
theorem dL_appendText_18 : decode cL_appendText 18 = .ok (.iconst 2, 1) := by decide +kernel
theorem dL_appendText_19 : decode cL_appendText 19 = .ok (.ireturn, 1) := by decide +kernel
theorem dL_appendText_20 : decode cL_appendText 20 = .ok (.iconst 0, 1) := by decide +kernel
theorem dL_appendText_21 : decode cL_appendText 21 = .ok (.ireturn, 1) := by decide +kernel
set_option maxRecDepth 20000 in
theorem ggL_textCharacter_X4_textCharacter : GoodIn wsL_textCharacter wsX4_textCharacter := goodIn_ca (goodIn_r _ [6, 7, 8, 9, 5, 10, 11, 12, 13, 14, 15, 16, 17, 18, 19, 20, 21] (by decide +kernel) (by decide +kernel)) (goodIn_sub (fun _ h => List.mem_cons_of_mem _ (List.mem_append_right _ h)) (by decide +kernel))
set_option maxRecDepth 20000 in
theorem gL_textCharacter_X4_textCharacter : GoodIn wsL_textCharacter (wsV RL 109 RX4 yX4_textCharacter wsX4_textCharacter) := goodIn_app (goodIn_of _ (by decide +kernel)) ggL_textCharacter_X4_textCharacter
theorem dL_textCharacter_0 : decode cL_textCharacter 0 = .ok (.aload_n 2, 1) := by decide +kernel
theorem dL_textCharacter_1 : decode cL_textCharacter 1 = .ok (.iconst 0, 1) := by decide +kernel
theorem dL_textCharacter_2 : decode cL_textCharacter 2 = .ok (.aload_n 0, 1) := by decide +kernel
theorem dL_textCharacter_3 : decode cL_textCharacter 3 = .ok (.iload_n 1, 1) := by decide +kernel
theorem dL_textCharacter_4 : decode cL_textCharacter 4 = .ok (.invokevirtual 109, 3) := by decide +kernel
theorem dL_textCharacter_7 : decode cL_textCharacter 7 = .ok (.i2l, 1) := by decide +kernel
theorem dL_textCharacter_8 : decode cL_textCharacter 8 = .ok (.lastore, 1) := by decide +kernel
theorem dL_textCharacter_9 : decode cL_textCharacter 9 = .ok (.goto 6, 3) := by decide +kernel
theorem dL_textCharacter_12 : decode cL_textCharacter 12 = .ok (.astore_n 3, 1) := by decide +kernel
theorem dL_textCharacter_13 : decode cL_textCharacter 13 = .ok (.iconst 1, 1) := by decide +kernel
theorem dL_textCharacter_14 : decode cL_textCharacter 14 = .ok (.ireturn, 1) := by decide +kernel
theorem dL_textCharacter_15 : decode cL_textCharacter 15 = .ok (.iconst 0, 1) := by decide +kernel
theorem dL_textCharacter_16 : decode cL_textCharacter 16 = .ok (.ireturn, 1) := by decide +kernel
set_option maxRecDepth 20000 in
theorem ggL_dayOfText_X4_dayOfText : GoodIn wsL_dayOfText wsX4_dayOfText := goodIn_ca (goodIn_r _ [6, 7, 8, 9, 10, 11, 12, 13, 14, 15, 16, 17, 18, 19, 20, 21, 22, 23, 24, 25, 26, 27, 28, 29, 30, 31, 32, 33, 34, 35, 36, 37, 38, 39, 40, 41, 42, 43, 44, 45, 46, 47, 48, 49, 50, 51, 52, 53, 54, 55, 56, 57, 58, 59, 60, 61, 62, 63, 64, 65, 66, 67, 68, 69, 70, 71, 72, 73, 74, 75, 76, 77, 78, 79, 80, 81, 82, 83, 84, 85, 86, 87, 88, 89, 90, 91] (by decide +kernel) (by decide +kernel)) (goodIn_sub (fun _ h => List.mem_cons_of_mem _ (List.mem_append_right _ h)) (by decide +kernel))
set_option maxRecDepth 20000 in
theorem gL_dayOfText_X4_dayOfText : GoodIn wsL_dayOfText (wsV RL 112 RX4 yX4_dayOfText wsX4_dayOfText) := goodIn_app (goodIn_of _ (by decide +kernel)) ggL_dayOfText_X4_dayOfText
theorem dL_dayOfText_0 : decode cL_dayOfText 0 = .ok (.aload_n 1, 1) := by decide +kernel
theorem dL_dayOfText_1 : decode cL_dayOfText 1 = .ok (.iconst 0, 1) := by decide +kernel
theorem dL_dayOfText_2 : decode cL_dayOfText 2 = .ok (.aload_n 0, 1) := by decide +kernel
theorem dL_dayOfText_3 : decode cL_dayOfText 3 = .ok (.invokevirtual 112, 3) := by decide +kernel
theorem dL_dayOfText_6 : decode cL_dayOfText 6 = .ok (.i2l, 1) := by decide +kernel
theorem dL_dayOfText_7 : decode cL_dayOfText 7 = .ok (.lastore, 1) := by decide +kernel
theorem dL_dayOfText_8 : decode cL_dayOfText 8 = .ok (.goto 6, 3) := by decide +kernel
theorem dL_dayOfText_11 : decode cL_dayOfText 11 = .ok (.astore_n 2, 1) := by decide +kernel
theorem dL_dayOfText_12 : decode cL_dayOfText 12 = .ok (.iconst 1, 1) := by decide +kernel
theorem dL_dayOfText_13 : decode cL_dayOfText 13 = .ok (.ireturn, 1) := by decide +kernel
theorem dL_dayOfText_14 : decode cL_dayOfText 14 = .ok (.iconst 0, 1) := by decide +kernel
theorem dL_dayOfText_15 : decode cL_dayOfText 15 = .ok (.ireturn, 1) := by decide +kernel
set_option maxRecDepth 20000 in
theorem ggL_writeDate_X4_writeDate : GoodIn wsL_writeDate wsX4_writeDate := goodIn_ca (goodIn_ca (goodIn_r _ [7, 8, 9, 10, 11, 6, 12, 13, 14, 15, 16, 17, 18, 19, 20, 21, 22, 23, 24, 25, 26, 27, 28, 29, 30, 31, 32, 33, 34, 35, 36, 37, 38, 39, 40, 41, 42, 43, 44, 45, 46, 47, 48, 49, 50, 51, 52, 53, 54, 55, 56, 57, 58, 59, 60, 61, 62, 63, 64, 65, 66, 67, 68, 69, 70, 71, 72, 73, 74, 75, 76, 77, 78, 79, 80, 81, 82, 83, 84, 85, 86, 87, 88, 89, 90, 91, 92, 93, 94, 95] (by decide +kernel) (by decide +kernel)) (goodIn_sub (fun _ h => List.mem_cons_of_mem _ (List.mem_append_left _ (List.mem_append_right _ h))) (by decide +kernel))) (goodIn_sub (fun _ h => List.mem_cons_of_mem _ (List.mem_append_right _ h)) (by decide +kernel))
set_option maxRecDepth 20000 in
theorem gL_writeDate_X4_writeDate : GoodIn wsL_writeDate (wsV RL 116 RX4 yX4_writeDate wsX4_writeDate) := goodIn_app (goodIn_of _ (by decide +kernel)) ggL_writeDate_X4_writeDate
theorem dL_writeDate_0 : decode cL_writeDate 0 = .ok (.aload_n 3, 1) := by decide +kernel
theorem dL_writeDate_1 : decode cL_writeDate 1 = .ok (.iconst 0, 1) := by decide +kernel
theorem dL_writeDate_2 : decode cL_writeDate 2 = .ok (.aload_n 0, 1) := by decide +kernel
theorem dL_writeDate_3 : decode cL_writeDate 3 = .ok (.iload_n 1, 1) := by decide +kernel
theorem dL_writeDate_4 : decode cL_writeDate 4 = .ok (.iload_n 2, 1) := by decide +kernel
theorem dL_writeDate_5 : decode cL_writeDate 5 = .ok (.invokevirtual 116, 3) := by decide +kernel
theorem dL_writeDate_8 : decode cL_writeDate 8 = .ok (.i2l, 1) := by decide +kernel
theorem dL_writeDate_9 : decode cL_writeDate 9 = .ok (.lastore, 1) := by decide +kernel
theorem dL_writeDate_10 : decode cL_writeDate 10 = .ok (.goto 11, 3) := by decide +kernel
theorem dL_writeDate_13 : decode cL_writeDate 13 = .ok (.astore 4, 2) := by decide +kernel
theorem dL_writeDate_15 : decode cL_writeDate 15 = .ok (.iconst 1, 1) := by decide +kernel
theorem dL_writeDate_16 : decode cL_writeDate 16 = .ok (.ireturn, 1) := by decide +kernel
theorem dL_writeDate_17 : decode cL_writeDate 17 = .ok (.astore 4, 2) := by decide +kernel
theorem dL_writeDate_19 : decode cL_writeDate 19 = .ok (.iconst 2, 1) := by decide +kernel
theorem dL_writeDate_20 : decode cL_writeDate 20 = .ok (.ireturn, 1) := by decide +kernel
theorem dL_writeDate_21 : decode cL_writeDate 21 = .ok (.iconst 0, 1) := by decide +kernel
theorem dL_writeDate_22 : decode cL_writeDate 22 = .ok (.ireturn, 1) := by decide +kernel
set_option maxRecDepth 20000 in
theorem ggL_undo_X4_undo : GoodIn wsL_undo wsX4_undo := goodIn_ca (goodIn_r _ [6, 7, 8, 9, 10, 11, 12, 13, 14, 15, 16, 17, 18, 19, 20, 21, 22, 23, 24, 25, 26, 27, 28, 29, 30, 31, 32, 33, 34, 35, 36, 37, 38, 39, 40, 41, 42, 43, 44, 45, 46, 47, 48, 49, 50, 51, 52, 53, 54, 55, 56, 57, 58, 59, 60, 61, 62, 63, 64, 65, 66, 67, 68] (by decide +kernel) (by decide +kernel)) (goodIn_sub (fun _ h => List.mem_cons_of_mem _ (List.mem_append_right _ h)) (by decide +kernel))
set_option maxRecDepth 20000 in
theorem gL_undo_X4_undo : GoodIn wsL_undo (wsV RL 119 RX4 yX4_undo wsX4_undo) := goodIn_app (goodIn_of _ (by decide +kernel)) ggL_undo_X4_undo
theorem dL_undo_0 : decode cL_undo 0 = .ok (.aload_n 1, 1) := by decide +kernel
theorem dL_undo_1 : decode cL_undo 1 = .ok (.iconst 0, 1) := by decide +kernel
theorem dL_undo_2 : decode cL_undo 2 = .ok (.aload_n 0, 1) := by decide +kernel
theorem dL_undo_3 : decode cL_undo 3 = .ok (.invokevirtual 119, 3) := by decide +kernel
theorem dL_undo_6 : decode cL_undo 6 = .ok (.i2l, 1) := by decide +kernel
theorem dL_undo_7 : decode cL_undo 7 = .ok (.lastore, 1) := by decide +kernel
theorem dL_undo_8 : decode cL_undo 8 = .ok (.goto 6, 3) := by decide +kernel
theorem dL_undo_11 : decode cL_undo 11 = .ok (.astore_n 2, 1) := by decide +kernel
theorem dL_undo_12 : decode cL_undo 12 = .ok (.iconst 1, 1) := by decide +kernel
theorem dL_undo_13 : decode cL_undo 13 = .ok (.ireturn, 1) := by decide +kernel
theorem dL_undo_14 : decode cL_undo 14 = .ok (.iconst 0, 1) := by decide +kernel
theorem dL_undo_15 : decode cL_undo 15 = .ok (.ireturn, 1) := by decide +kernel
set_option maxRecDepth 20000 in
theorem ggL_saveState_X4_saveState : GoodIn wsL_saveState wsX4_saveState := goodIn_ca (goodIn_r _ [6, 7, 8, 9, 10, 11, 5, 12, 13, 14, 15, 16, 17, 18, 19, 20, 21, 22, 23, 24, 25, 26, 27, 28, 29, 30, 31, 32, 33, 34, 35, 36, 37, 38, 39, 40, 41, 42, 43, 44, 45, 46, 47, 48, 49, 50, 51, 52, 53, 54, 55, 56, 57, 58, 59, 60, 61, 62, 63, 64, 65, 66, 67, 68, 69, 70, 71] (by decide +kernel) (by decide +kernel)) (goodIn_sub (fun _ h => List.mem_cons_of_mem _ (List.mem_append_right _ h)) (by decide +kernel))
set_option maxRecDepth 20000 in
theorem gL_saveState_X4_saveState : GoodIn wsL_saveState (wsV RL 122 RX4 yX4_saveState wsX4_saveState) := goodIn_app (goodIn_of _ (by decide +kernel)) ggL_saveState_X4_saveState
theorem dL_saveState_0 : decode cL_saveState 0 = .ok (.aload_n 2, 1) := by decide +kernel
theorem dL_saveState_1 : decode cL_saveState 1 = .ok (.iconst 0, 1) := by decide +kernel
theorem dL_saveState_2 : decode cL_saveState 2 = .ok (.aload_n 0, 1) := by decide +kernel
theorem dL_saveState_3 : decode cL_saveState 3 = .ok (.iload_n 1, 1) := by decide +kernel
theorem dL_saveState_4 : decode cL_saveState 4 = .ok (.invokevirtual 122, 3) := by decide +kernel
theorem dL_saveState_7 : decode cL_saveState 7 = .ok (.i2l, 1) := by decide +kernel
theorem dL_saveState_8 : decode cL_saveState 8 = .ok (.lastore, 1) := by decide +kernel
theorem dL_saveState_9 : decode cL_saveState 9 = .ok (.goto 6, 3) := by decide +kernel
theorem dL_saveState_12 : decode cL_saveState 12 = .ok (.astore_n 3, 1) := by decide +kernel
theorem dL_saveState_13 : decode cL_saveState 13 = .ok (.iconst 1, 1) := by decide +kernel
theorem dL_saveState_14 : decode cL_saveState 14 = .ok (.ireturn, 1) := by decide +kernel
theorem dL_saveState_15 : decode cL_saveState 15 = .ok (.iconst 0, 1) := by decide +kernel
theorem dL_saveState_16 : decode cL_saveState 16 = .ok (.ireturn, 1) := by decide +kernel
set_option maxRecDepth 20000 in
theorem ggL_loadState_X4_loadState : GoodIn wsL_loadState wsX4_loadState := goodIn_ca (goodIn_ca (goodIn_r _ [7, 8, 9, 10, 11, 12, 13, 14, 6, 15, 16, 17, 18, 19, 20, 21, 22, 23, 24, 25, 26, 27, 28, 29, 30, 31, 32, 33, 34, 35, 36, 37, 38, 39, 40, 41, 42, 43, 44, 45, 46, 47, 48, 49, 50, 51, 52, 53, 54, 55, 56, 57, 58, 59, 60, 61, 62, 63, 64, 65, 66, 67, 68, 69, 70, 71, 72, 73, 74, 75, 76, 77, 78, 79, 80, 81, 82, 83, 84] (by decide +kernel) (by decide +kernel)) (goodIn_sub (fun _ h => List.mem_cons_of_mem _ (List.mem_append_left _ (List.mem_append_right _ h))) (by decide +kernel))) (goodIn_sub (fun _ h => List.mem_cons_of_mem _ (List.mem_append_right _ h)) (by decide +kernel))
set_option maxRecDepth 20000 in
theorem gL_loadState_X4_loadState : GoodIn wsL_loadState (wsV RL 125 RX4 yX4_loadState wsX4_loadState) := goodIn_app (goodIn_of _ (by decide +kernel)) ggL_loadState_X4_loadState
theorem dL_loadState_0 : decode cL_loadState 0 = .ok (.aload_n 2, 1) := by decide +kernel
theorem dL_loadState_1 : decode cL_loadState 1 = .ok (.iconst 0, 1) := by decide +kernel
theorem dL_loadState_2 : decode cL_loadState 2 = .ok (.aload_n 0, 1) := by decide +kernel
theorem dL_loadState_3 : decode cL_loadState 3 = .ok (.iload_n 1, 1) := by decide +kernel
theorem dL_loadState_4 : decode cL_loadState 4 = .ok (.invokevirtual 125, 3) := by decide +kernel
theorem dL_loadState_7 : decode cL_loadState 7 = .ok (.i2l, 1) := by decide +kernel
theorem dL_loadState_8 : decode cL_loadState 8 = .ok (.lastore, 1) := by decide +kernel
theorem dL_loadState_9 : decode cL_loadState 9 = .ok (.goto 9, 3) := by decide +kernel
theorem dL_loadState_12 : decode cL_loadState 12 = .ok (.astore_n 3, 1) := by decide +kernel
theorem dL_loadState_13 : decode cL_loadState 13 = .ok (.iconst 1, 1) := by decide +kernel
theorem dL_loadState_14 : decode cL_loadState 14 = .ok (.ireturn, 1) := by decide +kernel
theorem dL_loadState_15 : decode cL_loadState 15 = .ok (.astore_n 3, 1) := by decide +kernel
theorem dL_loadState_16 : decode cL_loadState 16 = .ok (.iconst 2, 1) := by decide +kernel
theorem dL_loadState_17 : decode cL_loadState 17 = .ok (.ireturn, 1) := by decide +kernel
theorem dL_loadState_18 : decode cL_loadState 18 = .ok (.iconst 0, 1) := by decide +kernel
theorem dL_loadState_19 : decode cL_loadState 19 = .ok (.ireturn, 1) := by decide +kernel

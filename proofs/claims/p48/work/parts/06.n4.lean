set_option maxRecDepth 20000 in
theorem ggX4_init_X2_init : GoodIn wsX4_init wsX2_init := goodIn_r _ [21, 22, 2, 3, 23, 24, 25, 26, 27, 28, 29, 30, 31, 32, 33, 34, 35, 36, 37, 38, 39, 40, 41, 17, 42, 43, 44, 45, 46, 47, 48, 49, 50, 51, 52, 53, 77, 78, 79, 80, 81, 59, 60, 61, 62, 63, 64, 65, 66, 67, 82, 83, 84, 85] (by decide +kernel) (by decide +kernel)
set_option maxRecDepth 20000 in
theorem gX4_init_X2_init : GoodIn wsX4_init (wsX2_init) := ggX4_init_X2_init
set_option maxRecDepth 20000 in
theorem ggX4_init_X0_init : GoodIn wsX4_init wsX0_init := goodIn_r _ [55, 56, 2, 3, 17, 57, 58, 75, 76] (by decide +kernel) (by decide +kernel)
set_option maxRecDepth 20000 in
theorem gX4_init_X0_init_n33 : GoodIn wsX4_init (wsX0_init) := ggX4_init_X0_init
theorem dX4_init_0 : decode cX4_init 0 = .ok (.aload_n 0, 1) := by decide +kernel
theorem dX4_init_1 : decode cX4_init 1 = .ok (.invokespecial 1, 3) := by decide +kernel
theorem dX4_init_4 : decode cX4_init 4 = .ok (.aload_n 0, 1) := by decide +kernel
theorem dX4_init_5 : decode cX4_init 5 = .ok (.new 7, 3) := by decide +kernel
theorem dX4_init_8 : decode cX4_init 8 = .ok (.dup, 1) := by decide +kernel
theorem dX4_init_9 : decode cX4_init 9 = .ok (.invokespecial 9, 3) := by decide +kernel
theorem dX4_init_12 : decode cX4_init 12 = .ok (.putfield 10, 3) := by decide +kernel
theorem dX4_init_15 : decode cX4_init 15 = .ok (.aload_n 0, 1) := by decide +kernel
theorem dX4_init_16 : decode cX4_init 16 = .ok (.bipush 6, 2) := by decide +kernel
theorem dX4_init_18 : decode cX4_init 18 = .ok (.anewarray 7, 3) := by decide +kernel
theorem dX4_init_21 : decode cX4_init 21 = .ok (.putfield 16, 3) := by decide +kernel
theorem dX4_init_24 : decode cX4_init 24 = .ok (.aload_n 0, 1) := by decide +kernel
theorem dX4_init_25 : decode cX4_init 25 = .ok (.iconst 0, 1) := by decide +kernel
theorem dX4_init_26 : decode cX4_init 26 = .ok (.putfield 20, 3) := by decide +kernel
theorem dX4_init_29 : decode cX4_init 29 = .ok (.aload_n 0, 1) := by decide +kernel
theorem dX4_init_30 : decode cX4_init 30 = .ok (.iconst 2, 1) := by decide +kernel
theorem dX4_init_31 : decode cX4_init 31 = .ok (.anewarray 7, 3) := by decide +kernel
theorem dX4_init_34 : decode cX4_init 34 = .ok (.putfield 24, 3) := by decide +kernel
theorem dX4_init_37 : decode cX4_init 37 = .ok (.aload_n 0, 1) := by decide +kernel
theorem dX4_init_38 : decode cX4_init 38 = .ok (.iconst 2, 1) := by decide +kernel
theorem dX4_init_39 : decode cX4_init 39 = .ok (.newarray .boolean, 2) := by decide +kernel
theorem dX4_init_41 : decode cX4_init 41 = .ok (.putfield 27, 3) := by decide +kernel
theorem dX4_init_44 : decode cX4_init 44 = .ok (.aload_n 0, 1) := by decide +kernel
theorem dX4_init_45 : decode cX4_init 45 = .ok (.new 31, 3) := by decide +kernel
theorem dX4_init_48 : decode cX4_init 48 = .ok (.dup, 1) := by decide +kernel
theorem dX4_init_49 : decode cX4_init 49 = .ok (.invokespecial 33, 3) := by decide +kernel
theorem dX4_init_52 : decode cX4_init 52 = .ok (.putfield 34, 3) := by decide +kernel
theorem dX4_init_55 : decode cX4_init 55 = .ok (.aload_n 0, 1) := by decide +kernel
theorem dX4_init_56 : decode cX4_init 56 = .ok (.sipush 400, 3) := by decide +kernel
theorem dX4_init_59 : decode cX4_init 59 = .ok (.newarray .int, 2) := by decide +kernel
theorem dX4_init_61 : decode cX4_init 61 = .ok (.putfield 38, 3) := by decide +kernel
theorem dX4_init_64 : decode cX4_init 64 = .ok (.iconst 0, 1) := by decide +kernel
theorem dX4_init_65 : decode cX4_init 65 = .ok (.istore_n 1, 1) := by decide +kernel
theorem dX4_init_66 : decode cX4_init 66 = .ok (.iload_n 1, 1) := by decide +kernel
theorem dX4_init_67 : decode cX4_init 67 = .ok (.bipush 6, 2) := by decide +kernel
theorem dX4_init_69 : decode cX4_init 69 = .ok (.if_icmp .ge 22, 3) := by decide +kernel
theorem dX4_init_72 : decode cX4_init 72 = .ok (.aload_n 0, 1) := by decide +kernel
theorem dX4_init_73 : decode cX4_init 73 = .ok (.getfield 16, 3) := by decide +kernel
theorem dX4_init_76 : decode cX4_init 76 = .ok (.iload_n 1, 1) := by decide +kernel
theorem dX4_init_77 : decode cX4_init 77 = .ok (.new 7, 3) := by decide +kernel
theorem dX4_init_80 : decode cX4_init 80 = .ok (.dup, 1) := by decide +kernel
theorem dX4_init_81 : decode cX4_init 81 = .ok (.invokespecial 9, 3) := by decide +kernel
theorem dX4_init_84 : decode cX4_init 84 = .ok (.aastore, 1) := by decide +kernel
theorem dX4_init_85 : decode cX4_init 85 = .ok (.iinc 1 1, 3) := by decide +kernel
theorem dX4_init_88 : decode cX4_init 88 = .ok (.goto (-22), 3) := by decide +kernel
theorem dX4_init_91 : decode cX4_init 91 = .ok (.iconst 0, 1) := by decide +kernel
theorem dX4_init_92 : decode cX4_init 92 = .ok (.istore_n 1, 1) := by decide +kernel
theorem dX4_init_93 : decode cX4_init 93 = .ok (.iload_n 1, 1) := by decide +kernel
theorem dX4_init_94 : decode cX4_init 94 = .ok (.iconst 2, 1) := by decide +kernel
theorem dX4_init_95 : decode cX4_init 95 = .ok (.if_icmp .ge 22, 3) := by decide +kernel
theorem dX4_init_98 : decode cX4_init 98 = .ok (.aload_n 0, 1) := by decide +kernel
theorem dX4_init_99 : decode cX4_init 99 = .ok (.getfield 24, 3) := by decide +kernel
theorem dX4_init_102 : decode cX4_init 102 = .ok (.iload_n 1, 1) := by decide +kernel
theorem dX4_init_103 : decode cX4_init 103 = .ok (.new 7, 3) := by decide +kernel
theorem dX4_init_106 : decode cX4_init 106 = .ok (.dup, 1) := by decide +kernel
theorem dX4_init_107 : decode cX4_init 107 = .ok (.invokespecial 9, 3) := by decide +kernel
theorem dX4_init_110 : decode cX4_init 110 = .ok (.aastore, 1) := by decide +kernel
theorem dX4_init_111 : decode cX4_init 111 = .ok (.iinc 1 1, 3) := by decide +kernel
theorem dX4_init_114 : decode cX4_init 114 = .ok (.goto (-21), 3) := by decide +kernel
theorem dX4_init_117 : decode cX4_init 117 = .ok (.return_, 1) := by decide +kernel
set_option maxRecDepth 20000 in
theorem ggX4_addGap_X4_requireTown : GoodIn wsX4_addGap wsX4_requireTown := goodIn_ca (goodIn_r _ [9, 10, 11, 12, 8, 13, 14, 15, 16, 17, 18, 19, 20, 21, 22, 78, 79, 80, 81, 82, 83, 84, 85, 86, 87, 88, 89, 90, 91, 92, 93] (by decide +kernel) (by decide +kernel)) (goodIn_sub (fun _ h => List.mem_cons_of_mem _ (List.mem_append_right _ h)) (by decide +kernel))
set_option maxRecDepth 20000 in
theorem gX4_addGap_X4_requireTown : GoodIn wsX4_addGap (wsV RX4 42 RX4 yX4_requireTown wsX4_requireTown) := goodIn_app (goodIn_of _ (by decide +kernel)) ggX4_addGap_X4_requireTown
set_option maxRecDepth 20000 in
theorem ggX4_addGap_X4_requireRange : GoodIn wsX4_addGap wsX4_requireRange := goodIn_ca (goodIn_r _ [25, 1, 2] (by decide +kernel) (by decide +kernel)) (goodIn_sub (fun _ h => List.mem_cons_of_mem _ (List.mem_append_left _ (List.mem_append_left _ (List.mem_append_right _ h)))) (by decide +kernel))
set_option maxRecDepth 20000 in
theorem gX4_addGap_X4_requireRange : GoodIn wsX4_addGap (va_wsS RX4 46 yX4_requireRange wsX4_requireRange) := goodIn_app (goodIn_of _ (by decide +kernel)) ggX4_addGap_X4_requireRange
set_option maxRecDepth 20000 in
theorem ggX4_addGap_X3_latestGapDay : GoodIn wsX4_addGap wsX3_latestGapDay := goodIn_r _ [30, 31, 32, 73, 74, 75, 76, 77] (by decide +kernel) (by decide +kernel)
set_option maxRecDepth 20000 in
theorem gX4_addGap_X3_latestGapDay : GoodIn wsX4_addGap (wsV RX4 50 RX3 yX3_latestGapDay wsX3_latestGapDay) := goodIn_app (goodIn_of _ (by decide +kernel)) ggX4_addGap_X3_latestGapDay
set_option maxRecDepth 20000 in
theorem ggX4_addGap_X4_recordState : GoodIn wsX4_addGap wsX4_recordState := goodIn_r _ [36, 37, 38, 10, 39, 40, 41, 8, 42, 43, 44, 45, 19, 46, 21, 22, 47, 48, 49, 50, 51, 52, 53, 54, 55, 56, 29, 57, 32, 58, 31, 59, 60, 61, 62, 63, 64, 65, 66, 67, 68, 78, 79, 80, 81, 82, 83, 84, 85, 86, 87, 88, 89, 90, 91, 92, 93, 73, 74, 75, 76, 77, 94, 95, 96, 97] (by decide +kernel) (by decide +kernel)
set_option maxRecDepth 20000 in
theorem gX4_addGap_X4_recordState : GoodIn wsX4_addGap (wsV RX4 71 RX4 yX4_recordState wsX4_recordState) := goodIn_app (goodIn_of _ (by decide +kernel)) ggX4_addGap_X4_recordState
set_option maxRecDepth 20000 in
theorem ggX4_addGap_X3_leaveOut : GoodIn wsX4_addGap wsX3_leaveOut := goodIn_r _ [72, 31, 32, 58, 73, 74, 75, 76, 77] (by decide +kernel) (by decide +kernel)
set_option maxRecDepth 20000 in
theorem gX4_addGap_X3_leaveOut : GoodIn wsX4_addGap (wsV RX4 74 RX3 yX3_leaveOut wsX3_leaveOut) := goodIn_app (goodIn_of _ (by decide +kernel)) ggX4_addGap_X3_leaveOut
theorem dX4_addGap_0 : decode cX4_addGap 0 = .ok (.aload_n 0, 1) := by decide +kernel
theorem dX4_addGap_1 : decode cX4_addGap 1 = .ok (.iload_n 1, 1) := by decide +kernel
theorem dX4_addGap_2 : decode cX4_addGap 2 = .ok (.invokevirtual 42, 3) := by decide +kernel
theorem dX4_addGap_5 : decode cX4_addGap 5 = .ok (.astore 4, 2) := by decide +kernel
theorem dX4_addGap_7 : decode cX4_addGap 7 = .ok (.iload_n 2, 1) := by decide +kernel
theorem dX4_addGap_8 : decode cX4_addGap 8 = .ok (.iconst 0, 1) := by decide +kernel
theorem dX4_addGap_9 : decode cX4_addGap 9 = .ok (.sipush 9999, 3) := by decide +kernel
theorem dX4_addGap_12 : decode cX4_addGap 12 = .ok (.invokestatic 46, 3) := by decide +kernel
theorem dX4_addGap_15 : decode cX4_addGap 15 = .ok (.iload_n 3, 1) := by decide +kernel
theorem dX4_addGap_16 : decode cX4_addGap 16 = .ok (.iconst 1, 1) := by decide +kernel
theorem dX4_addGap_17 : decode cX4_addGap 17 = .ok (.bipush 40, 2) := by decide +kernel
theorem dX4_addGap_19 : decode cX4_addGap 19 = .ok (.invokestatic 46, 3) := by decide +kernel
theorem dX4_addGap_22 : decode cX4_addGap 22 = .ok (.iload_n 2, 1) := by decide +kernel
theorem dX4_addGap_23 : decode cX4_addGap 23 = .ok (.aload 4, 2) := by decide +kernel
theorem dX4_addGap_25 : decode cX4_addGap 25 = .ok (.invokevirtual 50, 3) := by decide +kernel
theorem dX4_addGap_28 : decode cX4_addGap 28 = .ok (.if_icmp .gt 13, 3) := by decide +kernel
theorem dX4_addGap_31 : decode cX4_addGap 31 = .ok (.new 56, 3) := by decide +kernel
theorem dX4_addGap_34 : decode cX4_addGap 34 = .ok (.dup, 1) := by decide +kernel
theorem dX4_addGap_35 : decode cX4_addGap 35 = .ok (.ldc 58, 2) := by decide +kernel
theorem dX4_addGap_37 : decode cX4_addGap 37 = .ok (.invokespecial 60, 3) := by decide +kernel
theorem dX4_addGap_40 : decode cX4_addGap 40 = .ok (.athrow, 1) := by decide +kernel
theorem dX4_addGap_41 : decode cX4_addGap 41 = .ok (.aload 4, 2) := by decide +kernel
theorem dX4_addGap_43 : decode cX4_addGap 43 = .ok (.getfield 63, 3) := by decide +kernel
theorem dX4_addGap_46 : decode cX4_addGap 46 = .ok (.iconst 3, 1) := by decide +kernel
theorem dX4_addGap_47 : decode cX4_addGap 47 = .ok (.if_icmp .lt 13, 3) := by decide +kernel
theorem dX4_addGap_50 : decode cX4_addGap 50 = .ok (.new 66, 3) := by decide +kernel
theorem dX4_addGap_53 : decode cX4_addGap 53 = .ok (.dup, 1) := by decide +kernel
theorem dX4_addGap_54 : decode cX4_addGap 54 = .ok (.ldc 68, 2) := by decide +kernel
theorem dX4_addGap_56 : decode cX4_addGap 56 = .ok (.invokespecial 70, 3) := by decide +kernel
theorem dX4_addGap_59 : decode cX4_addGap 59 = .ok (.athrow, 1) := by decide +kernel
theorem dX4_addGap_60 : decode cX4_addGap 60 = .ok (.aload_n 0, 1) := by decide +kernel
theorem dX4_addGap_61 : decode cX4_addGap 61 = .ok (.invokevirtual 71, 3) := by decide +kernel
theorem dX4_addGap_64 : decode cX4_addGap 64 = .ok (.aload 4, 2) := by decide +kernel
theorem dX4_addGap_66 : decode cX4_addGap 66 = .ok (.iload_n 2, 1) := by decide +kernel
theorem dX4_addGap_67 : decode cX4_addGap 67 = .ok (.iload_n 3, 1) := by decide +kernel
theorem dX4_addGap_68 : decode cX4_addGap 68 = .ok (.invokevirtual 74, 3) := by decide +kernel
theorem dX4_addGap_71 : decode cX4_addGap 71 = .ok (.ireturn, 1) := by decide +kernel
set_option maxRecDepth 20000 in
theorem ggX4_gapCount_X4_requireTown : GoodIn wsX4_gapCount wsX4_requireTown := goodIn_ca (goodIn_r _ [5, 6, 7, 8, 4, 9, 10, 11, 12, 13, 14, 15, 16, 17, 18, 24, 25, 26, 27, 28, 29, 30, 31, 32, 33, 34, 35, 36, 37, 38, 39] (by decide +kernel) (by decide +kernel)) (goodIn_sub (fun _ h => List.mem_cons_of_mem _ (List.mem_append_right _ h)) (by decide +kernel))
set_option maxRecDepth 20000 in
theorem gX4_gapCount_X4_requireTown : GoodIn wsX4_gapCount (wsV RX4 42 RX4 yX4_requireTown wsX4_requireTown) := goodIn_app (goodIn_of _ (by decide +kernel)) ggX4_gapCount_X4_requireTown
theorem dX4_gapCount_0 : decode cX4_gapCount 0 = .ok (.aload_n 0, 1) := by decide +kernel
theorem dX4_gapCount_1 : decode cX4_gapCount 1 = .ok (.iload_n 1, 1) := by decide +kernel
theorem dX4_gapCount_2 : decode cX4_gapCount 2 = .ok (.invokevirtual 42, 3) := by decide +kernel
theorem dX4_gapCount_5 : decode cX4_gapCount 5 = .ok (.getfield 63, 3) := by decide +kernel
theorem dX4_gapCount_8 : decode cX4_gapCount 8 = .ok (.ireturn, 1) := by decide +kernel
set_option maxRecDepth 20000 in
theorem ggX4_gapDay_X4_requireTown : GoodIn wsX4_gapDay wsX4_requireTown := goodIn_ca (goodIn_r _ [5, 6, 7, 8, 4, 9, 10, 11, 12, 13, 14, 15, 16, 17, 18, 24, 25, 26, 27, 28, 29, 30, 31, 32, 33, 34, 35, 36, 37, 38, 39] (by decide +kernel) (by decide +kernel)) (goodIn_sub (fun _ h => List.mem_cons_of_mem _ (List.mem_append_right _ h)) (by decide +kernel))
set_option maxRecDepth 20000 in
theorem gX4_gapDay_X4_requireTown : GoodIn wsX4_gapDay (wsV RX4 42 RX4 yX4_requireTown wsX4_requireTown) := goodIn_app (goodIn_of _ (by decide +kernel)) ggX4_gapDay_X4_requireTown
set_option maxRecDepth 20000 in
theorem ggX4_gapDay_X4_requireIndex : GoodIn wsX4_gapDay wsX4_requireIndex := goodIn_ca (goodIn_r _ [9, 10, 11] (by decide +kernel) (by decide +kernel)) (goodIn_sub (fun _ h => List.mem_cons_of_mem _ (List.mem_append_right _ h)) (by decide +kernel))
set_option maxRecDepth 20000 in
theorem gX4_gapDay_X4_requireIndex : GoodIn wsX4_gapDay (va_wsS RX4 78 yX4_requireIndex wsX4_requireIndex) := goodIn_app (goodIn_of _ (by decide +kernel)) ggX4_gapDay_X4_requireIndex
theorem dX4_gapDay_0 : decode cX4_gapDay 0 = .ok (.aload_n 0, 1) := by decide +kernel
theorem dX4_gapDay_1 : decode cX4_gapDay 1 = .ok (.iload_n 1, 1) := by decide +kernel
theorem dX4_gapDay_2 : decode cX4_gapDay 2 = .ok (.invokevirtual 42, 3) := by decide +kernel
theorem dX4_gapDay_5 : decode cX4_gapDay 5 = .ok (.astore_n 3, 1) := by decide +kernel
theorem dX4_gapDay_6 : decode cX4_gapDay 6 = .ok (.iload_n 2, 1) := by decide +kernel
theorem dX4_gapDay_7 : decode cX4_gapDay 7 = .ok (.aload_n 3, 1) := by decide +kernel
theorem dX4_gapDay_8 : decode cX4_gapDay 8 = .ok (.getfield 63, 3) := by decide +kernel
theorem dX4_gapDay_11 : decode cX4_gapDay 11 = .ok (.invokestatic 78, 3) := by decide +kernel
theorem dX4_gapDay_14 : decode cX4_gapDay 14 = .ok (.aload_n 3, 1) := by decide +kernel
theorem dX4_gapDay_15 : decode cX4_gapDay 15 = .ok (.getfield 82, 3) := by decide +kernel
theorem dX4_gapDay_18 : decode cX4_gapDay 18 = .ok (.iload_n 2, 1) := by decide +kernel
theorem dX4_gapDay_19 : decode cX4_gapDay 19 = .ok (.iaload, 1) := by decide +kernel
theorem dX4_gapDay_20 : decode cX4_gapDay 20 = .ok (.ireturn, 1) := by decide +kernel
set_option maxRecDepth 20000 in
theorem ggX4_gapLength_X4_requireTown : GoodIn wsX4_gapLength wsX4_requireTown := goodIn_ca (goodIn_r _ [5, 6, 7, 8, 4, 9, 10, 11, 12, 13, 14, 15, 16, 17, 18, 24, 25, 26, 27, 28, 29, 30, 31, 32, 33, 34, 35, 36, 37, 38, 39] (by decide +kernel) (by decide +kernel)) (goodIn_sub (fun _ h => List.mem_cons_of_mem _ (List.mem_append_right _ h)) (by decide +kernel))
set_option maxRecDepth 20000 in
theorem gX4_gapLength_X4_requireTown : GoodIn wsX4_gapLength (wsV RX4 42 RX4 yX4_requireTown wsX4_requireTown) := goodIn_app (goodIn_of _ (by decide +kernel)) ggX4_gapLength_X4_requireTown
set_option maxRecDepth 20000 in
theorem ggX4_gapLength_X4_requireIndex : GoodIn wsX4_gapLength wsX4_requireIndex := goodIn_ca (goodIn_r _ [9, 10, 11] (by decide +kernel) (by decide +kernel)) (goodIn_sub (fun _ h => List.mem_cons_of_mem _ (List.mem_append_right _ h)) (by decide +kernel))
set_option maxRecDepth 20000 in
theorem gX4_gapLength_X4_requireIndex : GoodIn wsX4_gapLength (va_wsS RX4 78 yX4_requireIndex wsX4_requireIndex) := goodIn_app (goodIn_of _ (by decide +kernel)) ggX4_gapLength_X4_requireIndex
theorem dX4_gapLength_0 : decode cX4_gapLength 0 = .ok (.aload_n 0, 1) := by decide +kernel
theorem dX4_gapLength_1 : decode cX4_gapLength 1 = .ok (.iload_n 1, 1) := by decide +kernel
theorem dX4_gapLength_2 : decode cX4_gapLength 2 = .ok (.invokevirtual 42, 3) := by decide +kernel
theorem dX4_gapLength_5 : decode cX4_gapLength 5 = .ok (.astore_n 3, 1) := by decide +kernel
theorem dX4_gapLength_6 : decode cX4_gapLength 6 = .ok (.iload_n 2, 1) := by decide +kernel
theorem dX4_gapLength_7 : decode cX4_gapLength 7 = .ok (.aload_n 3, 1) := by decide +kernel
theorem dX4_gapLength_8 : decode cX4_gapLength 8 = .ok (.getfield 63, 3) := by decide +kernel
theorem dX4_gapLength_11 : decode cX4_gapLength 11 = .ok (.invokestatic 78, 3) := by decide +kernel
theorem dX4_gapLength_14 : decode cX4_gapLength 14 = .ok (.aload_n 3, 1) := by decide +kernel
theorem dX4_gapLength_15 : decode cX4_gapLength 15 = .ok (.getfield 85, 3) := by decide +kernel
theorem dX4_gapLength_18 : decode cX4_gapLength 18 = .ok (.iload_n 2, 1) := by decide +kernel
theorem dX4_gapLength_19 : decode cX4_gapLength 19 = .ok (.iaload, 1) := by decide +kernel
theorem dX4_gapLength_20 : decode cX4_gapLength 20 = .ok (.ireturn, 1) := by decide +kernel
set_option maxRecDepth 20000 in
theorem ggX4_monthLength_X4_requireTown : GoodIn wsX4_monthLength wsX4_requireTown := goodIn_ca (goodIn_r _ [5, 6, 7, 8, 4, 9, 10, 11, 12, 13, 14, 15, 16, 17, 18, 30, 31, 32, 33, 34, 35, 36, 37, 38, 39, 40, 41, 42, 43, 44, 45] (by decide +kernel) (by decide +kernel)) (goodIn_sub (fun _ h => List.mem_cons_of_mem _ (List.mem_append_left _ (List.mem_append_right _ h))) (by decide +kernel))
set_option maxRecDepth 20000 in
theorem gX4_monthLength_X4_requireTown : GoodIn wsX4_monthLength (wsV RX4 42 RX4 yX4_requireTown wsX4_requireTown) := goodIn_app (goodIn_of _ (by decide +kernel)) ggX4_monthLength_X4_requireTown
set_option maxRecDepth 20000 in
theorem ggX4_monthLength_X4_requireRange : GoodIn wsX4_monthLength wsX4_requireRange := goodIn_ca (goodIn_r _ [21, 22, 23] (by decide +kernel) (by decide +kernel)) (goodIn_sub (fun _ h => List.mem_cons_of_mem _ (List.mem_append_right _ h)) (by decide +kernel))
set_option maxRecDepth 20000 in
theorem gX4_monthLength_X4_requireRange : GoodIn wsX4_monthLength (va_wsS RX4 46 yX4_requireRange wsX4_requireRange) := goodIn_app (goodIn_of _ (by decide +kernel)) ggX4_monthLength_X4_requireRange
set_option maxRecDepth 20000 in
theorem ggX4_monthLength_X3_daysInMonth : GoodIn wsX4_monthLength wsX3_daysInMonth := goodIn_r _ [28, 29, 46, 47, 48, 49, 50] (by decide +kernel) (by decide +kernel)
set_option maxRecDepth 20000 in
theorem gX4_monthLength_X3_daysInMonth : GoodIn wsX4_monthLength (wsV RX4 88 RX3 yX3_daysInMonth wsX3_daysInMonth) := goodIn_app (goodIn_of _ (by decide +kernel)) ggX4_monthLength_X3_daysInMonth
theorem dX4_monthLength_0 : decode cX4_monthLength 0 = .ok (.aload_n 0, 1) := by decide +kernel
theorem dX4_monthLength_1 : decode cX4_monthLength 1 = .ok (.iload_n 1, 1) := by decide +kernel
theorem dX4_monthLength_2 : decode cX4_monthLength 2 = .ok (.invokevirtual 42, 3) := by decide +kernel
theorem dX4_monthLength_5 : decode cX4_monthLength 5 = .ok (.astore_n 3, 1) := by decide +kernel
theorem dX4_monthLength_6 : decode cX4_monthLength 6 = .ok (.iload_n 2, 1) := by decide +kernel
theorem dX4_monthLength_7 : decode cX4_monthLength 7 = .ok (.iconst 1, 1) := by decide +kernel
theorem dX4_monthLength_8 : decode cX4_monthLength 8 = .ok (.bipush 12, 2) := by decide +kernel
theorem dX4_monthLength_10 : decode cX4_monthLength 10 = .ok (.invokestatic 46, 3) := by decide +kernel
theorem dX4_monthLength_13 : decode cX4_monthLength 13 = .ok (.aload_n 3, 1) := by decide +kernel
theorem dX4_monthLength_14 : decode cX4_monthLength 14 = .ok (.iload_n 2, 1) := by decide +kernel
theorem dX4_monthLength_15 : decode cX4_monthLength 15 = .ok (.invokevirtual 88, 3) := by decide +kernel
theorem dX4_monthLength_18 : decode cX4_monthLength 18 = .ok (.ireturn, 1) := by decide +kernel
set_option maxRecDepth 20000 in
theorem ggX4_dayOfMonth_X4_requireTown : GoodIn wsX4_dayOfMonth wsX4_requireTown := goodIn_ca (goodIn_r _ [5, 6, 7, 8, 4, 9, 10, 11, 12, 13, 14, 15, 16, 17, 18, 49, 50, 51, 52, 53, 54, 55, 56, 57, 58, 59, 60, 61, 62, 63, 64] (by decide +kernel) (by decide +kernel)) (goodIn_sub (fun _ h => List.mem_cons_of_mem _ (List.mem_append_left _ (List.mem_append_right _ h))) (by decide +kernel))
set_option maxRecDepth 20000 in
theorem gX4_dayOfMonth_X4_requireTown : GoodIn wsX4_dayOfMonth (wsV RX4 42 RX4 yX4_requireTown wsX4_requireTown) := goodIn_app (goodIn_of _ (by decide +kernel)) ggX4_dayOfMonth_X4_requireTown
set_option maxRecDepth 20000 in
theorem ggX4_dayOfMonth_X4_requireRange : GoodIn wsX4_dayOfMonth wsX4_requireRange := goodIn_ca (goodIn_r _ [21, 22, 23] (by decide +kernel) (by decide +kernel)) (goodIn_sub (fun _ h => List.mem_cons_of_mem _ (List.mem_append_right _ h)) (by decide +kernel))
set_option maxRecDepth 20000 in
theorem gX4_dayOfMonth_X4_requireRange : GoodIn wsX4_dayOfMonth (va_wsS RX4 46 yX4_requireRange wsX4_requireRange) := goodIn_app (goodIn_of _ (by decide +kernel)) ggX4_dayOfMonth_X4_requireRange
set_option maxRecDepth 20000 in
theorem ggX4_dayOfMonth_X3_dayOfMonthOn : GoodIn wsX4_dayOfMonth wsX3_dayOfMonthOn := goodIn_r _ [28, 29, 30, 31, 27, 32, 33, 34, 35, 36, 37, 38, 39, 40, 41, 42, 43, 44, 45, 46, 47, 48, 65, 66, 67, 68, 69] (by decide +kernel) (by decide +kernel)
set_option maxRecDepth 20000 in
theorem gX4_dayOfMonth_X3_dayOfMonthOn : GoodIn wsX4_dayOfMonth (wsV RX4 92 RX3 yX3_dayOfMonthOn wsX3_dayOfMonthOn) := goodIn_app (goodIn_of _ (by decide +kernel)) ggX4_dayOfMonth_X3_dayOfMonthOn
theorem dX4_dayOfMonth_0 : decode cX4_dayOfMonth 0 = .ok (.aload_n 0, 1) := by decide +kernel
theorem dX4_dayOfMonth_1 : decode cX4_dayOfMonth 1 = .ok (.iload_n 1, 1) := by decide +kernel
theorem dX4_dayOfMonth_2 : decode cX4_dayOfMonth 2 = .ok (.invokevirtual 42, 3) := by decide +kernel
theorem dX4_dayOfMonth_5 : decode cX4_dayOfMonth 5 = .ok (.astore_n 3, 1) := by decide +kernel
theorem dX4_dayOfMonth_6 : decode cX4_dayOfMonth 6 = .ok (.iload_n 2, 1) := by decide +kernel
theorem dX4_dayOfMonth_7 : decode cX4_dayOfMonth 7 = .ok (.iconst 0, 1) := by decide +kernel
theorem dX4_dayOfMonth_8 : decode cX4_dayOfMonth 8 = .ok (.sipush 20000, 3) := by decide +kernel
theorem dX4_dayOfMonth_11 : decode cX4_dayOfMonth 11 = .ok (.invokestatic 46, 3) := by decide +kernel
theorem dX4_dayOfMonth_14 : decode cX4_dayOfMonth 14 = .ok (.aload_n 3, 1) := by decide +kernel
theorem dX4_dayOfMonth_15 : decode cX4_dayOfMonth 15 = .ok (.iload_n 2, 1) := by decide +kernel
theorem dX4_dayOfMonth_16 : decode cX4_dayOfMonth 16 = .ok (.invokevirtual 92, 3) := by decide +kernel
theorem dX4_dayOfMonth_19 : decode cX4_dayOfMonth 19 = .ok (.ireturn, 1) := by decide +kernel
set_option maxRecDepth 20000 in
theorem ggX4_monthOf_X4_requireTown : GoodIn wsX4_monthOf wsX4_requireTown := goodIn_ca (goodIn_r _ [5, 6, 7, 8, 4, 9, 10, 11, 12, 13, 14, 15, 16, 17, 18, 45, 46, 47, 48, 49, 50, 51, 52, 53, 54, 55, 56, 57, 58, 59, 60] (by decide +kernel) (by decide +kernel)) (goodIn_sub (fun _ h => List.mem_cons_of_mem _ (List.mem_append_left _ (List.mem_append_right _ h))) (by decide +kernel))
set_option maxRecDepth 20000 in
theorem gX4_monthOf_X4_requireTown : GoodIn wsX4_monthOf (wsV RX4 42 RX4 yX4_requireTown wsX4_requireTown) := goodIn_app (goodIn_of _ (by decide +kernel)) ggX4_monthOf_X4_requireTown
set_option maxRecDepth 20000 in
theorem ggX4_monthOf_X4_requireRange : GoodIn wsX4_monthOf wsX4_requireRange := goodIn_ca (goodIn_r _ [21, 22, 23] (by decide +kernel) (by decide +kernel)) (goodIn_sub (fun _ h => List.mem_cons_of_mem _ (List.mem_append_right _ h)) (by decide +kernel))
set_option maxRecDepth 20000 in
theorem gX4_monthOf_X4_requireRange : GoodIn wsX4_monthOf (va_wsS RX4 46 yX4_requireRange wsX4_requireRange) := goodIn_app (goodIn_of _ (by decide +kernel)) ggX4_monthOf_X4_requireRange
set_option maxRecDepth 20000 in
theorem ggX4_monthOf_X3_monthOn : GoodIn wsX4_monthOf wsX3_monthOn := goodIn_r _ [28, 29, 30, 31, 27, 32, 33, 34, 35, 36, 37, 38, 39, 40, 41, 42, 43, 44, 61, 62, 63, 64, 65] (by decide +kernel) (by decide +kernel)
set_option maxRecDepth 20000 in
theorem gX4_monthOf_X3_monthOn : GoodIn wsX4_monthOf (wsV RX4 95 RX3 yX3_monthOn wsX3_monthOn) := goodIn_app (goodIn_of _ (by decide +kernel)) ggX4_monthOf_X3_monthOn
theorem dX4_monthOf_0 : decode cX4_monthOf 0 = .ok (.aload_n 0, 1) := by decide +kernel
theorem dX4_monthOf_1 : decode cX4_monthOf 1 = .ok (.iload_n 1, 1) := by decide +kernel
theorem dX4_monthOf_2 : decode cX4_monthOf 2 = .ok (.invokevirtual 42, 3) := by decide +kernel
theorem dX4_monthOf_5 : decode cX4_monthOf 5 = .ok (.astore_n 3, 1) := by decide +kernel
theorem dX4_monthOf_6 : decode cX4_monthOf 6 = .ok (.iload_n 2, 1) := by decide +kernel
theorem dX4_monthOf_7 : decode cX4_monthOf 7 = .ok (.iconst 0, 1) := by decide +kernel
theorem dX4_monthOf_8 : decode cX4_monthOf 8 = .ok (.sipush 20000, 3) := by decide +kernel
theorem dX4_monthOf_11 : decode cX4_monthOf 11 = .ok (.invokestatic 46, 3) := by decide +kernel
theorem dX4_monthOf_14 : decode cX4_monthOf 14 = .ok (.aload_n 3, 1) := by decide +kernel
theorem dX4_monthOf_15 : decode cX4_monthOf 15 = .ok (.iload_n 2, 1) := by decide +kernel
theorem dX4_monthOf_16 : decode cX4_monthOf 16 = .ok (.invokevirtual 95, 3) := by decide +kernel
theorem dX4_monthOf_19 : decode cX4_monthOf 19 = .ok (.ireturn, 1) := by decide +kernel
set_option maxRecDepth 20000 in
theorem ggX4_yearOf_X4_requireTown : GoodIn wsX4_yearOf wsX4_requireTown := goodIn_ca (goodIn_r _ [5, 6, 7, 8, 4, 9, 10, 11, 12, 13, 14, 15, 16, 17, 18, 37, 38, 39, 40, 41, 42, 43, 44, 45, 46, 47, 48, 49, 50, 51, 52] (by decide +kernel) (by decide +kernel)) (goodIn_sub (fun _ h => List.mem_cons_of_mem _ (List.mem_append_left _ (List.mem_append_right _ h))) (by decide +kernel))
set_option maxRecDepth 20000 in
theorem gX4_yearOf_X4_requireTown : GoodIn wsX4_yearOf (wsV RX4 42 RX4 yX4_requireTown wsX4_requireTown) := goodIn_app (goodIn_of _ (by decide +kernel)) ggX4_yearOf_X4_requireTown
set_option maxRecDepth 20000 in
theorem ggX4_yearOf_X4_requireRange : GoodIn wsX4_yearOf wsX4_requireRange := goodIn_ca (goodIn_r _ [21, 22, 23] (by decide +kernel) (by decide +kernel)) (goodIn_sub (fun _ h => List.mem_cons_of_mem _ (List.mem_append_right _ h)) (by decide +kernel))
set_option maxRecDepth 20000 in
theorem gX4_yearOf_X4_requireRange : GoodIn wsX4_yearOf (va_wsS RX4 46 yX4_requireRange wsX4_requireRange) := goodIn_app (goodIn_of _ (by decide +kernel)) ggX4_yearOf_X4_requireRange
set_option maxRecDepth 20000 in
theorem ggX4_yearOf_X3_yearOn : GoodIn wsX4_yearOf wsX3_yearOn := goodIn_r _ [28, 29, 30, 31, 32, 27, 33, 34, 35, 36, 53, 54, 55, 56, 57] (by decide +kernel) (by decide +kernel)
set_option maxRecDepth 20000 in
theorem gX4_yearOf_X3_yearOn : GoodIn wsX4_yearOf (wsV RX4 98 RX3 yX3_yearOn wsX3_yearOn) := goodIn_app (goodIn_of _ (by decide +kernel)) ggX4_yearOf_X3_yearOn
theorem dX4_yearOf_0 : decode cX4_yearOf 0 = .ok (.aload_n 0, 1) := by decide +kernel
theorem dX4_yearOf_1 : decode cX4_yearOf 1 = .ok (.iload_n 1, 1) := by decide +kernel
theorem dX4_yearOf_2 : decode cX4_yearOf 2 = .ok (.invokevirtual 42, 3) := by decide +kernel
theorem dX4_yearOf_5 : decode cX4_yearOf 5 = .ok (.astore_n 3, 1) := by decide +kernel
theorem dX4_yearOf_6 : decode cX4_yearOf 6 = .ok (.iload_n 2, 1) := by decide +kernel
theorem dX4_yearOf_7 : decode cX4_yearOf 7 = .ok (.iconst 0, 1) := by decide +kernel
theorem dX4_yearOf_8 : decode cX4_yearOf 8 = .ok (.sipush 20000, 3) := by decide +kernel
theorem dX4_yearOf_11 : decode cX4_yearOf 11 = .ok (.invokestatic 46, 3) := by decide +kernel
theorem dX4_yearOf_14 : decode cX4_yearOf 14 = .ok (.aload_n 3, 1) := by decide +kernel
theorem dX4_yearOf_15 : decode cX4_yearOf 15 = .ok (.iload_n 2, 1) := by decide +kernel
theorem dX4_yearOf_16 : decode cX4_yearOf 16 = .ok (.invokevirtual 98, 3) := by decide +kernel
theorem dX4_yearOf_19 : decode cX4_yearOf 19 = .ok (.ireturn, 1) := by decide +kernel
set_option maxRecDepth 20000 in
theorem ggX4_weekday_X4_requireRange : GoodIn wsX4_weekday wsX4_requireRange := goodIn_ca (goodIn_r _ [4, 5, 6] (by decide +kernel) (by decide +kernel)) (goodIn_sub (fun _ h => List.mem_cons_of_mem _ (List.mem_append_right _ h)) (by decide +kernel))
set_option maxRecDepth 20000 in
theorem gX4_weekday_X4_requireRange : GoodIn wsX4_weekday (va_wsS RX4 46 yX4_requireRange wsX4_requireRange) := goodIn_app (goodIn_of _ (by decide +kernel)) ggX4_weekday_X4_requireRange
theorem dX4_weekday_0 : decode cX4_weekday 0 = .ok (.iload_n 1, 1) := by decide +kernel
theorem dX4_weekday_1 : decode cX4_weekday 1 = .ok (.iconst 0, 1) := by decide +kernel
theorem dX4_weekday_2 : decode cX4_weekday 2 = .ok (.sipush 20000, 3) := by decide +kernel
theorem dX4_weekday_5 : decode cX4_weekday 5 = .ok (.invokestatic 46, 3) := by decide +kernel
theorem dX4_weekday_8 : decode cX4_weekday 8 = .ok (.iload_n 1, 1) := by decide +kernel
theorem dX4_weekday_9 : decode cX4_weekday 9 = .ok (.bipush 7, 2) := by decide +kernel
theorem dX4_weekday_11 : decode cX4_weekday 11 = .ok (.irem, 1) := by decide +kernel
theorem dX4_weekday_12 : decode cX4_weekday 12 = .ok (.ireturn, 1) := by decide +kernel
set_option maxRecDepth 20000 in
theorem ggX4_dayOfDate_X4_requireTown : GoodIn wsX4_dayOfDate wsX4_requireTown := goodIn_ca (goodIn_r _ [5, 6, 7, 8, 4, 9, 10, 11, 12, 13, 14, 15, 16, 17, 18, 57, 58, 59, 60, 61, 62, 63, 64, 65, 66, 67, 68, 69, 70, 71, 72] (by decide +kernel) (by decide +kernel)) (goodIn_sub (fun _ h => List.mem_cons_of_mem _ (List.mem_append_left _ (List.mem_append_right _ h))) (by decide +kernel))
set_option maxRecDepth 20000 in
theorem gX4_dayOfDate_X4_requireTown : GoodIn wsX4_dayOfDate (wsV RX4 42 RX4 yX4_requireTown wsX4_requireTown) := goodIn_app (goodIn_of _ (by decide +kernel)) ggX4_dayOfDate_X4_requireTown
set_option maxRecDepth 20000 in
theorem ggX4_dayOfDate_X4_requireRange : GoodIn wsX4_dayOfDate wsX4_requireRange := goodIn_ca (goodIn_r _ [21, 22, 23] (by decide +kernel) (by decide +kernel)) (goodIn_sub (fun _ h => List.mem_cons_of_mem _ (List.mem_append_right _ h)) (by decide +kernel))
set_option maxRecDepth 20000 in
theorem gX4_dayOfDate_X4_requireRange : GoodIn wsX4_dayOfDate (va_wsS RX4 46 yX4_requireRange wsX4_requireRange) := goodIn_app (goodIn_of _ (by decide +kernel)) ggX4_dayOfDate_X4_requireRange
set_option maxRecDepth 20000 in
theorem ggX4_dayOfDate_X3_dayWithDate : GoodIn wsX4_dayOfDate wsX3_dayWithDate := goodIn_r _ [28, 29, 30, 31, 27, 32, 33, 34, 35, 36, 37, 38, 39, 40, 41, 42, 43, 44, 45, 46, 47, 48, 49, 50, 51, 52, 53, 54, 55, 56, 73, 74, 75, 76, 77] (by decide +kernel) (by decide +kernel)
set_option maxRecDepth 20000 in
theorem gX4_dayOfDate_X3_dayWithDate : GoodIn wsX4_dayOfDate (wsV RX4 101 RX3 yX3_dayWithDate wsX3_dayWithDate) := goodIn_app (goodIn_of _ (by decide +kernel)) ggX4_dayOfDate_X3_dayWithDate
theorem dX4_dayOfDate_0 : decode cX4_dayOfDate 0 = .ok (.aload_n 0, 1) := by decide +kernel
theorem dX4_dayOfDate_1 : decode cX4_dayOfDate 1 = .ok (.iload_n 1, 1) := by decide +kernel
theorem dX4_dayOfDate_2 : decode cX4_dayOfDate 2 = .ok (.invokevirtual 42, 3) := by decide +kernel
theorem dX4_dayOfDate_5 : decode cX4_dayOfDate 5 = .ok (.astore 5, 2) := by decide +kernel
theorem dX4_dayOfDate_7 : decode cX4_dayOfDate 7 = .ok (.iload_n 2, 1) := by decide +kernel
theorem dX4_dayOfDate_8 : decode cX4_dayOfDate 8 = .ok (.iconst 1, 1) := by decide +kernel
theorem dX4_dayOfDate_9 : decode cX4_dayOfDate 9 = .ok (.bipush 60, 2) := by decide +kernel
theorem dX4_dayOfDate_11 : decode cX4_dayOfDate 11 = .ok (.invokestatic 46, 3) := by decide +kernel
theorem dX4_dayOfDate_14 : decode cX4_dayOfDate 14 = .ok (.iload_n 3, 1) := by decide +kernel
theorem dX4_dayOfDate_15 : decode cX4_dayOfDate 15 = .ok (.iconst 1, 1) := by decide +kernel
theorem dX4_dayOfDate_16 : decode cX4_dayOfDate 16 = .ok (.bipush 12, 2) := by decide +kernel
theorem dX4_dayOfDate_18 : decode cX4_dayOfDate 18 = .ok (.invokestatic 46, 3) := by decide +kernel
theorem dX4_dayOfDate_21 : decode cX4_dayOfDate 21 = .ok (.iload 4, 2) := by decide +kernel
theorem dX4_dayOfDate_23 : decode cX4_dayOfDate 23 = .ok (.iconst 1, 1) := by decide +kernel
theorem dX4_dayOfDate_24 : decode cX4_dayOfDate 24 = .ok (.bipush 31, 2) := by decide +kernel
theorem dX4_dayOfDate_26 : decode cX4_dayOfDate 26 = .ok (.invokestatic 46, 3) := by decide +kernel
theorem dX4_dayOfDate_29 : decode cX4_dayOfDate 29 = .ok (.aload 5, 2) := by decide +kernel
theorem dX4_dayOfDate_31 : decode cX4_dayOfDate 31 = .ok (.iload_n 2, 1) := by decide +kernel
theorem dX4_dayOfDate_32 : decode cX4_dayOfDate 32 = .ok (.iload_n 3, 1) := by decide +kernel
theorem dX4_dayOfDate_33 : decode cX4_dayOfDate 33 = .ok (.iload 4, 2) := by decide +kernel
theorem dX4_dayOfDate_35 : decode cX4_dayOfDate 35 = .ok (.invokevirtual 101, 3) := by decide +kernel
theorem dX4_dayOfDate_38 : decode cX4_dayOfDate 38 = .ok (.ireturn, 1) := by decide +kernel
set_option maxRecDepth 20000 in
theorem ggX4_addFeast_X4_requireTown : GoodIn wsX4_addFeast wsX4_requireTown := goodIn_ca (goodIn_r _ [8, 3, 9, 10, 7, 11, 12, 13, 14, 15, 16, 17, 18, 19, 20, 69, 70, 71, 72, 73, 74, 75, 76, 77, 78, 79, 80, 81, 82, 83, 84] (by decide +kernel) (by decide +kernel)) (goodIn_sub (fun _ h => List.mem_cons_of_mem _ (List.mem_append_left _ (List.mem_append_right _ h))) (by decide +kernel))
set_option maxRecDepth 20000 in
theorem gX4_addFeast_X4_requireTown : GoodIn wsX4_addFeast (wsV RX4 42 RX4 yX4_requireTown wsX4_requireTown) := goodIn_app (goodIn_of _ (by decide +kernel)) ggX4_addFeast_X4_requireTown
set_option maxRecDepth 20000 in
theorem ggX4_addFeast_X4_requireRange : GoodIn wsX4_addFeast wsX4_requireRange := goodIn_ca (goodIn_r _ [23, 24, 25] (by decide +kernel) (by decide +kernel)) (goodIn_sub (fun _ h => List.mem_cons_of_mem _ (List.mem_append_right _ h)) (by decide +kernel))
set_option maxRecDepth 20000 in
theorem gX4_addFeast_X4_requireRange : GoodIn wsX4_addFeast (va_wsS RX4 46 yX4_requireRange wsX4_requireRange) := goodIn_app (goodIn_of _ (by decide +kernel)) ggX4_addFeast_X4_requireRange
set_option maxRecDepth 20000 in
theorem ggX4_addFeast_X4_recordState : GoodIn wsX4_addFeast wsX4_recordState := goodIn_r _ [29, 30, 31, 3, 32, 33, 34, 7, 35, 36, 37, 38, 17, 39, 19, 20, 40, 41, 42, 43, 44, 45, 46, 47, 48, 49, 50, 51, 52, 53, 54, 55, 56, 57, 58, 59, 60, 61, 62, 63, 64, 69, 70, 71, 72, 73, 74, 75, 76, 77, 78, 79, 80, 81, 82, 83, 84, 85, 86, 87, 88, 89, 90, 91, 92, 93] (by decide +kernel) (by decide +kernel)
set_option maxRecDepth 20000 in
theorem gX4_addFeast_X4_recordState : GoodIn wsX4_addFeast (wsV RX4 71 RX4 yX4_recordState wsX4_recordState) := goodIn_app (goodIn_of _ (by decide +kernel)) ggX4_addFeast_X4_recordState
set_option maxRecDepth 20000 in
theorem ggX4_addFeast_X2_putFeast : GoodIn wsX4_addFeast wsX2_putFeast := goodIn_r _ [68, 41, 40, 76, 77, 78, 79, 80, 81, 82, 83, 84, 90, 91, 92, 93] (by decide +kernel) (by decide +kernel)
set_option maxRecDepth 20000 in
theorem gX4_addFeast_X2_putFeast : GoodIn wsX4_addFeast (wsV RX4 110 RX2 yX2_putFeast wsX2_putFeast) := goodIn_app (goodIn_of _ (by decide +kernel)) ggX4_addFeast_X2_putFeast
theorem dX4_addFeast_0 : decode cX4_addFeast 0 = .ok (.aload_n 0, 1) := by decide +kernel
theorem dX4_addFeast_1 : decode cX4_addFeast 1 = .ok (.iload_n 1, 1) := by decide +kernel
theorem dX4_addFeast_2 : decode cX4_addFeast 2 = .ok (.invokevirtual 42, 3) := by decide +kernel
theorem dX4_addFeast_5 : decode cX4_addFeast 5 = .ok (.pop, 1) := by decide +kernel
theorem dX4_addFeast_6 : decode cX4_addFeast 6 = .ok (.iload_n 2, 1) := by decide +kernel
theorem dX4_addFeast_7 : decode cX4_addFeast 7 = .ok (.iconst 1, 1) := by decide +kernel
theorem dX4_addFeast_8 : decode cX4_addFeast 8 = .ok (.bipush 12, 2) := by decide +kernel
theorem dX4_addFeast_10 : decode cX4_addFeast 10 = .ok (.invokestatic 46, 3) := by decide +kernel
theorem dX4_addFeast_13 : decode cX4_addFeast 13 = .ok (.iload_n 3, 1) := by decide +kernel
theorem dX4_addFeast_14 : decode cX4_addFeast 14 = .ok (.iconst 1, 1) := by decide +kernel
theorem dX4_addFeast_15 : decode cX4_addFeast 15 = .ok (.bipush 31, 2) := by decide +kernel
theorem dX4_addFeast_17 : decode cX4_addFeast 17 = .ok (.invokestatic 46, 3) := by decide +kernel
theorem dX4_addFeast_20 : decode cX4_addFeast 20 = .ok (.aload_n 0, 1) := by decide +kernel
theorem dX4_addFeast_21 : decode cX4_addFeast 21 = .ok (.getfield 10, 3) := by decide +kernel
theorem dX4_addFeast_24 : decode cX4_addFeast 24 = .ok (.getfield 105, 3) := by decide +kernel
theorem dX4_addFeast_27 : decode cX4_addFeast 27 = .ok (.bipush 10, 2) := by decide +kernel
theorem dX4_addFeast_29 : decode cX4_addFeast 29 = .ok (.if_icmp .lt 13, 3) := by decide +kernel
theorem dX4_addFeast_32 : decode cX4_addFeast 32 = .ok (.new 66, 3) := by decide +kernel
theorem dX4_addFeast_35 : decode cX4_addFeast 35 = .ok (.dup, 1) := by decide +kernel
theorem dX4_addFeast_36 : decode cX4_addFeast 36 = .ok (.ldc 108, 2) := by decide +kernel
theorem dX4_addFeast_38 : decode cX4_addFeast 38 = .ok (.invokespecial 70, 3) := by decide +kernel
theorem dX4_addFeast_41 : decode cX4_addFeast 41 = .ok (.athrow, 1) := by decide +kernel
theorem dX4_addFeast_42 : decode cX4_addFeast 42 = .ok (.aload_n 0, 1) := by decide +kernel
theorem dX4_addFeast_43 : decode cX4_addFeast 43 = .ok (.invokevirtual 71, 3) := by decide +kernel
theorem dX4_addFeast_46 : decode cX4_addFeast 46 = .ok (.aload_n 0, 1) := by decide +kernel
theorem dX4_addFeast_47 : decode cX4_addFeast 47 = .ok (.getfield 10, 3) := by decide +kernel
theorem dX4_addFeast_50 : decode cX4_addFeast 50 = .ok (.iload_n 1, 1) := by decide +kernel
theorem dX4_addFeast_51 : decode cX4_addFeast 51 = .ok (.iload_n 2, 1) := by decide +kernel
theorem dX4_addFeast_52 : decode cX4_addFeast 52 = .ok (.iload_n 3, 1) := by decide +kernel
theorem dX4_addFeast_53 : decode cX4_addFeast 53 = .ok (.invokevirtual 110, 3) := by decide +kernel
theorem dX4_addFeast_56 : decode cX4_addFeast 56 = .ok (.ireturn, 1) := by decide +kernel
set_option maxRecDepth 20000 in
theorem ggX4_barWeekday_X4_requireFeast : GoodIn wsX4_barWeekday wsX4_requireFeast := goodIn_ca (goodIn_r _ [5, 6, 7, 8, 4, 9, 10, 11, 63, 64, 65, 66, 67, 68, 69, 70, 71, 72, 73, 74, 75, 76, 77, 78] (by decide +kernel) (by decide +kernel)) (goodIn_sub (fun _ h => List.mem_cons_of_mem _ (List.mem_append_left _ (List.mem_append_right _ h))) (by decide +kernel))
set_option maxRecDepth 20000 in
theorem gX4_barWeekday_X4_requireFeast : GoodIn wsX4_barWeekday (wsV RX4 113 RX4 yX4_requireFeast wsX4_requireFeast) := goodIn_app (goodIn_of _ (by decide +kernel)) ggX4_barWeekday_X4_requireFeast
set_option maxRecDepth 20000 in
theorem ggX4_barWeekday_X4_requireRange : GoodIn wsX4_barWeekday wsX4_requireRange := goodIn_ca (goodIn_r _ [14, 15, 16] (by decide +kernel) (by decide +kernel)) (goodIn_sub (fun _ h => List.mem_cons_of_mem _ (List.mem_append_right _ h)) (by decide +kernel))
set_option maxRecDepth 20000 in
theorem gX4_barWeekday_X4_requireRange : GoodIn wsX4_barWeekday (va_wsS RX4 46 yX4_requireRange wsX4_requireRange) := goodIn_app (goodIn_of _ (by decide +kernel)) ggX4_barWeekday_X4_requireRange
set_option maxRecDepth 20000 in
theorem ggX4_barWeekday_X4_recordState : GoodIn wsX4_barWeekday wsX4_recordState := goodIn_r _ [20, 21, 22, 6, 23, 24, 25, 4, 26, 27, 28, 29, 30, 31, 32, 33, 34, 35, 36, 37, 38, 39, 40, 41, 42, 43, 44, 45, 46, 47, 48, 49, 50, 51, 52, 53, 54, 55, 56, 57, 58, 63, 64, 65, 66, 67, 68, 69, 70, 71, 72, 73, 74, 75, 76, 77, 78, 79, 80, 81, 82, 83, 59, 60, 61, 62] (by decide +kernel) (by decide +kernel)
set_option maxRecDepth 20000 in
theorem gX4_barWeekday_X4_recordState : GoodIn wsX4_barWeekday (wsV RX4 71 RX4 yX4_recordState wsX4_recordState) := goodIn_app (goodIn_of _ (by decide +kernel)) ggX4_barWeekday_X4_recordState
theorem dX4_barWeekday_0 : decode cX4_barWeekday 0 = .ok (.aload_n 0, 1) := by decide +kernel
theorem dX4_barWeekday_1 : decode cX4_barWeekday 1 = .ok (.iload_n 1, 1) := by decide +kernel
theorem dX4_barWeekday_2 : decode cX4_barWeekday 2 = .ok (.invokevirtual 113, 3) := by decide +kernel
theorem dX4_barWeekday_5 : decode cX4_barWeekday 5 = .ok (.astore_n 3, 1) := by decide +kernel
theorem dX4_barWeekday_6 : decode cX4_barWeekday 6 = .ok (.iload_n 2, 1) := by decide +kernel
theorem dX4_barWeekday_7 : decode cX4_barWeekday 7 = .ok (.iconst 0, 1) := by decide +kernel
theorem dX4_barWeekday_8 : decode cX4_barWeekday 8 = .ok (.bipush 6, 2) := by decide +kernel
theorem dX4_barWeekday_10 : decode cX4_barWeekday 10 = .ok (.invokestatic 46, 3) := by decide +kernel
theorem dX4_barWeekday_13 : decode cX4_barWeekday 13 = .ok (.aload_n 0, 1) := by decide +kernel
theorem dX4_barWeekday_14 : decode cX4_barWeekday 14 = .ok (.invokevirtual 71, 3) := by decide +kernel
theorem dX4_barWeekday_17 : decode cX4_barWeekday 17 = .ok (.aload_n 3, 1) := by decide +kernel
theorem dX4_barWeekday_18 : decode cX4_barWeekday 18 = .ok (.getfield 117, 3) := by decide +kernel
theorem dX4_barWeekday_21 : decode cX4_barWeekday 21 = .ok (.istore 4, 2) := by decide +kernel
theorem dX4_barWeekday_23 : decode cX4_barWeekday 23 = .ok (.aload_n 3, 1) := by decide +kernel
theorem dX4_barWeekday_24 : decode cX4_barWeekday 24 = .ok (.iload_n 2, 1) := by decide +kernel
theorem dX4_barWeekday_25 : decode cX4_barWeekday 25 = .ok (.putfield 117, 3) := by decide +kernel
theorem dX4_barWeekday_28 : decode cX4_barWeekday 28 = .ok (.iload 4, 2) := by decide +kernel
theorem dX4_barWeekday_30 : decode cX4_barWeekday 30 = .ok (.ireturn, 1) := by decide +kernel
set_option maxRecDepth 20000 in
theorem ggX4_allowAllWeekdays_X4_requireFeast : GoodIn wsX4_allowAllWeekdays wsX4_requireFeast := goodIn_ca (goodIn_r _ [7, 8, 9, 10, 6, 11, 12, 13, 60, 61, 62, 63, 64, 65, 66, 67, 68, 69, 70, 71, 72, 73, 74, 75] (by decide +kernel) (by decide +kernel)) (goodIn_sub (fun _ h => List.mem_cons_of_mem _ (List.mem_append_right _ h)) (by decide +kernel))
set_option maxRecDepth 20000 in
theorem gX4_allowAllWeekdays_X4_requireFeast : GoodIn wsX4_allowAllWeekdays (wsV RX4 113 RX4 yX4_requireFeast wsX4_requireFeast) := goodIn_app (goodIn_of _ (by decide +kernel)) ggX4_allowAllWeekdays_X4_requireFeast
set_option maxRecDepth 20000 in
theorem ggX4_allowAllWeekdays_X4_recordState : GoodIn wsX4_allowAllWeekdays wsX4_recordState := goodIn_r _ [17, 18, 19, 8, 20, 21, 22, 6, 23, 24, 25, 26, 27, 28, 29, 30, 31, 32, 33, 34, 35, 36, 37, 38, 39, 40, 41, 42, 43, 44, 45, 46, 47, 48, 49, 50, 51, 52, 53, 54, 55, 60, 61, 62, 63, 64, 65, 66, 67, 68, 69, 70, 71, 72, 73, 74, 75, 76, 77, 78, 79, 80, 56, 57, 58, 59] (by decide +kernel) (by decide +kernel)
set_option maxRecDepth 20000 in
theorem gX4_allowAllWeekdays_X4_recordState : GoodIn wsX4_allowAllWeekdays (wsV RX4 71 RX4 yX4_recordState wsX4_recordState) := goodIn_app (goodIn_of _ (by decide +kernel)) ggX4_allowAllWeekdays_X4_recordState
theorem dX4_allowAllWeekdays_0 : decode cX4_allowAllWeekdays 0 = .ok (.aload_n 0, 1) := by decide +kernel
theorem dX4_allowAllWeekdays_1 : decode cX4_allowAllWeekdays 1 = .ok (.iload_n 1, 1) := by decide +kernel
theorem dX4_allowAllWeekdays_2 : decode cX4_allowAllWeekdays 2 = .ok (.invokevirtual 113, 3) := by decide +kernel
theorem dX4_allowAllWeekdays_5 : decode cX4_allowAllWeekdays 5 = .ok (.astore_n 2, 1) := by decide +kernel
theorem dX4_allowAllWeekdays_6 : decode cX4_allowAllWeekdays 6 = .ok (.aload_n 2, 1) := by decide +kernel
theorem dX4_allowAllWeekdays_7 : decode cX4_allowAllWeekdays 7 = .ok (.getfield 117, 3) := by decide +kernel
theorem dX4_allowAllWeekdays_10 : decode cX4_allowAllWeekdays 10 = .ok (.iconst (-1), 1) := by decide +kernel
theorem dX4_allowAllWeekdays_11 : decode cX4_allowAllWeekdays 11 = .ok (.if_icmp .ne 13, 3) := by decide +kernel
theorem dX4_allowAllWeekdays_14 : decode cX4_allowAllWeekdays 14 = .ok (.new 66, 3) := by decide +kernel
theorem dX4_allowAllWeekdays_17 : decode cX4_allowAllWeekdays 17 = .ok (.dup, 1) := by decide +kernel
theorem dX4_allowAllWeekdays_18 : decode cX4_allowAllWeekdays 18 = .ok (.ldc 122, 2) := by decide +kernel
theorem dX4_allowAllWeekdays_20 : decode cX4_allowAllWeekdays 20 = .ok (.invokespecial 70, 3) := by decide +kernel
theorem dX4_allowAllWeekdays_23 : decode cX4_allowAllWeekdays 23 = .ok (.athrow, 1) := by decide +kernel
theorem dX4_allowAllWeekdays_24 : decode cX4_allowAllWeekdays 24 = .ok (.aload_n 0, 1) := by decide +kernel
theorem dX4_allowAllWeekdays_25 : decode cX4_allowAllWeekdays 25 = .ok (.invokevirtual 71, 3) := by decide +kernel
theorem dX4_allowAllWeekdays_28 : decode cX4_allowAllWeekdays 28 = .ok (.aload_n 2, 1) := by decide +kernel
theorem dX4_allowAllWeekdays_29 : decode cX4_allowAllWeekdays 29 = .ok (.getfield 117, 3) := by decide +kernel
theorem dX4_allowAllWeekdays_32 : decode cX4_allowAllWeekdays 32 = .ok (.istore_n 3, 1) := by decide +kernel
theorem dX4_allowAllWeekdays_33 : decode cX4_allowAllWeekdays 33 = .ok (.aload_n 2, 1) := by decide +kernel
theorem dX4_allowAllWeekdays_34 : decode cX4_allowAllWeekdays 34 = .ok (.iconst (-1), 1) := by decide +kernel
theorem dX4_allowAllWeekdays_35 : decode cX4_allowAllWeekdays 35 = .ok (.putfield 117, 3) := by decide +kernel
theorem dX4_allowAllWeekdays_38 : decode cX4_allowAllWeekdays 38 = .ok (.iload_n 3, 1) := by decide +kernel
theorem dX4_allowAllWeekdays_39 : decode cX4_allowAllWeekdays 39 = .ok (.ireturn, 1) := by decide +kernel
theorem dX4_feastCount_0 : decode cX4_feastCount 0 = .ok (.aload_n 0, 1) := by decide +kernel
theorem dX4_feastCount_1 : decode cX4_feastCount 1 = .ok (.getfield 10, 3) := by decide +kernel
theorem dX4_feastCount_4 : decode cX4_feastCount 4 = .ok (.getfield 105, 3) := by decide +kernel
theorem dX4_feastCount_7 : decode cX4_feastCount 7 = .ok (.ireturn, 1) := by decide +kernel
set_option maxRecDepth 20000 in
theorem ggX4_feastTown_X4_requireFeast : GoodIn wsX4_feastTown wsX4_requireFeast := goodIn_ca (goodIn_r _ [5, 6, 7, 8, 4, 9, 10, 11, 16, 17, 18, 19, 20, 21, 22, 23, 24, 25, 26, 27, 28, 29, 30, 31] (by decide +kernel) (by decide +kernel)) (goodIn_sub (fun _ h => List.mem_cons_of_mem _ (List.mem_append_right _ h)) (by decide +kernel))
set_option maxRecDepth 20000 in
theorem gX4_feastTown_X4_requireFeast : GoodIn wsX4_feastTown (wsV RX4 113 RX4 yX4_requireFeast wsX4_requireFeast) := goodIn_app (goodIn_of _ (by decide +kernel)) ggX4_feastTown_X4_requireFeast
theorem dX4_feastTown_0 : decode cX4_feastTown 0 = .ok (.aload_n 0, 1) := by decide +kernel
theorem dX4_feastTown_1 : decode cX4_feastTown 1 = .ok (.iload_n 1, 1) := by decide +kernel
theorem dX4_feastTown_2 : decode cX4_feastTown 2 = .ok (.invokevirtual 113, 3) := by decide +kernel
theorem dX4_feastTown_5 : decode cX4_feastTown 5 = .ok (.getfield 124, 3) := by decide +kernel
theorem dX4_feastTown_8 : decode cX4_feastTown 8 = .ok (.ireturn, 1) := by decide +kernel
set_option maxRecDepth 20000 in
theorem ggX4_barredWeekday_X4_requireFeast : GoodIn wsX4_barredWeekday wsX4_requireFeast := goodIn_ca (goodIn_r _ [5, 6, 7, 8, 4, 9, 10, 11, 16, 17, 18, 19, 20, 21, 22, 23, 24, 25, 26, 27, 28, 29, 30, 31] (by decide +kernel) (by decide +kernel)) (goodIn_sub (fun _ h => List.mem_cons_of_mem _ (List.mem_append_right _ h)) (by decide +kernel))
set_option maxRecDepth 20000 in
theorem gX4_barredWeekday_X4_requireFeast : GoodIn wsX4_barredWeekday (wsV RX4 113 RX4 yX4_requireFeast wsX4_requireFeast) := goodIn_app (goodIn_of _ (by decide +kernel)) ggX4_barredWeekday_X4_requireFeast
theorem dX4_barredWeekday_0 : decode cX4_barredWeekday 0 = .ok (.aload_n 0, 1) := by decide +kernel
theorem dX4_barredWeekday_1 : decode cX4_barredWeekday 1 = .ok (.iload_n 1, 1) := by decide +kernel
theorem dX4_barredWeekday_2 : decode cX4_barredWeekday 2 = .ok (.invokevirtual 113, 3) := by decide +kernel
theorem dX4_barredWeekday_5 : decode cX4_barredWeekday 5 = .ok (.getfield 117, 3) := by decide +kernel
theorem dX4_barredWeekday_8 : decode cX4_barredWeekday 8 = .ok (.ireturn, 1) := by decide +kernel
set_option maxRecDepth 20000 in
theorem ggX4_dayDue_X4_requireFeast : GoodIn wsX4_dayDue wsX4_requireFeast := goodIn_ca (goodIn_r _ [6, 1, 7, 8, 5, 9, 10, 11, 61, 62, 63, 64, 65, 66, 67, 72, 73, 74, 75, 76, 77, 78, 79, 80] (by decide +kernel) (by decide +kernel)) (goodIn_sub (fun _ h => List.mem_cons_of_mem _ (List.mem_append_left _ (List.mem_append_right _ h))) (by decide +kernel))
set_option maxRecDepth 20000 in
theorem gX4_dayDue_X4_requireFeast : GoodIn wsX4_dayDue (wsV RX4 113 RX4 yX4_requireFeast wsX4_requireFeast) := goodIn_app (goodIn_of _ (by decide +kernel)) ggX4_dayDue_X4_requireFeast
set_option maxRecDepth 20000 in
theorem ggX4_dayDue_X4_requireRange : GoodIn wsX4_dayDue wsX4_requireRange := goodIn_ca (goodIn_r _ [14, 15, 16] (by decide +kernel) (by decide +kernel)) (goodIn_sub (fun _ h => List.mem_cons_of_mem _ (List.mem_append_right _ h)) (by decide +kernel))
set_option maxRecDepth 20000 in
theorem gX4_dayDue_X4_requireRange : GoodIn wsX4_dayDue (va_wsS RX4 46 yX4_requireRange wsX4_requireRange) := goodIn_app (goodIn_of _ (by decide +kernel)) ggX4_dayDue_X4_requireRange
set_option maxRecDepth 20000 in
theorem ggX4_dayDue_X2_townWith : GoodIn wsX4_dayDue wsX2_townWith := goodIn_r _ [21, 22, 23, 72, 73, 74, 75, 76, 77, 78, 79, 80] (by decide +kernel) (by decide +kernel)
set_option maxRecDepth 20000 in
theorem gX4_dayDue_X2_townWith : GoodIn wsX4_dayDue (wsV RX4 127 RX2 yX2_townWith wsX2_townWith) := goodIn_app (goodIn_of _ (by decide +kernel)) ggX4_dayDue_X2_townWith
set_option maxRecDepth 20000 in
theorem ggX4_dayDue_X3_dueIn : GoodIn wsX4_dayDue wsX3_dueIn := goodIn_r _ [28, 29, 30, 31, 27, 32, 33, 34, 35, 36, 37, 38, 39, 40, 41, 42, 43, 44, 45, 46, 47, 48, 49, 50, 51, 52, 53, 54, 55, 56, 57, 58, 59, 60, 68, 69, 70, 71, 81, 82, 83, 84, 85] (by decide +kernel) (by decide +kernel)
set_option maxRecDepth 20000 in
theorem gX4_dayDue_X3_dueIn : GoodIn wsX4_dayDue (wsV RX4 130 RX3 yX3_dueIn wsX3_dueIn) := goodIn_app (goodIn_of _ (by decide +kernel)) ggX4_dayDue_X3_dueIn
theorem dX4_dayDue_0 : decode cX4_dayDue 0 = .ok (.aload_n 0, 1) := by decide +kernel
theorem dX4_dayDue_1 : decode cX4_dayDue 1 = .ok (.iload_n 1, 1) := by decide +kernel
theorem dX4_dayDue_2 : decode cX4_dayDue 2 = .ok (.invokevirtual 113, 3) := by decide +kernel
theorem dX4_dayDue_5 : decode cX4_dayDue 5 = .ok (.astore_n 3, 1) := by decide +kernel
theorem dX4_dayDue_6 : decode cX4_dayDue 6 = .ok (.iload_n 2, 1) := by decide +kernel
theorem dX4_dayDue_7 : decode cX4_dayDue 7 = .ok (.iconst 1, 1) := by decide +kernel
theorem dX4_dayDue_8 : decode cX4_dayDue 8 = .ok (.bipush 60, 2) := by decide +kernel
theorem dX4_dayDue_10 : decode cX4_dayDue 10 = .ok (.invokestatic 46, 3) := by decide +kernel
theorem dX4_dayDue_13 : decode cX4_dayDue 13 = .ok (.aload_n 0, 1) := by decide +kernel
theorem dX4_dayDue_14 : decode cX4_dayDue 14 = .ok (.getfield 10, 3) := by decide +kernel
theorem dX4_dayDue_17 : decode cX4_dayDue 17 = .ok (.aload_n 3, 1) := by decide +kernel
theorem dX4_dayDue_18 : decode cX4_dayDue 18 = .ok (.getfield 124, 3) := by decide +kernel
theorem dX4_dayDue_21 : decode cX4_dayDue 21 = .ok (.invokevirtual 127, 3) := by decide +kernel
theorem dX4_dayDue_24 : decode cX4_dayDue 24 = .ok (.aload_n 3, 1) := by decide +kernel
theorem dX4_dayDue_25 : decode cX4_dayDue 25 = .ok (.iload_n 2, 1) := by decide +kernel
theorem dX4_dayDue_26 : decode cX4_dayDue 26 = .ok (.invokevirtual 130, 3) := by decide +kernel
theorem dX4_dayDue_29 : decode cX4_dayDue 29 = .ok (.ireturn, 1) := by decide +kernel
set_option maxRecDepth 20000 in
theorem ggX4_dayKept_X4_requireFeast : GoodIn wsX4_dayKept wsX4_requireFeast := goodIn_ca (goodIn_r _ [6, 1, 7, 8, 5, 9, 10, 11, 66, 67, 68, 69, 70, 71, 72, 73, 74, 75, 76, 77, 78, 79, 80, 81] (by decide +kernel) (by decide +kernel)) (goodIn_sub (fun _ h => List.mem_cons_of_mem _ (List.mem_append_left _ (List.mem_append_right _ h))) (by decide +kernel))
set_option maxRecDepth 20000 in
theorem gX4_dayKept_X4_requireFeast : GoodIn wsX4_dayKept (wsV RX4 113 RX4 yX4_requireFeast wsX4_requireFeast) := goodIn_app (goodIn_of _ (by decide +kernel)) ggX4_dayKept_X4_requireFeast
set_option maxRecDepth 20000 in
theorem ggX4_dayKept_X4_requireRange : GoodIn wsX4_dayKept wsX4_requireRange := goodIn_ca (goodIn_r _ [14, 15, 16] (by decide +kernel) (by decide +kernel)) (goodIn_sub (fun _ h => List.mem_cons_of_mem _ (List.mem_append_right _ h)) (by decide +kernel))
set_option maxRecDepth 20000 in
theorem gX4_dayKept_X4_requireRange : GoodIn wsX4_dayKept (va_wsS RX4 46 yX4_requireRange wsX4_requireRange) := goodIn_app (goodIn_of _ (by decide +kernel)) ggX4_dayKept_X4_requireRange
set_option maxRecDepth 20000 in
theorem ggX4_dayKept_X2_keptIn : GoodIn wsX4_dayKept wsX2_keptIn := goodIn_r _ [21, 22, 23, 24, 25, 20, 26, 27, 28, 29, 30, 31, 32, 33, 34, 35, 36, 37, 38, 39, 40, 41, 42, 43, 44, 45, 46, 47, 48, 49, 50, 51, 52, 53, 54, 55, 56, 57, 58, 59, 60, 61, 62, 63, 64, 65, 82, 83, 84, 85, 73, 74, 75, 76, 77, 78, 79, 80, 81, 86, 87, 88, 89, 90] (by decide +kernel) (by decide +kernel)
set_option maxRecDepth 20000 in
theorem gX4_dayKept_X2_keptIn : GoodIn wsX4_dayKept (wsV RX4 134 RX2 yX2_keptIn wsX2_keptIn) := goodIn_app (goodIn_of _ (by decide +kernel)) ggX4_dayKept_X2_keptIn
theorem dX4_dayKept_0 : decode cX4_dayKept 0 = .ok (.aload_n 0, 1) := by decide +kernel
theorem dX4_dayKept_1 : decode cX4_dayKept 1 = .ok (.iload_n 1, 1) := by decide +kernel
theorem dX4_dayKept_2 : decode cX4_dayKept 2 = .ok (.invokevirtual 113, 3) := by decide +kernel
theorem dX4_dayKept_5 : decode cX4_dayKept 5 = .ok (.astore_n 3, 1) := by decide +kernel
theorem dX4_dayKept_6 : decode cX4_dayKept 6 = .ok (.iload_n 2, 1) := by decide +kernel
theorem dX4_dayKept_7 : decode cX4_dayKept 7 = .ok (.iconst 1, 1) := by decide +kernel
theorem dX4_dayKept_8 : decode cX4_dayKept 8 = .ok (.bipush 60, 2) := by decide +kernel
theorem dX4_dayKept_10 : decode cX4_dayKept 10 = .ok (.invokestatic 46, 3) := by decide +kernel
theorem dX4_dayKept_13 : decode cX4_dayKept 13 = .ok (.aload_n 0, 1) := by decide +kernel
theorem dX4_dayKept_14 : decode cX4_dayKept 14 = .ok (.getfield 10, 3) := by decide +kernel
theorem dX4_dayKept_17 : decode cX4_dayKept 17 = .ok (.aload_n 3, 1) := by decide +kernel
theorem dX4_dayKept_18 : decode cX4_dayKept 18 = .ok (.iload_n 2, 1) := by decide +kernel
theorem dX4_dayKept_19 : decode cX4_dayKept 19 = .ok (.invokevirtual 134, 3) := by decide +kernel
theorem dX4_dayKept_22 : decode cX4_dayKept 22 = .ok (.ireturn, 1) := by decide +kernel
set_option maxRecDepth 20000 in
theorem ggX4_isKept_X4_requireFeast : GoodIn wsX4_isKept wsX4_requireFeast := goodIn_ca (goodIn_r _ [6, 1, 7, 8, 5, 9, 10, 11, 79, 80, 81, 82, 83, 84, 85, 86, 87, 88, 89, 90, 91, 92, 93, 94] (by decide +kernel) (by decide +kernel)) (goodIn_sub (fun _ h => List.mem_cons_of_mem _ (List.mem_append_left _ (List.mem_append_right _ h))) (by decide +kernel))
set_option maxRecDepth 20000 in
theorem gX4_isKept_X4_requireFeast : GoodIn wsX4_isKept (wsV RX4 113 RX4 yX4_requireFeast wsX4_requireFeast) := goodIn_app (goodIn_of _ (by decide +kernel)) ggX4_isKept_X4_requireFeast
set_option maxRecDepth 20000 in
theorem ggX4_isKept_X4_requireRange : GoodIn wsX4_isKept wsX4_requireRange := goodIn_ca (goodIn_r _ [14, 15, 16] (by decide +kernel) (by decide +kernel)) (goodIn_sub (fun _ h => List.mem_cons_of_mem _ (List.mem_append_right _ h)) (by decide +kernel))
set_option maxRecDepth 20000 in
theorem gX4_isKept_X4_requireRange : GoodIn wsX4_isKept (va_wsS RX4 46 yX4_requireRange wsX4_requireRange) := goodIn_app (goodIn_of _ (by decide +kernel)) ggX4_isKept_X4_requireRange
set_option maxRecDepth 20000 in
theorem ggX4_isKept_X2_firstKept : GoodIn wsX4_isKept wsX2_firstKept := goodIn_r _ [21, 22, 23, 24, 20, 25, 26, 27, 28, 29, 30, 31, 32, 33, 34, 35, 36, 37, 38, 39, 40, 41, 42, 43, 44, 45, 46, 47, 48, 49, 50, 51, 52, 53, 54, 55, 56, 57, 58, 59, 60, 61, 62, 63, 64, 65, 66, 67, 68, 69, 70, 71, 72, 73, 74, 75, 76, 77, 78, 95, 96, 97, 98, 86, 87, 88, 89, 90, 91, 92, 93, 94, 99, 100, 101, 102, 103] (by decide +kernel) (by decide +kernel)
set_option maxRecDepth 20000 in
theorem gX4_isKept_X2_firstKept : GoodIn wsX4_isKept (wsV RX4 137 RX2 yX2_firstKept wsX2_firstKept) := goodIn_app (goodIn_of _ (by decide +kernel)) ggX4_isKept_X2_firstKept
theorem dX4_isKept_0 : decode cX4_isKept 0 = .ok (.aload_n 0, 1) := by decide +kernel
theorem dX4_isKept_1 : decode cX4_isKept 1 = .ok (.iload_n 1, 1) := by decide +kernel
theorem dX4_isKept_2 : decode cX4_isKept 2 = .ok (.invokevirtual 113, 3) := by decide +kernel
theorem dX4_isKept_5 : decode cX4_isKept 5 = .ok (.astore_n 3, 1) := by decide +kernel
theorem dX4_isKept_6 : decode cX4_isKept 6 = .ok (.iload_n 2, 1) := by decide +kernel
theorem dX4_isKept_7 : decode cX4_isKept 7 = .ok (.iconst 0, 1) := by decide +kernel
theorem dX4_isKept_8 : decode cX4_isKept 8 = .ok (.sipush 20000, 3) := by decide +kernel
theorem dX4_isKept_11 : decode cX4_isKept 11 = .ok (.invokestatic 46, 3) := by decide +kernel
theorem dX4_isKept_14 : decode cX4_isKept 14 = .ok (.aload_n 0, 1) := by decide +kernel
theorem dX4_isKept_15 : decode cX4_isKept 15 = .ok (.getfield 10, 3) := by decide +kernel
theorem dX4_isKept_18 : decode cX4_isKept 18 = .ok (.aload_n 3, 1) := by decide +kernel
theorem dX4_isKept_19 : decode cX4_isKept 19 = .ok (.iload_n 2, 1) := by decide +kernel
theorem dX4_isKept_20 : decode cX4_isKept 20 = .ok (.iload_n 2, 1) := by decide +kernel
theorem dX4_isKept_21 : decode cX4_isKept 21 = .ok (.invokevirtual 137, 3) := by decide +kernel
theorem dX4_isKept_24 : decode cX4_isKept 24 = .ok (.iconst (-1), 1) := by decide +kernel
theorem dX4_isKept_25 : decode cX4_isKept 25 = .ok (.if_icmp .eq 7, 3) := by decide +kernel
theorem dX4_isKept_28 : decode cX4_isKept 28 = .ok (.iconst 1, 1) := by decide +kernel
theorem dX4_isKept_29 : decode cX4_isKept 29 = .ok (.goto 4, 3) := by decide +kernel
theorem dX4_isKept_32 : decode cX4_isKept 32 = .ok (.iconst 0, 1) := by decide +kernel
theorem dX4_isKept_33 : decode cX4_isKept 33 = .ok (.ireturn, 1) := by decide +kernel
set_option maxRecDepth 20000 in
theorem ggX4_feastsOn_X4_requireRange : GoodIn wsX4_feastsOn wsX4_requireRange := goodIn_ca (goodIn_r _ [6, 7, 8] (by decide +kernel) (by decide +kernel)) (goodIn_sub (fun _ h => List.mem_cons_of_mem _ (List.mem_append_right _ h)) (by decide +kernel))
set_option maxRecDepth 20000 in
theorem gX4_feastsOn_X4_requireRange : GoodIn wsX4_feastsOn (va_wsS RX4 46 yX4_requireRange wsX4_requireRange) := goodIn_app (goodIn_of _ (by decide +kernel)) ggX4_feastsOn_X4_requireRange
set_option maxRecDepth 20000 in
theorem ggX4_feastsOn_X2_markFeasts : GoodIn wsX4_feastsOn wsX2_markFeasts := goodIn_r _ [13, 14, 15, 16, 17, 18, 12, 19, 20, 21, 22, 23, 24, 25, 26, 27, 28, 29, 30, 31, 32, 33, 34, 35, 36, 37, 38, 39, 40, 41, 42, 43, 44, 45, 46, 47, 48, 49, 50, 51, 52, 53, 54, 55, 56, 57, 58, 59, 60, 61, 62, 63, 64, 65, 66, 67, 68, 69, 70, 71, 72, 80, 81, 82, 83, 84, 85, 86, 87, 88, 89, 90, 91, 92, 93, 94, 95, 96, 97] (by decide +kernel) (by decide +kernel)
set_option maxRecDepth 20000 in
theorem gX4_feastsOn_X2_markFeasts : GoodIn wsX4_feastsOn (wsV RX4 141 RX2 yX2_markFeasts wsX2_markFeasts) := goodIn_app (goodIn_of _ (by decide +kernel)) ggX4_feastsOn_X2_markFeasts
theorem dX4_feastsOn_0 : decode cX4_feastsOn 0 = .ok (.iload_n 1, 1) := by decide +kernel
theorem dX4_feastsOn_1 : decode cX4_feastsOn 1 = .ok (.iconst 0, 1) := by decide +kernel
theorem dX4_feastsOn_2 : decode cX4_feastsOn 2 = .ok (.sipush 20000, 3) := by decide +kernel
theorem dX4_feastsOn_5 : decode cX4_feastsOn 5 = .ok (.invokestatic 46, 3) := by decide +kernel
theorem dX4_feastsOn_8 : decode cX4_feastsOn 8 = .ok (.aload_n 0, 1) := by decide +kernel
theorem dX4_feastsOn_9 : decode cX4_feastsOn 9 = .ok (.getfield 10, 3) := by decide +kernel
theorem dX4_feastsOn_12 : decode cX4_feastsOn 12 = .ok (.aload_n 0, 1) := by decide +kernel
theorem dX4_feastsOn_13 : decode cX4_feastsOn 13 = .ok (.getfield 38, 3) := by decide +kernel
theorem dX4_feastsOn_16 : decode cX4_feastsOn 16 = .ok (.iload_n 1, 1) := by decide +kernel
theorem dX4_feastsOn_17 : decode cX4_feastsOn 17 = .ok (.iconst 1, 1) := by decide +kernel
theorem dX4_feastsOn_18 : decode cX4_feastsOn 18 = .ok (.invokevirtual 141, 3) := by decide +kernel
theorem dX4_feastsOn_21 : decode cX4_feastsOn 21 = .ok (.aload_n 0, 1) := by decide +kernel
theorem dX4_feastsOn_22 : decode cX4_feastsOn 22 = .ok (.getfield 38, 3) := by decide +kernel
theorem dX4_feastsOn_25 : decode cX4_feastsOn 25 = .ok (.iconst 0, 1) := by decide +kernel
theorem dX4_feastsOn_26 : decode cX4_feastsOn 26 = .ok (.iaload, 1) := by decide +kernel
theorem dX4_feastsOn_27 : decode cX4_feastsOn 27 = .ok (.ireturn, 1) := by decide +kernel
set_option maxRecDepth 20000 in
theorem ggX4_isQuarrel_X4_requireRange : GoodIn wsX4_isQuarrel wsX4_requireRange := goodIn_ca (goodIn_r _ [4, 5, 6] (by decide +kernel) (by decide +kernel)) (goodIn_sub (fun _ h => List.mem_cons_of_mem _ (List.mem_append_right _ h)) (by decide +kernel))
set_option maxRecDepth 20000 in
theorem gX4_isQuarrel_X4_requireRange : GoodIn wsX4_isQuarrel (va_wsS RX4 46 yX4_requireRange wsX4_requireRange) := goodIn_app (goodIn_of _ (by decide +kernel)) ggX4_isQuarrel_X4_requireRange
set_option maxRecDepth 20000 in
theorem ggX4_isQuarrel_X4_quarrelsFrom : GoodIn wsX4_isQuarrel wsX4_quarrelsFrom := goodIn_r _ [10, 11, 12, 13, 14, 15, 16, 17, 18, 19, 20, 21, 22, 23, 24, 25, 26, 27, 28, 29, 30, 31, 32, 33, 34, 35, 36, 37, 38, 39, 40, 41, 42, 43, 44, 45, 46, 47, 48, 49, 50, 51, 52, 53, 54, 55, 56, 57, 58, 59, 60, 61, 62, 63, 64, 65, 66, 67, 68, 69, 70, 71, 72, 73, 74, 75, 76, 77, 78, 79, 80, 81, 82, 83, 84, 85, 86, 87, 88, 89, 90, 91, 92, 93, 94, 95, 96, 97, 98, 99, 100, 101, 102, 103, 104, 105, 106, 107, 108, 109] (by decide +kernel) (by decide +kernel)
set_option maxRecDepth 20000 in
theorem gX4_isQuarrel_X4_quarrelsFrom : GoodIn wsX4_isQuarrel (wsV RX4 145 RX4 yX4_quarrelsFrom wsX4_quarrelsFrom) := goodIn_app (goodIn_of _ (by decide +kernel)) ggX4_isQuarrel_X4_quarrelsFrom
theorem dX4_isQuarrel_0 : decode cX4_isQuarrel 0 = .ok (.iload_n 1, 1) := by decide +kernel
theorem dX4_isQuarrel_1 : decode cX4_isQuarrel 1 = .ok (.iconst 0, 1) := by decide +kernel
theorem dX4_isQuarrel_2 : decode cX4_isQuarrel 2 = .ok (.sipush 20000, 3) := by decide +kernel
theorem dX4_isQuarrel_5 : decode cX4_isQuarrel 5 = .ok (.invokestatic 46, 3) := by decide +kernel
theorem dX4_isQuarrel_8 : decode cX4_isQuarrel 8 = .ok (.aload_n 0, 1) := by decide +kernel
theorem dX4_isQuarrel_9 : decode cX4_isQuarrel 9 = .ok (.iload_n 1, 1) := by decide +kernel
theorem dX4_isQuarrel_10 : decode cX4_isQuarrel 10 = .ok (.iconst 1, 1) := by decide +kernel
theorem dX4_isQuarrel_11 : decode cX4_isQuarrel 11 = .ok (.invokevirtual 145, 3) := by decide +kernel
theorem dX4_isQuarrel_14 : decode cX4_isQuarrel 14 = .ok (.ifCond .le 7, 3) := by decide +kernel
theorem dX4_isQuarrel_17 : decode cX4_isQuarrel 17 = .ok (.iconst 1, 1) := by decide +kernel
theorem dX4_isQuarrel_18 : decode cX4_isQuarrel 18 = .ok (.goto 4, 3) := by decide +kernel
theorem dX4_isQuarrel_21 : decode cX4_isQuarrel 21 = .ok (.iconst 0, 1) := by decide +kernel
theorem dX4_isQuarrel_22 : decode cX4_isQuarrel 22 = .ok (.ireturn, 1) := by decide +kernel
set_option maxRecDepth 20000 in
theorem ggX4_setShift_X4_requireRange : GoodIn wsX4_setShift wsX4_requireRange := goodIn_ca (goodIn_r _ [5, 6, 7] (by decide +kernel) (by decide +kernel)) (goodIn_sub (fun _ h => List.mem_cons_of_mem _ (List.mem_append_right _ h)) (by decide +kernel))
set_option maxRecDepth 20000 in
theorem gX4_setShift_X4_requireRange : GoodIn wsX4_setShift (va_wsS RX4 46 yX4_requireRange wsX4_requireRange) := goodIn_app (goodIn_of _ (by decide +kernel)) ggX4_setShift_X4_requireRange
set_option maxRecDepth 20000 in
theorem ggX4_setShift_X4_recordState : GoodIn wsX4_setShift wsX4_recordState := goodIn_r _ [11, 12, 13, 1, 14, 15, 16, 4, 17, 18, 19, 20, 21, 22, 23, 24, 25, 26, 27, 28, 29, 30, 31, 32, 33, 34, 35, 36, 37, 38, 39, 40, 41, 42, 43, 44, 45, 46, 47, 48, 49, 50, 51, 52, 53, 54, 55, 56, 57, 58, 59, 60, 61, 62, 63, 64, 65, 66, 67, 68, 69, 70, 71, 72, 73, 74] (by decide +kernel) (by decide +kernel)
set_option maxRecDepth 20000 in
theorem gX4_setShift_X4_recordState : GoodIn wsX4_setShift (wsV RX4 71 RX4 yX4_recordState wsX4_recordState) := goodIn_app (goodIn_of _ (by decide +kernel)) ggX4_setShift_X4_recordState
theorem dX4_setShift_0 : decode cX4_setShift 0 = .ok (.iload_n 1, 1) := by decide +kernel
theorem dX4_setShift_1 : decode cX4_setShift 1 = .ok (.iconst 1, 1) := by decide +kernel
theorem dX4_setShift_2 : decode cX4_setShift 2 = .ok (.bipush 9, 2) := by decide +kernel
theorem dX4_setShift_4 : decode cX4_setShift 4 = .ok (.invokestatic 46, 3) := by decide +kernel
theorem dX4_setShift_7 : decode cX4_setShift 7 = .ok (.aload_n 0, 1) := by decide +kernel
theorem dX4_setShift_8 : decode cX4_setShift 8 = .ok (.invokevirtual 71, 3) := by decide +kernel
theorem dX4_setShift_11 : decode cX4_setShift 11 = .ok (.aload_n 0, 1) := by decide +kernel
theorem dX4_setShift_12 : decode cX4_setShift 12 = .ok (.getfield 10, 3) := by decide +kernel
theorem dX4_setShift_15 : decode cX4_setShift 15 = .ok (.getfield 148, 3) := by decide +kernel
theorem dX4_setShift_18 : decode cX4_setShift 18 = .ok (.istore_n 2, 1) := by decide +kernel
theorem dX4_setShift_19 : decode cX4_setShift 19 = .ok (.aload_n 0, 1) := by decide +kernel
theorem dX4_setShift_20 : decode cX4_setShift 20 = .ok (.getfield 10, 3) := by decide +kernel
theorem dX4_setShift_23 : decode cX4_setShift 23 = .ok (.iload_n 1, 1) := by decide +kernel
theorem dX4_setShift_24 : decode cX4_setShift 24 = .ok (.putfield 148, 3) := by decide +kernel
theorem dX4_setShift_27 : decode cX4_setShift 27 = .ok (.iload_n 2, 1) := by decide +kernel
theorem dX4_setShift_28 : decode cX4_setShift 28 = .ok (.ireturn, 1) := by decide +kernel
theorem dX4_shift_0 : decode cX4_shift 0 = .ok (.aload_n 0, 1) := by decide +kernel
theorem dX4_shift_1 : decode cX4_shift 1 = .ok (.getfield 10, 3) := by decide +kernel
theorem dX4_shift_4 : decode cX4_shift 4 = .ok (.getfield 148, 3) := by decide +kernel
theorem dX4_shift_7 : decode cX4_shift 7 = .ok (.ireturn, 1) := by decide +kernel
set_option maxRecDepth 20000 in
theorem ggX4_setCopiesPerDay_X4_requireRange : GoodIn wsX4_setCopiesPerDay wsX4_requireRange := goodIn_ca (goodIn_r _ [5, 6, 7] (by decide +kernel) (by decide +kernel)) (goodIn_sub (fun _ h => List.mem_cons_of_mem _ (List.mem_append_right _ h)) (by decide +kernel))
set_option maxRecDepth 20000 in
theorem gX4_setCopiesPerDay_X4_requireRange : GoodIn wsX4_setCopiesPerDay (va_wsS RX4 46 yX4_requireRange wsX4_requireRange) := goodIn_app (goodIn_of _ (by decide +kernel)) ggX4_setCopiesPerDay_X4_requireRange
set_option maxRecDepth 20000 in
theorem ggX4_setCopiesPerDay_X4_recordState : GoodIn wsX4_setCopiesPerDay wsX4_recordState := goodIn_r _ [11, 12, 13, 1, 14, 15, 16, 4, 17, 18, 19, 20, 21, 22, 23, 24, 25, 26, 27, 28, 29, 30, 31, 32, 33, 34, 35, 36, 37, 38, 39, 40, 41, 42, 43, 44, 45, 46, 47, 48, 49, 50, 51, 52, 53, 54, 55, 56, 57, 58, 59, 60, 61, 62, 63, 64, 65, 66, 67, 68, 69, 70, 71, 72, 73, 74] (by decide +kernel) (by decide +kernel)
set_option maxRecDepth 20000 in
theorem gX4_setCopiesPerDay_X4_recordState : GoodIn wsX4_setCopiesPerDay (wsV RX4 71 RX4 yX4_recordState wsX4_recordState) := goodIn_app (goodIn_of _ (by decide +kernel)) ggX4_setCopiesPerDay_X4_recordState
theorem dX4_setCopiesPerDay_0 : decode cX4_setCopiesPerDay 0 = .ok (.iload_n 1, 1) := by decide +kernel
theorem dX4_setCopiesPerDay_1 : decode cX4_setCopiesPerDay 1 = .ok (.iconst 0, 1) := by decide +kernel
theorem dX4_setCopiesPerDay_2 : decode cX4_setCopiesPerDay 2 = .ok (.bipush 9, 2) := by decide +kernel
theorem dX4_setCopiesPerDay_4 : decode cX4_setCopiesPerDay 4 = .ok (.invokestatic 46, 3) := by decide +kernel
theorem dX4_setCopiesPerDay_7 : decode cX4_setCopiesPerDay 7 = .ok (.aload_n 0, 1) := by decide +kernel
theorem dX4_setCopiesPerDay_8 : decode cX4_setCopiesPerDay 8 = .ok (.invokevirtual 71, 3) := by decide +kernel
theorem dX4_setCopiesPerDay_11 : decode cX4_setCopiesPerDay 11 = .ok (.aload_n 0, 1) := by decide +kernel
theorem dX4_setCopiesPerDay_12 : decode cX4_setCopiesPerDay 12 = .ok (.getfield 10, 3) := by decide +kernel
theorem dX4_setCopiesPerDay_15 : decode cX4_setCopiesPerDay 15 = .ok (.getfield 151, 3) := by decide +kernel
theorem dX4_setCopiesPerDay_18 : decode cX4_setCopiesPerDay 18 = .ok (.istore_n 2, 1) := by decide +kernel
theorem dX4_setCopiesPerDay_19 : decode cX4_setCopiesPerDay 19 = .ok (.aload_n 0, 1) := by decide +kernel
theorem dX4_setCopiesPerDay_20 : decode cX4_setCopiesPerDay 20 = .ok (.getfield 10, 3) := by decide +kernel
theorem dX4_setCopiesPerDay_23 : decode cX4_setCopiesPerDay 23 = .ok (.iload_n 1, 1) := by decide +kernel
theorem dX4_setCopiesPerDay_24 : decode cX4_setCopiesPerDay 24 = .ok (.putfield 151, 3) := by decide +kernel
theorem dX4_setCopiesPerDay_27 : decode cX4_setCopiesPerDay 27 = .ok (.iload_n 2, 1) := by decide +kernel
theorem dX4_setCopiesPerDay_28 : decode cX4_setCopiesPerDay 28 = .ok (.ireturn, 1) := by decide +kernel
theorem dX4_copiesPerDay_0 : decode cX4_copiesPerDay 0 = .ok (.aload_n 0, 1) := by decide +kernel
theorem dX4_copiesPerDay_1 : decode cX4_copiesPerDay 1 = .ok (.getfield 10, 3) := by decide +kernel
theorem dX4_copiesPerDay_4 : decode cX4_copiesPerDay 4 = .ok (.getfield 151, 3) := by decide +kernel
theorem dX4_copiesPerDay_7 : decode cX4_copiesPerDay 7 = .ok (.ireturn, 1) := by decide +kernel
set_option maxRecDepth 20000 in
theorem ggX4_passDays_X4_requireRange : GoodIn wsX4_passDays wsX4_requireRange := goodIn_ca (goodIn_r _ [8, 9, 10] (by decide +kernel) (by decide +kernel)) (goodIn_sub (fun _ h => List.mem_cons_of_mem _ (List.mem_append_right _ h)) (by decide +kernel))
set_option maxRecDepth 20000 in
theorem gX4_passDays_X4_requireRange : GoodIn wsX4_passDays (va_wsS RX4 46 yX4_requireRange wsX4_requireRange) := goodIn_app (goodIn_of _ (by decide +kernel)) ggX4_passDays_X4_requireRange
set_option maxRecDepth 20000 in
theorem ggX4_passDays_X4_recordState : GoodIn wsX4_passDays wsX4_recordState := goodIn_r _ [14, 15, 16, 3, 17, 18, 19, 7, 20, 21, 22, 23, 24, 25, 26, 27, 28, 29, 30, 31, 32, 33, 34, 35, 36, 37, 38, 39, 40, 41, 42, 43, 44, 45, 46, 47, 48, 49, 50, 51, 52, 130, 131, 132, 133, 134, 135, 136, 137, 138, 139, 140, 141, 142, 143, 144, 145, 146, 147, 148, 149, 150, 151, 152, 153, 154] (by decide +kernel) (by decide +kernel)
set_option maxRecDepth 20000 in
theorem gX4_passDays_X4_recordState : GoodIn wsX4_passDays (wsV RX4 71 RX4 yX4_recordState wsX4_recordState) := goodIn_app (goodIn_of _ (by decide +kernel)) ggX4_passDays_X4_recordState
set_option maxRecDepth 20000 in
theorem ggX4_passDays_X4_quarrelsFrom : GoodIn wsX4_passDays wsX4_quarrelsFrom := goodIn_r _ [56, 3, 4, 57, 58, 59, 24, 60, 29, 28, 61, 62, 63, 64, 26, 27, 65, 66, 67, 38, 68, 69, 70, 71, 72, 73, 42, 40, 41, 74, 75, 76, 77, 78, 79, 80, 81, 82, 83, 84, 85, 30, 86, 87, 88, 89, 90, 91, 92, 93, 94, 95, 96, 97, 98, 99, 100, 101, 102, 103, 104, 105, 106, 107, 108, 109, 110, 111, 112, 113, 114, 115, 116, 117, 118, 130, 131, 132, 133, 134, 135, 136, 137, 138, 139, 140, 141, 142, 143, 144, 145, 151, 152, 153, 154, 146, 147, 148, 149, 150] (by decide +kernel) (by decide +kernel)
set_option maxRecDepth 20000 in
theorem gX4_passDays_X4_quarrelsFrom : GoodIn wsX4_passDays (wsV RX4 145 RX4 yX4_quarrelsFrom wsX4_quarrelsFrom) := goodIn_app (goodIn_of _ (by decide +kernel)) ggX4_passDays_X4_quarrelsFrom
set_option maxRecDepth 20000 in
theorem ggX4_passDays_X2_countPassed : GoodIn wsX4_passDays wsX2_countPassed := goodIn_r _ [122, 26, 27, 34, 31, 115, 116, 117, 24, 118, 29, 28, 123, 124, 125, 126, 127, 128, 129, 137, 138, 139, 140, 141, 142, 143, 144, 145, 146, 147, 148, 149, 150, 151, 152, 153, 154] (by decide +kernel) (by decide +kernel)
set_option maxRecDepth 20000 in
theorem gX4_passDays_X2_countPassed : GoodIn wsX4_passDays (wsV RX4 162 RX2 yX2_countPassed wsX2_countPassed) := goodIn_app (goodIn_of _ (by decide +kernel)) ggX4_passDays_X2_countPassed
theorem dX4_passDays_0 : decode cX4_passDays 0 = .ok (.iload_n 1, 1) := by decide +kernel
theorem dX4_passDays_1 : decode cX4_passDays 1 = .ok (.iconst 1, 1) := by decide +kernel
theorem dX4_passDays_2 : decode cX4_passDays 2 = .ok (.sipush 400, 3) := by decide +kernel
theorem dX4_passDays_5 : decode cX4_passDays 5 = .ok (.invokestatic 46, 3) := by decide +kernel
theorem dX4_passDays_8 : decode cX4_passDays 8 = .ok (.aload_n 0, 1) := by decide +kernel
theorem dX4_passDays_9 : decode cX4_passDays 9 = .ok (.getfield 10, 3) := by decide +kernel
theorem dX4_passDays_12 : decode cX4_passDays 12 = .ok (.getfield 154, 3) := by decide +kernel
theorem dX4_passDays_15 : decode cX4_passDays 15 = .ok (.iload_n 1, 1) := by decide +kernel
theorem dX4_passDays_16 : decode cX4_passDays 16 = .ok (.iadd, 1) := by decide +kernel
theorem dX4_passDays_17 : decode cX4_passDays 17 = .ok (.sipush 9999, 3) := by decide +kernel
theorem dX4_passDays_20 : decode cX4_passDays 20 = .ok (.if_icmp .le 13, 3) := by decide +kernel
theorem dX4_passDays_23 : decode cX4_passDays 23 = .ok (.new 66, 3) := by decide +kernel
theorem dX4_passDays_26 : decode cX4_passDays 26 = .ok (.dup, 1) := by decide +kernel
theorem dX4_passDays_27 : decode cX4_passDays 27 = .ok (.ldc 157, 2) := by decide +kernel
theorem dX4_passDays_29 : decode cX4_passDays 29 = .ok (.invokespecial 70, 3) := by decide +kernel
theorem dX4_passDays_32 : decode cX4_passDays 32 = .ok (.athrow, 1) := by decide +kernel
theorem dX4_passDays_33 : decode cX4_passDays 33 = .ok (.aload_n 0, 1) := by decide +kernel
theorem dX4_passDays_34 : decode cX4_passDays 34 = .ok (.invokevirtual 71, 3) := by decide +kernel
theorem dX4_passDays_37 : decode cX4_passDays 37 = .ok (.aload_n 0, 1) := by decide +kernel
theorem dX4_passDays_38 : decode cX4_passDays 38 = .ok (.aload_n 0, 1) := by decide +kernel
theorem dX4_passDays_39 : decode cX4_passDays 39 = .ok (.getfield 10, 3) := by decide +kernel
theorem dX4_passDays_42 : decode cX4_passDays 42 = .ok (.getfield 154, 3) := by decide +kernel
theorem dX4_passDays_45 : decode cX4_passDays 45 = .ok (.iload_n 1, 1) := by decide +kernel
theorem dX4_passDays_46 : decode cX4_passDays 46 = .ok (.invokevirtual 145, 3) := by decide +kernel
theorem dX4_passDays_49 : decode cX4_passDays 49 = .ok (.istore_n 2, 1) := by decide +kernel
theorem dX4_passDays_50 : decode cX4_passDays 50 = .ok (.aload_n 0, 1) := by decide +kernel
theorem dX4_passDays_51 : decode cX4_passDays 51 = .ok (.getfield 10, 3) := by decide +kernel
theorem dX4_passDays_54 : decode cX4_passDays 54 = .ok (.dup, 1) := by decide +kernel
theorem dX4_passDays_55 : decode cX4_passDays 55 = .ok (.getfield 159, 3) := by decide +kernel
theorem dX4_passDays_58 : decode cX4_passDays 58 = .ok (.iload_n 2, 1) := by decide +kernel
theorem dX4_passDays_59 : decode cX4_passDays 59 = .ok (.iadd, 1) := by decide +kernel
theorem dX4_passDays_60 : decode cX4_passDays 60 = .ok (.putfield 159, 3) := by decide +kernel
theorem dX4_passDays_63 : decode cX4_passDays 63 = .ok (.aload_n 0, 1) := by decide +kernel
theorem dX4_passDays_64 : decode cX4_passDays 64 = .ok (.getfield 10, 3) := by decide +kernel
theorem dX4_passDays_67 : decode cX4_passDays 67 = .ok (.aload_n 0, 1) := by decide +kernel
theorem dX4_passDays_68 : decode cX4_passDays 68 = .ok (.getfield 38, 3) := by decide +kernel
theorem dX4_passDays_71 : decode cX4_passDays 71 = .ok (.iload_n 1, 1) := by decide +kernel
theorem dX4_passDays_72 : decode cX4_passDays 72 = .ok (.invokevirtual 162, 3) := by decide +kernel
theorem dX4_passDays_75 : decode cX4_passDays 75 = .ok (.aload_n 0, 1) := by decide +kernel
theorem dX4_passDays_76 : decode cX4_passDays 76 = .ok (.getfield 10, 3) := by decide +kernel
theorem dX4_passDays_79 : decode cX4_passDays 79 = .ok (.dup, 1) := by decide +kernel
theorem dX4_passDays_80 : decode cX4_passDays 80 = .ok (.getfield 154, 3) := by decide +kernel
theorem dX4_passDays_83 : decode cX4_passDays 83 = .ok (.iload_n 1, 1) := by decide +kernel
theorem dX4_passDays_84 : decode cX4_passDays 84 = .ok (.iadd, 1) := by decide +kernel
theorem dX4_passDays_85 : decode cX4_passDays 85 = .ok (.putfield 154, 3) := by decide +kernel
theorem dX4_passDays_88 : decode cX4_passDays 88 = .ok (.iload_n 2, 1) := by decide +kernel
theorem dX4_passDays_89 : decode cX4_passDays 89 = .ok (.ireturn, 1) := by decide +kernel
theorem dX4_today_0 : decode cX4_today 0 = .ok (.aload_n 0, 1) := by decide +kernel
theorem dX4_today_1 : decode cX4_today 1 = .ok (.getfield 10, 3) := by decide +kernel
theorem dX4_today_4 : decode cX4_today 4 = .ok (.getfield 154, 3) := by decide +kernel
theorem dX4_today_7 : decode cX4_today 7 = .ok (.ireturn, 1) := by decide +kernel
set_option maxRecDepth 20000 in
theorem ggX4_feastsKept_X4_requireTown : GoodIn wsX4_feastsKept wsX4_requireTown := goodIn_ca (goodIn_r _ [5, 6, 7, 8, 4, 9, 10, 11, 12, 13, 14, 15, 16, 17, 18, 24, 25, 26, 27, 28, 29, 30, 31, 32, 33, 34, 35, 36, 37, 38, 39] (by decide +kernel) (by decide +kernel)) (goodIn_sub (fun _ h => List.mem_cons_of_mem _ (List.mem_append_right _ h)) (by decide +kernel))
set_option maxRecDepth 20000 in
theorem gX4_feastsKept_X4_requireTown : GoodIn wsX4_feastsKept (wsV RX4 42 RX4 yX4_requireTown wsX4_requireTown) := goodIn_app (goodIn_of _ (by decide +kernel)) ggX4_feastsKept_X4_requireTown
theorem dX4_feastsKept_0 : decode cX4_feastsKept 0 = .ok (.aload_n 0, 1) := by decide +kernel
theorem dX4_feastsKept_1 : decode cX4_feastsKept 1 = .ok (.iload_n 1, 1) := by decide +kernel
theorem dX4_feastsKept_2 : decode cX4_feastsKept 2 = .ok (.invokevirtual 42, 3) := by decide +kernel
theorem dX4_feastsKept_5 : decode cX4_feastsKept 5 = .ok (.getfield 166, 3) := by decide +kernel
theorem dX4_feastsKept_8 : decode cX4_feastsKept 8 = .ok (.ireturn, 1) := by decide +kernel
theorem dX4_quarrelCount_0 : decode cX4_quarrelCount 0 = .ok (.aload_n 0, 1) := by decide +kernel
theorem dX4_quarrelCount_1 : decode cX4_quarrelCount 1 = .ok (.getfield 10, 3) := by decide +kernel
theorem dX4_quarrelCount_4 : decode cX4_quarrelCount 4 = .ok (.getfield 159, 3) := by decide +kernel
theorem dX4_quarrelCount_7 : decode cX4_quarrelCount 7 = .ok (.ireturn, 1) := by decide +kernel
theorem dX4_copiesMade_0 : decode cX4_copiesMade 0 = .ok (.aload_n 0, 1) := by decide +kernel
theorem dX4_copiesMade_1 : decode cX4_copiesMade 1 = .ok (.getfield 10, 3) := by decide +kernel
theorem dX4_copiesMade_4 : decode cX4_copiesMade 4 = .ok (.getfield 169, 3) := by decide +kernel
theorem dX4_copiesMade_7 : decode cX4_copiesMade 7 = .ok (.ireturn, 1) := by decide +kernel
set_option maxRecDepth 20000 in
theorem ggX4_nextDay_X4_requireFeast : GoodIn wsX4_nextDay wsX4_requireFeast := goodIn_ca (goodIn_r _ [6, 1, 7, 8, 5, 9, 10, 11, 74, 75, 76, 77, 78, 79, 80, 81, 82, 83, 84, 85, 86, 87, 88, 89] (by decide +kernel) (by decide +kernel)) (goodIn_sub (fun _ h => List.mem_cons_of_mem _ (List.mem_append_right _ h)) (by decide +kernel))
set_option maxRecDepth 20000 in
theorem gX4_nextDay_X4_requireFeast : GoodIn wsX4_nextDay (wsV RX4 113 RX4 yX4_requireFeast wsX4_requireFeast) := goodIn_app (goodIn_of _ (by decide +kernel)) ggX4_nextDay_X4_requireFeast
set_option maxRecDepth 20000 in
theorem ggX4_nextDay_X2_firstKept : GoodIn wsX4_nextDay wsX2_firstKept := goodIn_r _ [16, 17, 18, 19, 15, 20, 21, 22, 23, 24, 25, 26, 27, 28, 29, 30, 31, 32, 33, 34, 35, 36, 37, 38, 39, 40, 41, 42, 43, 44, 45, 46, 47, 48, 49, 50, 51, 52, 53, 54, 55, 56, 57, 58, 59, 60, 61, 62, 63, 64, 65, 66, 67, 68, 69, 70, 71, 72, 73, 90, 91, 92, 93, 81, 82, 83, 84, 85, 86, 87, 88, 89, 94, 95, 96, 97, 98] (by decide +kernel) (by decide +kernel)
set_option maxRecDepth 20000 in
theorem gX4_nextDay_X2_firstKept : GoodIn wsX4_nextDay (wsV RX4 137 RX2 yX2_firstKept wsX2_firstKept) := goodIn_app (goodIn_of _ (by decide +kernel)) ggX4_nextDay_X2_firstKept
theorem dX4_nextDay_0 : decode cX4_nextDay 0 = .ok (.aload_n 0, 1) := by decide +kernel
theorem dX4_nextDay_1 : decode cX4_nextDay 1 = .ok (.iload_n 1, 1) := by decide +kernel
theorem dX4_nextDay_2 : decode cX4_nextDay 2 = .ok (.invokevirtual 113, 3) := by decide +kernel
theorem dX4_nextDay_5 : decode cX4_nextDay 5 = .ok (.astore_n 2, 1) := by decide +kernel
theorem dX4_nextDay_6 : decode cX4_nextDay 6 = .ok (.aload_n 0, 1) := by decide +kernel
theorem dX4_nextDay_7 : decode cX4_nextDay 7 = .ok (.getfield 10, 3) := by decide +kernel
theorem dX4_nextDay_10 : decode cX4_nextDay 10 = .ok (.aload_n 2, 1) := by decide +kernel
theorem dX4_nextDay_11 : decode cX4_nextDay 11 = .ok (.aload_n 0, 1) := by decide +kernel
theorem dX4_nextDay_12 : decode cX4_nextDay 12 = .ok (.getfield 10, 3) := by decide +kernel
theorem dX4_nextDay_15 : decode cX4_nextDay 15 = .ok (.getfield 154, 3) := by decide +kernel
theorem dX4_nextDay_18 : decode cX4_nextDay 18 = .ok (.aload_n 0, 1) := by decide +kernel
theorem dX4_nextDay_19 : decode cX4_nextDay 19 = .ok (.getfield 10, 3) := by decide +kernel
theorem dX4_nextDay_22 : decode cX4_nextDay 22 = .ok (.getfield 154, 3) := by decide +kernel
theorem dX4_nextDay_25 : decode cX4_nextDay 25 = .ok (.sipush 800, 3) := by decide +kernel
theorem dX4_nextDay_28 : decode cX4_nextDay 28 = .ok (.iadd, 1) := by decide +kernel
theorem dX4_nextDay_29 : decode cX4_nextDay 29 = .ok (.iconst 1, 1) := by decide +kernel
theorem dX4_nextDay_30 : decode cX4_nextDay 30 = .ok (.isub, 1) := by decide +kernel
theorem dX4_nextDay_31 : decode cX4_nextDay 31 = .ok (.invokevirtual 137, 3) := by decide +kernel
theorem dX4_nextDay_34 : decode cX4_nextDay 34 = .ok (.ireturn, 1) := by decide +kernel
set_option maxRecDepth 20000 in
theorem ggX4_daysUntilMeeting_X4_requireFeast : GoodIn wsX4_daysUntilMeeting wsX4_requireFeast := goodIn_ca (goodIn_r _ [8, 3, 9, 10, 7, 11, 12, 13, 80, 81, 82, 83, 84, 85, 86, 87, 88, 89, 90, 91, 92, 93, 94, 95] (by decide +kernel) (by decide +kernel)) (goodIn_sub (fun _ h => List.mem_cons_of_mem _ (List.mem_append_right _ h)) (by decide +kernel))
set_option maxRecDepth 20000 in
theorem gX4_daysUntilMeeting_X4_requireFeast : GoodIn wsX4_daysUntilMeeting (wsV RX4 113 RX4 yX4_requireFeast wsX4_requireFeast) := goodIn_app (goodIn_of _ (by decide +kernel)) ggX4_daysUntilMeeting_X4_requireFeast
set_option maxRecDepth 20000 in
theorem ggX4_daysUntilMeeting_X2_firstMeeting : GoodIn wsX4_daysUntilMeeting wsX2_firstMeeting := goodIn_r _ [18, 19, 20, 21, 17, 22, 23, 24, 25, 26, 27, 28, 29, 30, 31, 32, 33, 34, 35, 36, 37, 38, 39, 40, 41, 42, 43, 44, 45, 46, 47, 48, 49, 50, 51, 52, 53, 54, 55, 56, 57, 58, 59, 60, 61, 62, 63, 64, 65, 66, 67, 68, 69, 70, 71, 72, 73, 74, 75, 76, 77, 78, 79, 96, 97, 98, 99, 87, 88, 89, 90, 91, 92, 93, 94, 95, 100, 101, 102, 103, 104] (by decide +kernel) (by decide +kernel)
set_option maxRecDepth 20000 in
theorem gX4_daysUntilMeeting_X2_firstMeeting : GoodIn wsX4_daysUntilMeeting (wsV RX4 174 RX2 yX2_firstMeeting wsX2_firstMeeting) := goodIn_app (goodIn_of _ (by decide +kernel)) ggX4_daysUntilMeeting_X2_firstMeeting
theorem dX4_daysUntilMeeting_0 : decode cX4_daysUntilMeeting 0 = .ok (.aload_n 0, 1) := by decide +kernel
theorem dX4_daysUntilMeeting_1 : decode cX4_daysUntilMeeting 1 = .ok (.iload_n 1, 1) := by decide +kernel
theorem dX4_daysUntilMeeting_2 : decode cX4_daysUntilMeeting 2 = .ok (.invokevirtual 113, 3) := by decide +kernel
theorem dX4_daysUntilMeeting_5 : decode cX4_daysUntilMeeting 5 = .ok (.astore_n 3, 1) := by decide +kernel
theorem dX4_daysUntilMeeting_6 : decode cX4_daysUntilMeeting 6 = .ok (.aload_n 0, 1) := by decide +kernel
theorem dX4_daysUntilMeeting_7 : decode cX4_daysUntilMeeting 7 = .ok (.iload_n 2, 1) := by decide +kernel
theorem dX4_daysUntilMeeting_8 : decode cX4_daysUntilMeeting 8 = .ok (.invokevirtual 113, 3) := by decide +kernel
theorem dX4_daysUntilMeeting_11 : decode cX4_daysUntilMeeting 11 = .ok (.astore 4, 2) := by decide +kernel
theorem dX4_daysUntilMeeting_13 : decode cX4_daysUntilMeeting 13 = .ok (.iload_n 1, 1) := by decide +kernel
theorem dX4_daysUntilMeeting_14 : decode cX4_daysUntilMeeting 14 = .ok (.iload_n 2, 1) := by decide +kernel
theorem dX4_daysUntilMeeting_15 : decode cX4_daysUntilMeeting 15 = .ok (.if_icmp .ne 13, 3) := by decide +kernel
theorem dX4_daysUntilMeeting_18 : decode cX4_daysUntilMeeting 18 = .ok (.new 56, 3) := by decide +kernel
theorem dX4_daysUntilMeeting_21 : decode cX4_daysUntilMeeting 21 = .ok (.dup, 1) := by decide +kernel
theorem dX4_daysUntilMeeting_22 : decode cX4_daysUntilMeeting 22 = .ok (.ldc 172, 2) := by decide +kernel
theorem dX4_daysUntilMeeting_24 : decode cX4_daysUntilMeeting 24 = .ok (.invokespecial 60, 3) := by decide +kernel
theorem dX4_daysUntilMeeting_27 : decode cX4_daysUntilMeeting 27 = .ok (.athrow, 1) := by decide +kernel
theorem dX4_daysUntilMeeting_28 : decode cX4_daysUntilMeeting 28 = .ok (.aload_n 0, 1) := by decide +kernel
theorem dX4_daysUntilMeeting_29 : decode cX4_daysUntilMeeting 29 = .ok (.getfield 10, 3) := by decide +kernel
theorem dX4_daysUntilMeeting_32 : decode cX4_daysUntilMeeting 32 = .ok (.aload_n 3, 1) := by decide +kernel
theorem dX4_daysUntilMeeting_33 : decode cX4_daysUntilMeeting 33 = .ok (.aload 4, 2) := by decide +kernel
theorem dX4_daysUntilMeeting_35 : decode cX4_daysUntilMeeting 35 = .ok (.aload_n 0, 1) := by decide +kernel
theorem dX4_daysUntilMeeting_36 : decode cX4_daysUntilMeeting 36 = .ok (.getfield 10, 3) := by decide +kernel
theorem dX4_daysUntilMeeting_39 : decode cX4_daysUntilMeeting 39 = .ok (.getfield 154, 3) := by decide +kernel
theorem dX4_daysUntilMeeting_42 : decode cX4_daysUntilMeeting 42 = .ok (.aload_n 0, 1) := by decide +kernel
theorem dX4_daysUntilMeeting_43 : decode cX4_daysUntilMeeting 43 = .ok (.getfield 10, 3) := by decide +kernel
theorem dX4_daysUntilMeeting_46 : decode cX4_daysUntilMeeting 46 = .ok (.getfield 154, 3) := by decide +kernel
theorem dX4_daysUntilMeeting_49 : decode cX4_daysUntilMeeting 49 = .ok (.sipush 2000, 3) := by decide +kernel
theorem dX4_daysUntilMeeting_52 : decode cX4_daysUntilMeeting 52 = .ok (.iadd, 1) := by decide +kernel
theorem dX4_daysUntilMeeting_53 : decode cX4_daysUntilMeeting 53 = .ok (.invokevirtual 174, 3) := by decide +kernel
theorem dX4_daysUntilMeeting_56 : decode cX4_daysUntilMeeting 56 = .ok (.istore 5, 2) := by decide +kernel
theorem dX4_daysUntilMeeting_58 : decode cX4_daysUntilMeeting 58 = .ok (.iload 5, 2) := by decide +kernel
theorem dX4_daysUntilMeeting_60 : decode cX4_daysUntilMeeting 60 = .ok (.iconst (-1), 1) := by decide +kernel
theorem dX4_daysUntilMeeting_61 : decode cX4_daysUntilMeeting 61 = .ok (.if_icmp .ne 7, 3) := by decide +kernel
theorem dX4_daysUntilMeeting_64 : decode cX4_daysUntilMeeting 64 = .ok (.iconst (-1), 1) := by decide +kernel
theorem dX4_daysUntilMeeting_65 : decode cX4_daysUntilMeeting 65 = .ok (.goto 13, 3) := by decide +kernel
theorem dX4_daysUntilMeeting_68 : decode cX4_daysUntilMeeting 68 = .ok (.iload 5, 2) := by decide +kernel
theorem dX4_daysUntilMeeting_70 : decode cX4_daysUntilMeeting 70 = .ok (.aload_n 0, 1) := by decide +kernel
theorem dX4_daysUntilMeeting_71 : decode cX4_daysUntilMeeting 71 = .ok (.getfield 10, 3) := by decide +kernel
theorem dX4_daysUntilMeeting_74 : decode cX4_daysUntilMeeting 74 = .ok (.getfield 154, 3) := by decide +kernel
theorem dX4_daysUntilMeeting_77 : decode cX4_daysUntilMeeting 77 = .ok (.isub, 1) := by decide +kernel
theorem dX4_daysUntilMeeting_78 : decode cX4_daysUntilMeeting 78 = .ok (.ireturn, 1) := by decide +kernel
set_option maxRecDepth 20000 in
theorem ggX4_quarrelsWithin_X4_requireRange : GoodIn wsX4_quarrelsWithin wsX4_requireRange := goodIn_ca (goodIn_r _ [5, 6, 7] (by decide +kernel) (by decide +kernel)) (goodIn_sub (fun _ h => List.mem_cons_of_mem _ (List.mem_append_right _ h)) (by decide +kernel))
set_option maxRecDepth 20000 in
theorem gX4_quarrelsWithin_X4_requireRange : GoodIn wsX4_quarrelsWithin (va_wsS RX4 46 yX4_requireRange wsX4_requireRange) := goodIn_app (goodIn_of _ (by decide +kernel)) ggX4_quarrelsWithin_X4_requireRange
set_option maxRecDepth 20000 in
theorem ggX4_quarrelsWithin_X4_quarrelsFrom : GoodIn wsX4_quarrelsWithin wsX4_quarrelsFrom := goodIn_r _ [11, 1, 12, 13, 14, 15, 16, 17, 18, 19, 20, 21, 22, 23, 24, 25, 26, 27, 28, 29, 30, 31, 32, 33, 34, 35, 36, 37, 38, 39, 40, 41, 42, 43, 44, 45, 46, 47, 48, 49, 50, 51, 52, 53, 54, 55, 56, 57, 58, 59, 60, 61, 62, 63, 64, 65, 66, 67, 68, 69, 70, 71, 72, 73, 74, 75, 76, 77, 78, 79, 80, 81, 82, 83, 84, 85, 86, 87, 88, 89, 90, 91, 92, 93, 94, 95, 96, 97, 98, 99, 100, 101, 102, 103, 104, 105, 106, 107, 108, 109] (by decide +kernel) (by decide +kernel)
set_option maxRecDepth 20000 in
theorem gX4_quarrelsWithin_X4_quarrelsFrom : GoodIn wsX4_quarrelsWithin (wsV RX4 145 RX4 yX4_quarrelsFrom wsX4_quarrelsFrom) := goodIn_app (goodIn_of _ (by decide +kernel)) ggX4_quarrelsWithin_X4_quarrelsFrom
theorem dX4_quarrelsWithin_0 : decode cX4_quarrelsWithin 0 = .ok (.iload_n 1, 1) := by decide +kernel
theorem dX4_quarrelsWithin_1 : decode cX4_quarrelsWithin 1 = .ok (.iconst 1, 1) := by decide +kernel
theorem dX4_quarrelsWithin_2 : decode cX4_quarrelsWithin 2 = .ok (.sipush 400, 3) := by decide +kernel
theorem dX4_quarrelsWithin_5 : decode cX4_quarrelsWithin 5 = .ok (.invokestatic 46, 3) := by decide +kernel
theorem dX4_quarrelsWithin_8 : decode cX4_quarrelsWithin 8 = .ok (.aload_n 0, 1) := by decide +kernel
theorem dX4_quarrelsWithin_9 : decode cX4_quarrelsWithin 9 = .ok (.aload_n 0, 1) := by decide +kernel
theorem dX4_quarrelsWithin_10 : decode cX4_quarrelsWithin 10 = .ok (.getfield 10, 3) := by decide +kernel
theorem dX4_quarrelsWithin_13 : decode cX4_quarrelsWithin 13 = .ok (.getfield 154, 3) := by decide +kernel
theorem dX4_quarrelsWithin_16 : decode cX4_quarrelsWithin 16 = .ok (.iload_n 1, 1) := by decide +kernel
theorem dX4_quarrelsWithin_17 : decode cX4_quarrelsWithin 17 = .ok (.invokevirtual 145, 3) := by decide +kernel
theorem dX4_quarrelsWithin_20 : decode cX4_quarrelsWithin 20 = .ok (.ireturn, 1) := by decide +kernel
set_option maxRecDepth 20000 in
theorem ggX4_bestBarredWeekday_X4_requireFeast : GoodIn wsX4_bestBarredWeekday wsX4_requireFeast := goodIn_ca (goodIn_r _ [6, 1, 7, 8, 5, 9, 10, 11, 93, 94, 95, 96, 97, 98, 99, 100, 101, 102, 103, 104, 105, 106, 107, 108] (by decide +kernel) (by decide +kernel)) (goodIn_sub (fun _ h => List.mem_cons_of_mem _ (List.mem_append_right _ h)) (by decide +kernel))
set_option maxRecDepth 20000 in
theorem gX4_bestBarredWeekday_X4_requireFeast : GoodIn wsX4_bestBarredWeekday (wsV RX4 113 RX4 yX4_requireFeast wsX4_requireFeast) := goodIn_app (goodIn_of _ (by decide +kernel)) ggX4_bestBarredWeekday_X4_requireFeast
set_option maxRecDepth 20000 in
theorem ggX4_bestBarredWeekday_X4_quarrelsFrom : GoodIn wsX4_bestBarredWeekday wsX4_quarrelsFrom := goodIn_r _ [15, 1, 16, 17, 18, 19, 20, 21, 22, 23, 24, 25, 26, 27, 28, 29, 30, 31, 32, 33, 34, 35, 36, 37, 38, 39, 40, 41, 42, 43, 44, 45, 46, 47, 48, 49, 50, 51, 52, 53, 54, 55, 56, 57, 58, 59, 60, 61, 62, 63, 64, 65, 66, 67, 68, 69, 70, 71, 72, 73, 74, 75, 76, 77, 78, 79, 80, 81, 82, 83, 84, 85, 86, 87, 88, 93, 94, 95, 96, 97, 98, 99, 100, 101, 102, 103, 104, 105, 106, 107, 108, 89, 90, 91, 92, 109, 110, 111, 112, 113] (by decide +kernel) (by decide +kernel)
set_option maxRecDepth 20000 in
theorem gX4_bestBarredWeekday_X4_quarrelsFrom : GoodIn wsX4_bestBarredWeekday (wsV RX4 145 RX4 yX4_quarrelsFrom wsX4_quarrelsFrom) := goodIn_app (goodIn_of _ (by decide +kernel)) ggX4_bestBarredWeekday_X4_quarrelsFrom
theorem dX4_bestBarredWeekday_0 : decode cX4_bestBarredWeekday 0 = .ok (.aload_n 0, 1) := by decide +kernel
theorem dX4_bestBarredWeekday_1 : decode cX4_bestBarredWeekday 1 = .ok (.iload_n 1, 1) := by decide +kernel
theorem dX4_bestBarredWeekday_2 : decode cX4_bestBarredWeekday 2 = .ok (.invokevirtual 113, 3) := by decide +kernel
theorem dX4_bestBarredWeekday_5 : decode cX4_bestBarredWeekday 5 = .ok (.astore_n 2, 1) := by decide +kernel
theorem dX4_bestBarredWeekday_6 : decode cX4_bestBarredWeekday 6 = .ok (.aload_n 2, 1) := by decide +kernel
theorem dX4_bestBarredWeekday_7 : decode cX4_bestBarredWeekday 7 = .ok (.getfield 117, 3) := by decide +kernel
theorem dX4_bestBarredWeekday_10 : decode cX4_bestBarredWeekday 10 = .ok (.istore_n 3, 1) := by decide +kernel
theorem dX4_bestBarredWeekday_11 : decode cX4_bestBarredWeekday 11 = .ok (.iconst (-1), 1) := by decide +kernel
theorem dX4_bestBarredWeekday_12 : decode cX4_bestBarredWeekday 12 = .ok (.istore 4, 2) := by decide +kernel
theorem dX4_bestBarredWeekday_14 : decode cX4_bestBarredWeekday 14 = .ok (.sipush 401, 3) := by decide +kernel
theorem dX4_bestBarredWeekday_17 : decode cX4_bestBarredWeekday 17 = .ok (.istore 5, 2) := by decide +kernel
theorem dX4_bestBarredWeekday_19 : decode cX4_bestBarredWeekday 19 = .ok (.iconst 0, 1) := by decide +kernel
theorem dX4_bestBarredWeekday_20 : decode cX4_bestBarredWeekday 20 = .ok (.istore 6, 2) := by decide +kernel
theorem dX4_bestBarredWeekday_22 : decode cX4_bestBarredWeekday 22 = .ok (.iload 6, 2) := by decide +kernel
theorem dX4_bestBarredWeekday_24 : decode cX4_bestBarredWeekday 24 = .ok (.bipush 7, 2) := by decide +kernel
theorem dX4_bestBarredWeekday_26 : decode cX4_bestBarredWeekday 26 = .ok (.if_icmp .ge 46, 3) := by decide +kernel
theorem dX4_bestBarredWeekday_29 : decode cX4_bestBarredWeekday 29 = .ok (.aload_n 2, 1) := by decide +kernel
theorem dX4_bestBarredWeekday_30 : decode cX4_bestBarredWeekday 30 = .ok (.iload 6, 2) := by decide +kernel
theorem dX4_bestBarredWeekday_32 : decode cX4_bestBarredWeekday 32 = .ok (.putfield 117, 3) := by decide +kernel
theorem dX4_bestBarredWeekday_35 : decode cX4_bestBarredWeekday 35 = .ok (.aload_n 0, 1) := by decide +kernel
theorem dX4_bestBarredWeekday_36 : decode cX4_bestBarredWeekday 36 = .ok (.aload_n 0, 1) := by decide +kernel
theorem dX4_bestBarredWeekday_37 : decode cX4_bestBarredWeekday 37 = .ok (.getfield 10, 3) := by decide +kernel
theorem dX4_bestBarredWeekday_40 : decode cX4_bestBarredWeekday 40 = .ok (.getfield 154, 3) := by decide +kernel
theorem dX4_bestBarredWeekday_43 : decode cX4_bestBarredWeekday 43 = .ok (.sipush 400, 3) := by decide +kernel
theorem dX4_bestBarredWeekday_46 : decode cX4_bestBarredWeekday 46 = .ok (.invokevirtual 145, 3) := by decide +kernel
theorem dX4_bestBarredWeekday_49 : decode cX4_bestBarredWeekday 49 = .ok (.istore 7, 2) := by decide +kernel
theorem dX4_bestBarredWeekday_51 : decode cX4_bestBarredWeekday 51 = .ok (.iload 7, 2) := by decide +kernel
theorem dX4_bestBarredWeekday_53 : decode cX4_bestBarredWeekday 53 = .ok (.iload 5, 2) := by decide +kernel
theorem dX4_bestBarredWeekday_55 : decode cX4_bestBarredWeekday 55 = .ok (.if_icmp .ge 11, 3) := by decide +kernel
theorem dX4_bestBarredWeekday_58 : decode cX4_bestBarredWeekday 58 = .ok (.iload 7, 2) := by decide +kernel
theorem dX4_bestBarredWeekday_60 : decode cX4_bestBarredWeekday 60 = .ok (.istore 5, 2) := by decide +kernel
theorem dX4_bestBarredWeekday_62 : decode cX4_bestBarredWeekday 62 = .ok (.iload 6, 2) := by decide +kernel
theorem dX4_bestBarredWeekday_64 : decode cX4_bestBarredWeekday 64 = .ok (.istore 4, 2) := by decide +kernel
theorem dX4_bestBarredWeekday_66 : decode cX4_bestBarredWeekday 66 = .ok (.iinc 6 1, 3) := by decide +kernel
theorem dX4_bestBarredWeekday_69 : decode cX4_bestBarredWeekday 69 = .ok (.goto (-47), 3) := by decide +kernel
theorem dX4_bestBarredWeekday_72 : decode cX4_bestBarredWeekday 72 = .ok (.aload_n 2, 1) := by decide +kernel
theorem dX4_bestBarredWeekday_73 : decode cX4_bestBarredWeekday 73 = .ok (.iload_n 3, 1) := by decide +kernel
theorem dX4_bestBarredWeekday_74 : decode cX4_bestBarredWeekday 74 = .ok (.putfield 117, 3) := by decide +kernel
theorem dX4_bestBarredWeekday_77 : decode cX4_bestBarredWeekday 77 = .ok (.iload 4, 2) := by decide +kernel
theorem dX4_bestBarredWeekday_79 : decode cX4_bestBarredWeekday 79 = .ok (.ireturn, 1) := by decide +kernel
theorem dX4_clearText_0 : decode cX4_clearText 0 = .ok (.aload_n 0, 1) := by decide +kernel
theorem dX4_clearText_1 : decode cX4_clearText 1 = .ok (.getfield 34, 3) := by decide +kernel
theorem dX4_clearText_4 : decode cX4_clearText 4 = .ok (.getfield 184, 3) := by decide +kernel
theorem dX4_clearText_7 : decode cX4_clearText 7 = .ok (.istore_n 1, 1) := by decide +kernel
theorem dX4_clearText_8 : decode cX4_clearText 8 = .ok (.aload_n 0, 1) := by decide +kernel
theorem dX4_clearText_9 : decode cX4_clearText 9 = .ok (.getfield 34, 3) := by decide +kernel
theorem dX4_clearText_12 : decode cX4_clearText 12 = .ok (.iconst 0, 1) := by decide +kernel
theorem dX4_clearText_13 : decode cX4_clearText 13 = .ok (.putfield 184, 3) := by decide +kernel
theorem dX4_clearText_16 : decode cX4_clearText 16 = .ok (.iload_n 1, 1) := by decide +kernel
theorem dX4_clearText_17 : decode cX4_clearText 17 = .ok (.ireturn, 1) := by decide +kernel
theorem dX4_textLength_0 : decode cX4_textLength 0 = .ok (.aload_n 0, 1) := by decide +kernel
theorem dX4_textLength_1 : decode cX4_textLength 1 = .ok (.getfield 34, 3) := by decide +kernel
theorem dX4_textLength_4 : decode cX4_textLength 4 = .ok (.getfield 184, 3) := by decide +kernel
theorem dX4_textLength_7 : decode cX4_textLength 7 = .ok (.ireturn, 1) := by decide +kernel
set_option maxRecDepth 20000 in
theorem ggX4_textError_X0_firstError : GoodIn wsX4_textError wsX0_firstError := goodIn_r _ [6, 7, 8, 9, 10, 5, 11, 19, 20] (by decide +kernel) (by decide +kernel)
set_option maxRecDepth 20000 in
theorem gX4_textError_X0_firstError : GoodIn wsX4_textError (wsV RX4 197 RX0 yX0_firstError wsX0_firstError) := goodIn_app (goodIn_of _ (by decide +kernel)) ggX4_textError_X0_firstError
theorem dX4_textError_0 : decode cX4_textError 0 = .ok (.aload_n 0, 1) := by decide +kernel
theorem dX4_textError_1 : decode cX4_textError 1 = .ok (.getfield 34, 3) := by decide +kernel
theorem dX4_textError_4 : decode cX4_textError 4 = .ok (.invokevirtual 197, 3) := by decide +kernel
theorem dX4_textError_7 : decode cX4_textError 7 = .ok (.ireturn, 1) := by decide +kernel
set_option maxRecDepth 20000 in
theorem ggX4_textCharacter_X4_requireIndex : GoodIn wsX4_textCharacter wsX4_requireIndex := goodIn_ca (goodIn_r _ [5, 6, 7] (by decide +kernel) (by decide +kernel)) (goodIn_sub (fun _ h => List.mem_cons_of_mem _ (List.mem_append_right _ h)) (by decide +kernel))
set_option maxRecDepth 20000 in
theorem gX4_textCharacter_X4_requireIndex : GoodIn wsX4_textCharacter (va_wsS RX4 78 yX4_requireIndex wsX4_requireIndex) := goodIn_app (goodIn_of _ (by decide +kernel)) ggX4_textCharacter_X4_requireIndex
theorem dX4_textCharacter_0 : decode cX4_textCharacter 0 = .ok (.iload_n 1, 1) := by decide +kernel
theorem dX4_textCharacter_1 : decode cX4_textCharacter 1 = .ok (.aload_n 0, 1) := by decide +kernel
theorem dX4_textCharacter_2 : decode cX4_textCharacter 2 = .ok (.getfield 34, 3) := by decide +kernel
theorem dX4_textCharacter_5 : decode cX4_textCharacter 5 = .ok (.getfield 184, 3) := by decide +kernel
theorem dX4_textCharacter_8 : decode cX4_textCharacter 8 = .ok (.invokestatic 78, 3) := by decide +kernel
theorem dX4_textCharacter_11 : decode cX4_textCharacter 11 = .ok (.aload_n 0, 1) := by decide +kernel
theorem dX4_textCharacter_12 : decode cX4_textCharacter 12 = .ok (.getfield 34, 3) := by decide +kernel
theorem dX4_textCharacter_15 : decode cX4_textCharacter 15 = .ok (.getfield 200, 3) := by decide +kernel
theorem dX4_textCharacter_18 : decode cX4_textCharacter 18 = .ok (.iload_n 1, 1) := by decide +kernel
theorem dX4_textCharacter_19 : decode cX4_textCharacter 19 = .ok (.iaload, 1) := by decide +kernel
theorem dX4_textCharacter_20 : decode cX4_textCharacter 20 = .ok (.ireturn, 1) := by decide +kernel
set_option maxRecDepth 20000 in
theorem ggX4_dayOfText_X0_firstError : GoodIn wsX4_dayOfText wsX0_firstError := goodIn_r _ [9, 10, 11, 12, 13, 8, 14, 70, 71] (by decide +kernel) (by decide +kernel)
set_option maxRecDepth 20000 in
theorem gX4_dayOfText_X0_firstError : GoodIn wsX4_dayOfText (wsV RX4 197 RX0 yX0_firstError wsX0_firstError) := goodIn_app (goodIn_of _ (by decide +kernel)) ggX4_dayOfText_X0_firstError
set_option maxRecDepth 20000 in
theorem ggX4_dayOfText_X0_town : GoodIn wsX4_dayOfText wsX0_town := goodIn_r _ [18, 10, 11, 70, 71] (by decide +kernel) (by decide +kernel)
set_option maxRecDepth 20000 in
theorem gX4_dayOfText_X0_town : GoodIn wsX4_dayOfText (wsV RX4 205 RX0 yX0_town wsX0_town) := goodIn_app (goodIn_of _ (by decide +kernel)) ggX4_dayOfText_X0_town
set_option maxRecDepth 20000 in
theorem ggX4_dayOfText_X2_townWith : GoodIn wsX4_dayOfText wsX2_townWith := goodIn_r _ [23, 24, 25, 72, 73, 74, 75, 76, 77, 78, 79, 80] (by decide +kernel) (by decide +kernel)
set_option maxRecDepth 20000 in
theorem gX4_dayOfText_X2_townWith : GoodIn wsX4_dayOfText (wsV RX4 127 RX2 yX2_townWith wsX2_townWith) := goodIn_app (goodIn_of _ (by decide +kernel)) ggX4_dayOfText_X2_townWith
set_option maxRecDepth 20000 in
theorem ggX4_dayOfText_X0_number : GoodIn wsX4_dayOfText wsX0_number := goodIn_r _ [29, 10, 11, 70, 71] (by decide +kernel) (by decide +kernel)
set_option maxRecDepth 20000 in
theorem gX4_dayOfText_X0_number : GoodIn wsX4_dayOfText (wsV RX4 207 RX0 yX0_number wsX0_number) := goodIn_app (goodIn_of _ (by decide +kernel)) ggX4_dayOfText_X0_number
set_option maxRecDepth 20000 in
theorem ggX4_dayOfText_X3_dayWithDate : GoodIn wsX4_dayOfText wsX3_dayWithDate := goodIn_r _ [34, 35, 36, 37, 33, 38, 39, 40, 41, 42, 43, 44, 45, 46, 47, 48, 49, 50, 51, 52, 53, 54, 55, 56, 57, 58, 59, 60, 61, 62, 81, 82, 83, 84, 85] (by decide +kernel) (by decide +kernel)
set_option maxRecDepth 20000 in
theorem gX4_dayOfText_X3_dayWithDate : GoodIn wsX4_dayOfText (wsV RX4 101 RX3 yX3_dayWithDate wsX3_dayWithDate) := goodIn_app (goodIn_of _ (by decide +kernel)) ggX4_dayOfText_X3_dayWithDate
theorem dX4_dayOfText_0 : decode cX4_dayOfText 0 = .ok (.aload_n 0, 1) := by decide +kernel
theorem dX4_dayOfText_1 : decode cX4_dayOfText 1 = .ok (.getfield 34, 3) := by decide +kernel
theorem dX4_dayOfText_4 : decode cX4_dayOfText 4 = .ok (.invokevirtual 197, 3) := by decide +kernel
theorem dX4_dayOfText_7 : decode cX4_dayOfText 7 = .ok (.iconst (-1), 1) := by decide +kernel
theorem dX4_dayOfText_8 : decode cX4_dayOfText 8 = .ok (.if_icmp .eq 13, 3) := by decide +kernel
theorem dX4_dayOfText_11 : decode cX4_dayOfText 11 = .ok (.new 66, 3) := by decide +kernel
theorem dX4_dayOfText_14 : decode cX4_dayOfText 14 = .ok (.dup, 1) := by decide +kernel
theorem dX4_dayOfText_15 : decode cX4_dayOfText 15 = .ok (.ldc 203, 2) := by decide +kernel
theorem dX4_dayOfText_17 : decode cX4_dayOfText 17 = .ok (.invokespecial 70, 3) := by decide +kernel
theorem dX4_dayOfText_20 : decode cX4_dayOfText 20 = .ok (.athrow, 1) := by decide +kernel
theorem dX4_dayOfText_21 : decode cX4_dayOfText 21 = .ok (.aload_n 0, 1) := by decide +kernel
theorem dX4_dayOfText_22 : decode cX4_dayOfText 22 = .ok (.getfield 10, 3) := by decide +kernel
theorem dX4_dayOfText_25 : decode cX4_dayOfText 25 = .ok (.aload_n 0, 1) := by decide +kernel
theorem dX4_dayOfText_26 : decode cX4_dayOfText 26 = .ok (.getfield 34, 3) := by decide +kernel
theorem dX4_dayOfText_29 : decode cX4_dayOfText 29 = .ok (.invokevirtual 205, 3) := by decide +kernel
theorem dX4_dayOfText_32 : decode cX4_dayOfText 32 = .ok (.invokevirtual 127, 3) := by decide +kernel
theorem dX4_dayOfText_35 : decode cX4_dayOfText 35 = .ok (.astore_n 1, 1) := by decide +kernel
theorem dX4_dayOfText_36 : decode cX4_dayOfText 36 = .ok (.aload_n 1, 1) := by decide +kernel
theorem dX4_dayOfText_37 : decode cX4_dayOfText 37 = .ok (.aload_n 0, 1) := by decide +kernel
theorem dX4_dayOfText_38 : decode cX4_dayOfText 38 = .ok (.getfield 34, 3) := by decide +kernel
theorem dX4_dayOfText_41 : decode cX4_dayOfText 41 = .ok (.iconst 3, 1) := by decide +kernel
theorem dX4_dayOfText_42 : decode cX4_dayOfText 42 = .ok (.invokevirtual 207, 3) := by decide +kernel
theorem dX4_dayOfText_45 : decode cX4_dayOfText 45 = .ok (.aload_n 0, 1) := by decide +kernel
theorem dX4_dayOfText_46 : decode cX4_dayOfText 46 = .ok (.getfield 34, 3) := by decide +kernel
theorem dX4_dayOfText_49 : decode cX4_dayOfText 49 = .ok (.iconst 2, 1) := by decide +kernel
theorem dX4_dayOfText_50 : decode cX4_dayOfText 50 = .ok (.invokevirtual 207, 3) := by decide +kernel
theorem dX4_dayOfText_53 : decode cX4_dayOfText 53 = .ok (.aload_n 0, 1) := by decide +kernel
theorem dX4_dayOfText_54 : decode cX4_dayOfText 54 = .ok (.getfield 34, 3) := by decide +kernel
theorem dX4_dayOfText_57 : decode cX4_dayOfText 57 = .ok (.iconst 1, 1) := by decide +kernel
theorem dX4_dayOfText_58 : decode cX4_dayOfText 58 = .ok (.invokevirtual 207, 3) := by decide +kernel
theorem dX4_dayOfText_61 : decode cX4_dayOfText 61 = .ok (.invokevirtual 101, 3) := by decide +kernel
theorem dX4_dayOfText_64 : decode cX4_dayOfText 64 = .ok (.ireturn, 1) := by decide +kernel
set_option maxRecDepth 20000 in
theorem ggX4_writeDate_X4_requireTown : GoodIn wsX4_writeDate wsX4_requireTown := goodIn_ca (goodIn_r _ [6, 7, 8, 9, 5, 10, 11, 12, 13, 14, 15, 16, 17, 18, 19, 67, 68, 69, 70, 71, 72, 73, 76, 77, 78, 79, 80, 81, 82, 83, 84] (by decide +kernel) (by decide +kernel)) (goodIn_sub (fun _ h => List.mem_cons_of_mem _ (List.mem_append_left _ (List.mem_append_right _ h))) (by decide +kernel))
set_option maxRecDepth 20000 in
theorem gX4_writeDate_X4_requireTown : GoodIn wsX4_writeDate (wsV RX4 42 RX4 yX4_requireTown wsX4_requireTown) := goodIn_app (goodIn_of _ (by decide +kernel)) ggX4_writeDate_X4_requireTown
set_option maxRecDepth 20000 in
theorem ggX4_writeDate_X4_requireRange : GoodIn wsX4_writeDate wsX4_requireRange := goodIn_ca (goodIn_r _ [22, 23, 24] (by decide +kernel) (by decide +kernel)) (goodIn_sub (fun _ h => List.mem_cons_of_mem _ (List.mem_append_right _ h)) (by decide +kernel))
set_option maxRecDepth 20000 in
theorem gX4_writeDate_X4_requireRange : GoodIn wsX4_writeDate (va_wsS RX4 46 yX4_requireRange wsX4_requireRange) := goodIn_app (goodIn_of _ (by decide +kernel)) ggX4_writeDate_X4_requireRange
set_option maxRecDepth 20000 in
theorem ggX4_writeDate_X0_put : GoodIn wsX4_writeDate wsX0_put := goodIn_r _ [29, 30, 31, 74, 75] (by decide +kernel) (by decide +kernel)
set_option maxRecDepth 20000 in
theorem gX4_writeDate_X0_put : GoodIn wsX4_writeDate (wsV RX4 193 RX0 yX0_put wsX0_put) := goodIn_app (goodIn_of _ (by decide +kernel)) ggX4_writeDate_X0_put
set_option maxRecDepth 20000 in
theorem ggX4_writeDate_X3_dayOfMonthOn : GoodIn wsX4_writeDate wsX3_dayOfMonthOn := goodIn_r _ [36, 37, 38, 39, 35, 40, 41, 42, 43, 44, 45, 46, 47, 48, 49, 50, 51, 52, 53, 54, 55, 56, 85, 86, 87, 88, 89] (by decide +kernel) (by decide +kernel)
set_option maxRecDepth 20000 in
theorem gX4_writeDate_X3_dayOfMonthOn : GoodIn wsX4_writeDate (wsV RX4 92 RX3 yX3_dayOfMonthOn wsX3_dayOfMonthOn) := goodIn_app (goodIn_of _ (by decide +kernel)) ggX4_writeDate_X3_dayOfMonthOn
set_option maxRecDepth 20000 in
theorem ggX4_writeDate_X0_putNumber : GoodIn wsX4_writeDate wsX0_putNumber := goodIn_r _ [60, 61, 26, 27, 28, 29, 30, 31, 74, 75] (by decide +kernel) (by decide +kernel)
set_option maxRecDepth 20000 in
theorem gX4_writeDate_X0_putNumber : GoodIn wsX4_writeDate (wsV RX4 210 RX0 yX0_putNumber wsX0_putNumber) := goodIn_app (goodIn_of _ (by decide +kernel)) ggX4_writeDate_X0_putNumber
set_option maxRecDepth 20000 in
theorem ggX4_writeDate_X3_monthOn : GoodIn wsX4_writeDate wsX3_monthOn := goodIn_r _ [52, 37, 38, 39, 35, 40, 41, 42, 43, 44, 45, 46, 47, 48, 53, 54, 55, 56, 85, 86, 87, 88, 89] (by decide +kernel) (by decide +kernel)
set_option maxRecDepth 20000 in
theorem gX4_writeDate_X3_monthOn : GoodIn wsX4_writeDate (wsV RX4 95 RX3 yX3_monthOn wsX3_monthOn) := goodIn_app (goodIn_of _ (by decide +kernel)) ggX4_writeDate_X3_monthOn
set_option maxRecDepth 20000 in
theorem ggX4_writeDate_X3_yearOn : GoodIn wsX4_writeDate wsX3_yearOn := goodIn_r _ [66, 41, 42, 43, 44, 35, 45, 46, 47, 48, 85, 86, 87, 88, 89] (by decide +kernel) (by decide +kernel)
set_option maxRecDepth 20000 in
theorem gX4_writeDate_X3_yearOn : GoodIn wsX4_writeDate (wsV RX4 98 RX3 yX3_yearOn wsX3_yearOn) := goodIn_app (goodIn_of _ (by decide +kernel)) ggX4_writeDate_X3_yearOn
theorem dX4_writeDate_0 : decode cX4_writeDate 0 = .ok (.aload_n 0, 1) := by decide +kernel
theorem dX4_writeDate_1 : decode cX4_writeDate 1 = .ok (.iload_n 1, 1) := by decide +kernel
theorem dX4_writeDate_2 : decode cX4_writeDate 2 = .ok (.invokevirtual 42, 3) := by decide +kernel
theorem dX4_writeDate_5 : decode cX4_writeDate 5 = .ok (.astore_n 3, 1) := by decide +kernel
theorem dX4_writeDate_6 : decode cX4_writeDate 6 = .ok (.iload_n 2, 1) := by decide +kernel
theorem dX4_writeDate_7 : decode cX4_writeDate 7 = .ok (.iconst 0, 1) := by decide +kernel
theorem dX4_writeDate_8 : decode cX4_writeDate 8 = .ok (.sipush 20000, 3) := by decide +kernel
theorem dX4_writeDate_11 : decode cX4_writeDate 11 = .ok (.invokestatic 46, 3) := by decide +kernel
theorem dX4_writeDate_14 : decode cX4_writeDate 14 = .ok (.aload_n 0, 1) := by decide +kernel
theorem dX4_writeDate_15 : decode cX4_writeDate 15 = .ok (.getfield 34, 3) := by decide +kernel
theorem dX4_writeDate_18 : decode cX4_writeDate 18 = .ok (.iconst 0, 1) := by decide +kernel
theorem dX4_writeDate_19 : decode cX4_writeDate 19 = .ok (.putfield 184, 3) := by decide +kernel
theorem dX4_writeDate_22 : decode cX4_writeDate 22 = .ok (.aload_n 0, 1) := by decide +kernel
theorem dX4_writeDate_23 : decode cX4_writeDate 23 = .ok (.getfield 34, 3) := by decide +kernel
theorem dX4_writeDate_26 : decode cX4_writeDate 26 = .ok (.iload_n 1, 1) := by decide +kernel
theorem dX4_writeDate_27 : decode cX4_writeDate 27 = .ok (.ifCond .ne 8, 3) := by decide +kernel
theorem dX4_writeDate_30 : decode cX4_writeDate 30 = .ok (.bipush 65, 2) := by decide +kernel
theorem dX4_writeDate_32 : decode cX4_writeDate 32 = .ok (.goto 5, 3) := by decide +kernel
theorem dX4_writeDate_35 : decode cX4_writeDate 35 = .ok (.bipush 66, 2) := by decide +kernel
theorem dX4_writeDate_37 : decode cX4_writeDate 37 = .ok (.invokevirtual 193, 3) := by decide +kernel
theorem dX4_writeDate_40 : decode cX4_writeDate 40 = .ok (.aload_n 0, 1) := by decide +kernel
theorem dX4_writeDate_41 : decode cX4_writeDate 41 = .ok (.getfield 34, 3) := by decide +kernel
theorem dX4_writeDate_44 : decode cX4_writeDate 44 = .ok (.aload_n 3, 1) := by decide +kernel
theorem dX4_writeDate_45 : decode cX4_writeDate 45 = .ok (.iload_n 2, 1) := by decide +kernel
theorem dX4_writeDate_46 : decode cX4_writeDate 46 = .ok (.invokevirtual 92, 3) := by decide +kernel
theorem dX4_writeDate_49 : decode cX4_writeDate 49 = .ok (.invokevirtual 210, 3) := by decide +kernel
theorem dX4_writeDate_52 : decode cX4_writeDate 52 = .ok (.aload_n 0, 1) := by decide +kernel
theorem dX4_writeDate_53 : decode cX4_writeDate 53 = .ok (.getfield 34, 3) := by decide +kernel
theorem dX4_writeDate_56 : decode cX4_writeDate 56 = .ok (.bipush 46, 2) := by decide +kernel
theorem dX4_writeDate_58 : decode cX4_writeDate 58 = .ok (.invokevirtual 193, 3) := by decide +kernel
theorem dX4_writeDate_61 : decode cX4_writeDate 61 = .ok (.aload_n 0, 1) := by decide +kernel
theorem dX4_writeDate_62 : decode cX4_writeDate 62 = .ok (.getfield 34, 3) := by decide +kernel
theorem dX4_writeDate_65 : decode cX4_writeDate 65 = .ok (.aload_n 3, 1) := by decide +kernel
theorem dX4_writeDate_66 : decode cX4_writeDate 66 = .ok (.iload_n 2, 1) := by decide +kernel
theorem dX4_writeDate_67 : decode cX4_writeDate 67 = .ok (.invokevirtual 95, 3) := by decide +kernel
theorem dX4_writeDate_70 : decode cX4_writeDate 70 = .ok (.invokevirtual 210, 3) := by decide +kernel
theorem dX4_writeDate_73 : decode cX4_writeDate 73 = .ok (.aload_n 0, 1) := by decide +kernel
theorem dX4_writeDate_74 : decode cX4_writeDate 74 = .ok (.getfield 34, 3) := by decide +kernel
theorem dX4_writeDate_77 : decode cX4_writeDate 77 = .ok (.bipush 46, 2) := by decide +kernel
theorem dX4_writeDate_79 : decode cX4_writeDate 79 = .ok (.invokevirtual 193, 3) := by decide +kernel
theorem dX4_writeDate_82 : decode cX4_writeDate 82 = .ok (.aload_n 0, 1) := by decide +kernel
theorem dX4_writeDate_83 : decode cX4_writeDate 83 = .ok (.getfield 34, 3) := by decide +kernel
theorem dX4_writeDate_86 : decode cX4_writeDate 86 = .ok (.aload_n 3, 1) := by decide +kernel
theorem dX4_writeDate_87 : decode cX4_writeDate 87 = .ok (.iload_n 2, 1) := by decide +kernel
theorem dX4_writeDate_88 : decode cX4_writeDate 88 = .ok (.invokevirtual 98, 3) := by decide +kernel
theorem dX4_writeDate_91 : decode cX4_writeDate 91 = .ok (.invokevirtual 210, 3) := by decide +kernel
theorem dX4_writeDate_94 : decode cX4_writeDate 94 = .ok (.aload_n 0, 1) := by decide +kernel
theorem dX4_writeDate_95 : decode cX4_writeDate 95 = .ok (.getfield 34, 3) := by decide +kernel
theorem dX4_writeDate_98 : decode cX4_writeDate 98 = .ok (.getfield 184, 3) := by decide +kernel
theorem dX4_writeDate_101 : decode cX4_writeDate 101 = .ok (.ireturn, 1) := by decide +kernel
theorem dX4_requireRange_0 : decode cX4_requireRange 0 = .ok (.iload_n 0, 1) := by decide +kernel
theorem dX4_requireRange_1 : decode cX4_requireRange 1 = .ok (.iload_n 1, 1) := by decide +kernel
theorem dX4_requireRange_2 : decode cX4_requireRange 2 = .ok (.if_icmp .lt 8, 3) := by decide +kernel
theorem dX4_requireRange_5 : decode cX4_requireRange 5 = .ok (.iload_n 0, 1) := by decide +kernel
theorem dX4_requireRange_6 : decode cX4_requireRange 6 = .ok (.iload_n 2, 1) := by decide +kernel
theorem dX4_requireRange_7 : decode cX4_requireRange 7 = .ok (.if_icmp .le 13, 3) := by decide +kernel
theorem dX4_requireRange_10 : decode cX4_requireRange 10 = .ok (.new 56, 3) := by decide +kernel
theorem dX4_requireRange_13 : decode cX4_requireRange 13 = .ok (.dup, 1) := by decide +kernel
theorem dX4_requireRange_14 : decode cX4_requireRange 14 = .ok (.ldc 221, 2) := by decide +kernel
theorem dX4_requireRange_16 : decode cX4_requireRange 16 = .ok (.invokespecial 60, 3) := by decide +kernel
theorem dX4_requireRange_19 : decode cX4_requireRange 19 = .ok (.athrow, 1) := by decide +kernel
theorem dX4_requireRange_20 : decode cX4_requireRange 20 = .ok (.return_, 1) := by decide +kernel
theorem dX4_requireIndex_0 : decode cX4_requireIndex 0 = .ok (.iload_n 0, 1) := by decide +kernel
theorem dX4_requireIndex_1 : decode cX4_requireIndex 1 = .ok (.ifCond .lt 8, 3) := by decide +kernel
theorem dX4_requireIndex_4 : decode cX4_requireIndex 4 = .ok (.iload_n 0, 1) := by decide +kernel
theorem dX4_requireIndex_5 : decode cX4_requireIndex 5 = .ok (.iload_n 1, 1) := by decide +kernel
theorem dX4_requireIndex_6 : decode cX4_requireIndex 6 = .ok (.if_icmp .lt 13, 3) := by decide +kernel
theorem dX4_requireIndex_9 : decode cX4_requireIndex 9 = .ok (.new 223, 3) := by decide +kernel
theorem dX4_requireIndex_12 : decode cX4_requireIndex 12 = .ok (.dup, 1) := by decide +kernel
theorem dX4_requireIndex_13 : decode cX4_requireIndex 13 = .ok (.ldc 225, 2) := by decide +kernel
theorem dX4_requireIndex_15 : decode cX4_requireIndex 15 = .ok (.invokespecial 227, 3) := by decide +kernel
theorem dX4_requireIndex_18 : decode cX4_requireIndex 18 = .ok (.athrow, 1) := by decide +kernel
theorem dX4_requireIndex_19 : decode cX4_requireIndex 19 = .ok (.return_, 1) := by decide +kernel
set_option maxRecDepth 20000 in
theorem ggX4_requireTown_X4_requireIndex : GoodIn wsX4_requireTown wsX4_requireIndex := goodIn_ca (goodIn_r _ [5, 6, 7] (by decide +kernel) (by decide +kernel)) (goodIn_sub (fun _ h => List.mem_cons_of_mem _ (List.mem_append_right _ h)) (by decide +kernel))
set_option maxRecDepth 20000 in
theorem gX4_requireTown_X4_requireIndex : GoodIn wsX4_requireTown (va_wsS RX4 78 yX4_requireIndex wsX4_requireIndex) := goodIn_app (goodIn_of _ (by decide +kernel)) ggX4_requireTown_X4_requireIndex
set_option maxRecDepth 20000 in
theorem ggX4_requireTown_X2_townWith : GoodIn wsX4_requireTown wsX2_townWith := goodIn_r _ [12, 13, 14, 22, 23, 24, 25, 26, 27, 28, 29, 30] (by decide +kernel) (by decide +kernel)
set_option maxRecDepth 20000 in
theorem gX4_requireTown_X2_townWith : GoodIn wsX4_requireTown (wsV RX4 127 RX2 yX2_townWith wsX2_townWith) := goodIn_app (goodIn_of _ (by decide +kernel)) ggX4_requireTown_X2_townWith
theorem dX4_requireTown_0 : decode cX4_requireTown 0 = .ok (.iload_n 1, 1) := by decide +kernel
theorem dX4_requireTown_1 : decode cX4_requireTown 1 = .ok (.iconst 2, 1) := by decide +kernel
theorem dX4_requireTown_2 : decode cX4_requireTown 2 = .ok (.invokestatic 78, 3) := by decide +kernel
theorem dX4_requireTown_5 : decode cX4_requireTown 5 = .ok (.aload_n 0, 1) := by decide +kernel
theorem dX4_requireTown_6 : decode cX4_requireTown 6 = .ok (.getfield 10, 3) := by decide +kernel
theorem dX4_requireTown_9 : decode cX4_requireTown 9 = .ok (.iload_n 1, 1) := by decide +kernel
theorem dX4_requireTown_10 : decode cX4_requireTown 10 = .ok (.invokevirtual 127, 3) := by decide +kernel
theorem dX4_requireTown_13 : decode cX4_requireTown 13 = .ok (.areturn, 1) := by decide +kernel
set_option maxRecDepth 20000 in
theorem ggX4_requireFeast_X4_requireIndex : GoodIn wsX4_requireFeast wsX4_requireIndex := goodIn_ca (goodIn_r _ [5, 6, 7] (by decide +kernel) (by decide +kernel)) (goodIn_sub (fun _ h => List.mem_cons_of_mem _ (List.mem_append_right _ h)) (by decide +kernel))
set_option maxRecDepth 20000 in
theorem gX4_requireFeast_X4_requireIndex : GoodIn wsX4_requireFeast (va_wsS RX4 78 yX4_requireIndex wsX4_requireIndex) := goodIn_app (goodIn_of _ (by decide +kernel)) ggX4_requireFeast_X4_requireIndex
theorem dX4_requireFeast_0 : decode cX4_requireFeast 0 = .ok (.iload_n 1, 1) := by decide +kernel
theorem dX4_requireFeast_1 : decode cX4_requireFeast 1 = .ok (.aload_n 0, 1) := by decide +kernel
theorem dX4_requireFeast_2 : decode cX4_requireFeast 2 = .ok (.getfield 10, 3) := by decide +kernel
theorem dX4_requireFeast_5 : decode cX4_requireFeast 5 = .ok (.getfield 105, 3) := by decide +kernel
theorem dX4_requireFeast_8 : decode cX4_requireFeast 8 = .ok (.invokestatic 78, 3) := by decide +kernel
theorem dX4_requireFeast_11 : decode cX4_requireFeast 11 = .ok (.aload_n 0, 1) := by decide +kernel
theorem dX4_requireFeast_12 : decode cX4_requireFeast 12 = .ok (.getfield 10, 3) := by decide +kernel
theorem dX4_requireFeast_15 : decode cX4_requireFeast 15 = .ok (.getfield 228, 3) := by decide +kernel
theorem dX4_requireFeast_18 : decode cX4_requireFeast 18 = .ok (.iload_n 1, 1) := by decide +kernel
theorem dX4_requireFeast_19 : decode cX4_requireFeast 19 = .ok (.aaload, 1) := by decide +kernel
theorem dX4_requireFeast_20 : decode cX4_requireFeast 20 = .ok (.areturn, 1) := by decide +kernel
set_option maxRecDepth 20000 in
theorem ggX4_recordState_X4_dropOldestRecorded : GoodIn wsX4_recordState wsX4_dropOldestRecorded := goodIn_r _ [8, 2, 1, 41, 42, 43, 44, 45, 46, 47] (by decide +kernel) (by decide +kernel)
set_option maxRecDepth 20000 in
theorem gX4_recordState_X4_dropOldestRecorded : GoodIn wsX4_recordState (wsV RX4 232 RX4 yX4_dropOldestRecorded wsX4_dropOldestRecorded) := goodIn_app (goodIn_of _ (by decide +kernel)) ggX4_recordState_X4_dropOldestRecorded
set_option maxRecDepth 20000 in
theorem ggX4_recordState_X2_copyFrom : GoodIn wsX4_recordState wsX2_copyFrom := goodIn_r _ [13, 14, 15, 16, 17, 18, 19, 20, 21, 22, 23, 24, 25, 26, 27, 28, 29, 30, 31, 32, 33, 34, 35, 36, 37, 38, 39, 40, 48, 49, 50, 51, 52, 53, 54, 55, 56, 57, 58, 59, 60, 61, 62, 63, 64, 65] (by decide +kernel) (by decide +kernel)
set_option maxRecDepth 20000 in
theorem gX4_recordState_X2_copyFrom : GoodIn wsX4_recordState (wsV RX4 215 RX2 yX2_copyFrom wsX2_copyFrom) := goodIn_app (goodIn_of _ (by decide +kernel)) ggX4_recordState_X2_copyFrom
theorem dX4_recordState_0 : decode cX4_recordState 0 = .ok (.aload_n 0, 1) := by decide +kernel
theorem dX4_recordState_1 : decode cX4_recordState 1 = .ok (.getfield 20, 3) := by decide +kernel
theorem dX4_recordState_4 : decode cX4_recordState 4 = .ok (.bipush 6, 2) := by decide +kernel
theorem dX4_recordState_6 : decode cX4_recordState 6 = .ok (.if_icmp .lt 7, 3) := by decide +kernel
theorem dX4_recordState_9 : decode cX4_recordState 9 = .ok (.aload_n 0, 1) := by decide +kernel
theorem dX4_recordState_10 : decode cX4_recordState 10 = .ok (.invokevirtual 232, 3) := by decide +kernel
theorem dX4_recordState_13 : decode cX4_recordState 13 = .ok (.aload_n 0, 1) := by decide +kernel
theorem dX4_recordState_14 : decode cX4_recordState 14 = .ok (.getfield 16, 3) := by decide +kernel
theorem dX4_recordState_17 : decode cX4_recordState 17 = .ok (.aload_n 0, 1) := by decide +kernel
theorem dX4_recordState_18 : decode cX4_recordState 18 = .ok (.getfield 20, 3) := by decide +kernel
theorem dX4_recordState_21 : decode cX4_recordState 21 = .ok (.aaload, 1) := by decide +kernel
theorem dX4_recordState_22 : decode cX4_recordState 22 = .ok (.aload_n 0, 1) := by decide +kernel
theorem dX4_recordState_23 : decode cX4_recordState 23 = .ok (.getfield 10, 3) := by decide +kernel
theorem dX4_recordState_26 : decode cX4_recordState 26 = .ok (.invokevirtual 215, 3) := by decide +kernel
theorem dX4_recordState_29 : decode cX4_recordState 29 = .ok (.aload_n 0, 1) := by decide +kernel
theorem dX4_recordState_30 : decode cX4_recordState 30 = .ok (.dup, 1) := by decide +kernel
theorem dX4_recordState_31 : decode cX4_recordState 31 = .ok (.getfield 20, 3) := by decide +kernel
theorem dX4_recordState_34 : decode cX4_recordState 34 = .ok (.iconst 1, 1) := by decide +kernel
theorem dX4_recordState_35 : decode cX4_recordState 35 = .ok (.iadd, 1) := by decide +kernel
theorem dX4_recordState_36 : decode cX4_recordState 36 = .ok (.putfield 20, 3) := by decide +kernel
theorem dX4_recordState_39 : decode cX4_recordState 39 = .ok (.return_, 1) := by decide +kernel
theorem dX4_dropOldestRecorded_0 : decode cX4_dropOldestRecorded 0 = .ok (.aload_n 0, 1) := by decide +kernel
theorem dX4_dropOldestRecorded_1 : decode cX4_dropOldestRecorded 1 = .ok (.getfield 16, 3) := by decide +kernel
theorem dX4_dropOldestRecorded_4 : decode cX4_dropOldestRecorded 4 = .ok (.iconst 0, 1) := by decide +kernel
theorem dX4_dropOldestRecorded_5 : decode cX4_dropOldestRecorded 5 = .ok (.aaload, 1) := by decide +kernel
theorem dX4_dropOldestRecorded_6 : decode cX4_dropOldestRecorded 6 = .ok (.astore_n 1, 1) := by decide +kernel
theorem dX4_dropOldestRecorded_7 : decode cX4_dropOldestRecorded 7 = .ok (.iconst 1, 1) := by decide +kernel
theorem dX4_dropOldestRecorded_8 : decode cX4_dropOldestRecorded 8 = .ok (.istore_n 2, 1) := by decide +kernel
theorem dX4_dropOldestRecorded_9 : decode cX4_dropOldestRecorded 9 = .ok (.iload_n 2, 1) := by decide +kernel
theorem dX4_dropOldestRecorded_10 : decode cX4_dropOldestRecorded 10 = .ok (.bipush 6, 2) := by decide +kernel
theorem dX4_dropOldestRecorded_12 : decode cX4_dropOldestRecorded 12 = .ok (.if_icmp .ge 23, 3) := by decide +kernel
theorem dX4_dropOldestRecorded_15 : decode cX4_dropOldestRecorded 15 = .ok (.aload_n 0, 1) := by decide +kernel
theorem dX4_dropOldestRecorded_16 : decode cX4_dropOldestRecorded 16 = .ok (.getfield 16, 3) := by decide +kernel
theorem dX4_dropOldestRecorded_19 : decode cX4_dropOldestRecorded 19 = .ok (.iload_n 2, 1) := by decide +kernel
theorem dX4_dropOldestRecorded_20 : decode cX4_dropOldestRecorded 20 = .ok (.iconst 1, 1) := by decide +kernel
theorem dX4_dropOldestRecorded_21 : decode cX4_dropOldestRecorded 21 = .ok (.isub, 1) := by decide +kernel
theorem dX4_dropOldestRecorded_22 : decode cX4_dropOldestRecorded 22 = .ok (.aload_n 0, 1) := by decide +kernel
theorem dX4_dropOldestRecorded_23 : decode cX4_dropOldestRecorded 23 = .ok (.getfield 16, 3) := by decide +kernel
theorem dX4_dropOldestRecorded_26 : decode cX4_dropOldestRecorded 26 = .ok (.iload_n 2, 1) := by decide +kernel
theorem dX4_dropOldestRecorded_27 : decode cX4_dropOldestRecorded 27 = .ok (.aaload, 1) := by decide +kernel
theorem dX4_dropOldestRecorded_28 : decode cX4_dropOldestRecorded 28 = .ok (.aastore, 1) := by decide +kernel
theorem dX4_dropOldestRecorded_29 : decode cX4_dropOldestRecorded 29 = .ok (.iinc 2 1, 3) := by decide +kernel
theorem dX4_dropOldestRecorded_32 : decode cX4_dropOldestRecorded 32 = .ok (.goto (-23), 3) := by decide +kernel
theorem dX4_dropOldestRecorded_35 : decode cX4_dropOldestRecorded 35 = .ok (.aload_n 0, 1) := by decide +kernel
theorem dX4_dropOldestRecorded_36 : decode cX4_dropOldestRecorded 36 = .ok (.getfield 16, 3) := by decide +kernel
theorem dX4_dropOldestRecorded_39 : decode cX4_dropOldestRecorded 39 = .ok (.iconst 5, 1) := by decide +kernel
theorem dX4_dropOldestRecorded_40 : decode cX4_dropOldestRecorded 40 = .ok (.aload_n 1, 1) := by decide +kernel
theorem dX4_dropOldestRecorded_41 : decode cX4_dropOldestRecorded 41 = .ok (.aastore, 1) := by decide +kernel
theorem dX4_dropOldestRecorded_42 : decode cX4_dropOldestRecorded 42 = .ok (.aload_n 0, 1) := by decide +kernel
theorem dX4_dropOldestRecorded_43 : decode cX4_dropOldestRecorded 43 = .ok (.iconst 5, 1) := by decide +kernel
theorem dX4_dropOldestRecorded_44 : decode cX4_dropOldestRecorded 44 = .ok (.putfield 20, 3) := by decide +kernel
theorem dX4_dropOldestRecorded_47 : decode cX4_dropOldestRecorded 47 = .ok (.return_, 1) := by decide +kernel
set_option maxRecDepth 20000 in
theorem ggX4_quarrelsFrom_X2_markFeasts : GoodIn wsX4_quarrelsFrom wsX2_markFeasts := goodIn_r _ [7, 8, 9, 10, 11, 12, 6, 13, 14, 15, 16, 17, 18, 19, 20, 21, 22, 23, 24, 25, 26, 27, 28, 29, 30, 31, 32, 33, 34, 35, 36, 37, 38, 39, 40, 41, 42, 43, 44, 45, 46, 47, 48, 49, 50, 51, 52, 53, 54, 55, 56, 57, 58, 59, 60, 61, 62, 63, 64, 65, 66, 82, 83, 84, 85, 86, 87, 88, 89, 90, 91, 92, 93, 94, 95, 96, 97, 98, 99] (by decide +kernel) (by decide +kernel)
set_option maxRecDepth 20000 in
theorem gX4_quarrelsFrom_X2_markFeasts : GoodIn wsX4_quarrelsFrom (wsV RX4 141 RX2 yX2_markFeasts wsX2_markFeasts) := goodIn_app (goodIn_of _ (by decide +kernel)) ggX4_quarrelsFrom_X2_markFeasts
set_option maxRecDepth 20000 in
theorem ggX4_quarrelsFrom_X2_countQuarrels : GoodIn wsX4_quarrelsFrom wsX2_countQuarrels := goodIn_r _ [70, 71, 72, 73, 6, 74, 8, 9, 82, 83, 84, 85, 86, 87, 88, 89, 90, 91, 92, 93, 94] (by decide +kernel) (by decide +kernel)
set_option maxRecDepth 20000 in
theorem gX4_quarrelsFrom_X2_countQuarrels : GoodIn wsX4_quarrelsFrom (wsV RX4 235 RX2 yX2_countQuarrels wsX2_countQuarrels) := goodIn_app (goodIn_of _ (by decide +kernel)) ggX4_quarrelsFrom_X2_countQuarrels
theorem dX4_quarrelsFrom_0 : decode cX4_quarrelsFrom 0 = .ok (.aload_n 0, 1) := by decide +kernel
theorem dX4_quarrelsFrom_1 : decode cX4_quarrelsFrom 1 = .ok (.getfield 10, 3) := by decide +kernel
theorem dX4_quarrelsFrom_4 : decode cX4_quarrelsFrom 4 = .ok (.aload_n 0, 1) := by decide +kernel
theorem dX4_quarrelsFrom_5 : decode cX4_quarrelsFrom 5 = .ok (.getfield 38, 3) := by decide +kernel
theorem dX4_quarrelsFrom_8 : decode cX4_quarrelsFrom 8 = .ok (.iload_n 1, 1) := by decide +kernel
theorem dX4_quarrelsFrom_9 : decode cX4_quarrelsFrom 9 = .ok (.iload_n 2, 1) := by decide +kernel
theorem dX4_quarrelsFrom_10 : decode cX4_quarrelsFrom 10 = .ok (.invokevirtual 141, 3) := by decide +kernel
theorem dX4_quarrelsFrom_13 : decode cX4_quarrelsFrom 13 = .ok (.aload_n 0, 1) := by decide +kernel
theorem dX4_quarrelsFrom_14 : decode cX4_quarrelsFrom 14 = .ok (.getfield 10, 3) := by decide +kernel
theorem dX4_quarrelsFrom_17 : decode cX4_quarrelsFrom 17 = .ok (.aload_n 0, 1) := by decide +kernel
theorem dX4_quarrelsFrom_18 : decode cX4_quarrelsFrom 18 = .ok (.getfield 38, 3) := by decide +kernel
theorem dX4_quarrelsFrom_21 : decode cX4_quarrelsFrom 21 = .ok (.iload_n 2, 1) := by decide +kernel
theorem dX4_quarrelsFrom_22 : decode cX4_quarrelsFrom 22 = .ok (.invokevirtual 235, 3) := by decide +kernel
theorem dX4_quarrelsFrom_25 : decode cX4_quarrelsFrom 25 = .ok (.ireturn, 1) := by decide +kernel

theorem dX5_init_0 : decode cX5_init 0 = .ok (.aload_n 0, 1) := by decide +kernel
theorem dX5_init_1 : decode cX5_init 1 = .ok (.invokespecial 1, 3) := by decide +kernel
theorem dX5_init_4 : decode cX5_init 4 = .ok (.aload_n 0, 1) := by decide +kernel
theorem dX5_init_5 : decode cX5_init 5 = .ok (.bipush 62, 2) := by decide +kernel
theorem dX5_init_7 : decode cX5_init 7 = .ok (.newarray .int, 2) := by decide +kernel
theorem dX5_init_9 : decode cX5_init 9 = .ok (.putfield 7, 3) := by decide +kernel
theorem dX5_init_12 : decode cX5_init 12 = .ok (.aload_n 0, 1) := by decide +kernel
theorem dX5_init_13 : decode cX5_init 13 = .ok (.sipush 372, 3) := by decide +kernel
theorem dX5_init_16 : decode cX5_init 16 = .ok (.newarray .int, 2) := by decide +kernel
theorem dX5_init_18 : decode cX5_init 18 = .ok (.putfield 13, 3) := by decide +kernel
theorem dX5_init_21 : decode cX5_init 21 = .ok (.aload_n 0, 1) := by decide +kernel
theorem dX5_init_22 : decode cX5_init 22 = .ok (.bipush 124, 2) := by decide +kernel
theorem dX5_init_24 : decode cX5_init 24 = .ok (.newarray .int, 2) := by decide +kernel
theorem dX5_init_26 : decode cX5_init 26 = .ok (.putfield 16, 3) := by decide +kernel
theorem dX5_init_29 : decode cX5_init 29 = .ok (.aload_n 0, 1) := by decide +kernel
theorem dX5_init_30 : decode cX5_init 30 = .ok (.iconst 2, 1) := by decide +kernel
theorem dX5_init_31 : decode cX5_init 31 = .ok (.newarray .boolean, 2) := by decide +kernel
theorem dX5_init_33 : decode cX5_init 33 = .ok (.putfield 19, 3) := by decide +kernel
theorem dX5_init_36 : decode cX5_init 36 = .ok (.aload_n 0, 1) := by decide +kernel
theorem dX5_init_37 : decode cX5_init 37 = .ok (.bipush 80, 2) := by decide +kernel
theorem dX5_init_39 : decode cX5_init 39 = .ok (.newarray .int, 2) := by decide +kernel
theorem dX5_init_41 : decode cX5_init 41 = .ok (.putfield 23, 3) := by decide +kernel
theorem dX5_init_44 : decode cX5_init 44 = .ok (.aload_n 0, 1) := by decide +kernel
theorem dX5_init_45 : decode cX5_init 45 = .ok (.iconst 4, 1) := by decide +kernel
theorem dX5_init_46 : decode cX5_init 46 = .ok (.newarray .int, 2) := by decide +kernel
theorem dX5_init_48 : decode cX5_init 48 = .ok (.putfield 26, 3) := by decide +kernel
theorem dX5_init_51 : decode cX5_init 51 = .ok (.aload_n 0, 1) := by decide +kernel
theorem dX5_init_52 : decode cX5_init 52 = .ok (.getfield 7, 3) := by decide +kernel
theorem dX5_init_55 : decode cX5_init 55 = .ok (.bipush 55, 2) := by decide +kernel
theorem dX5_init_57 : decode cX5_init 57 = .ok (.iconst 1, 1) := by decide +kernel
theorem dX5_init_58 : decode cX5_init 58 = .ok (.iastore, 1) := by decide +kernel
theorem dX5_init_59 : decode cX5_init 59 = .ok (.aload_n 0, 1) := by decide +kernel
theorem dX5_init_60 : decode cX5_init 60 = .ok (.getfield 7, 3) := by decide +kernel
theorem dX5_init_63 : decode cX5_init 63 = .ok (.bipush 56, 2) := by decide +kernel
theorem dX5_init_65 : decode cX5_init 65 = .ok (.iconst 2, 1) := by decide +kernel
theorem dX5_init_66 : decode cX5_init 66 = .ok (.iastore, 1) := by decide +kernel
theorem dX5_init_67 : decode cX5_init 67 = .ok (.return_, 1) := by decide +kernel
theorem dX5_thrown_0 : decode cX5_thrown 0 = .ok (.aload_n 0, 1) := by decide +kernel
theorem dX5_thrown_1 : decode cX5_thrown 1 = .ok (.getfield 29, 3) := by decide +kernel
theorem dX5_thrown_4 : decode cX5_thrown 4 = .ok (.ireturn, 1) := by decide +kernel
theorem dX5_fails_0 : decode cX5_fails 0 = .ok (.aload_n 0, 1) := by decide +kernel
theorem dX5_fails_1 : decode cX5_fails 1 = .ok (.iload_n 1, 1) := by decide +kernel
theorem dX5_fails_2 : decode cX5_fails 2 = .ok (.putfield 29, 3) := by decide +kernel
theorem dX5_fails_5 : decode cX5_fails 5 = .ok (.iconst 0, 1) := by decide +kernel
theorem dX5_fails_6 : decode cX5_fails 6 = .ok (.ireturn, 1) := by decide +kernel
theorem dX5_in_0 : decode cX5_in 0 = .ok (.iload_n 0, 1) := by decide +kernel
theorem dX5_in_1 : decode cX5_in 1 = .ok (.iload_n 1, 1) := by decide +kernel
theorem dX5_in_2 : decode cX5_in 2 = .ok (.if_icmp .lt 12, 3) := by decide +kernel
theorem dX5_in_5 : decode cX5_in 5 = .ok (.iload_n 0, 1) := by decide +kernel
theorem dX5_in_6 : decode cX5_in 6 = .ok (.iload_n 2, 1) := by decide +kernel
theorem dX5_in_7 : decode cX5_in 7 = .ok (.if_icmp .gt 7, 3) := by decide +kernel
theorem dX5_in_10 : decode cX5_in 10 = .ok (.iconst 1, 1) := by decide +kernel
theorem dX5_in_11 : decode cX5_in 11 = .ok (.goto 4, 3) := by decide +kernel
theorem dX5_in_14 : decode cX5_in 14 = .ok (.iconst 0, 1) := by decide +kernel
theorem dX5_in_15 : decode cX5_in 15 = .ok (.ireturn, 1) := by decide +kernel
set_option maxRecDepth 20000 in
theorem ggX5_isTown_X5_in : GoodIn wsX5_isTown wsX5_in := goodIn_r _ [4] (by decide +kernel) (by decide +kernel)
set_option maxRecDepth 20000 in
theorem gX5_isTown_X5_in : GoodIn wsX5_isTown (va_wsS RX5 33 yX5_in wsX5_in) := goodIn_app (goodIn_of _ (by decide +kernel)) ggX5_isTown_X5_in
theorem dX5_isTown_0 : decode cX5_isTown 0 = .ok (.iload_n 0, 1) := by decide +kernel
theorem dX5_isTown_1 : decode cX5_isTown 1 = .ok (.iconst 0, 1) := by decide +kernel
theorem dX5_isTown_2 : decode cX5_isTown 2 = .ok (.iconst 1, 1) := by decide +kernel
theorem dX5_isTown_3 : decode cX5_isTown 3 = .ok (.invokestatic 33, 3) := by decide +kernel
theorem dX5_isTown_6 : decode cX5_isTown 6 = .ok (.ireturn, 1) := by decide +kernel
set_option maxRecDepth 20000 in
theorem ggX5_isFeast_X5_in : GoodIn wsX5_isFeast wsX5_in := goodIn_r _ [5] (by decide +kernel) (by decide +kernel)
set_option maxRecDepth 20000 in
theorem gX5_isFeast_X5_in : GoodIn wsX5_isFeast (va_wsS RX5 33 yX5_in wsX5_in) := goodIn_app (goodIn_of _ (by decide +kernel)) ggX5_isFeast_X5_in
theorem dX5_isFeast_0 : decode cX5_isFeast 0 = .ok (.iload_n 1, 1) := by decide +kernel
theorem dX5_isFeast_1 : decode cX5_isFeast 1 = .ok (.iconst 0, 1) := by decide +kernel
theorem dX5_isFeast_2 : decode cX5_isFeast 2 = .ok (.aload_n 0, 1) := by decide +kernel
theorem dX5_isFeast_3 : decode cX5_isFeast 3 = .ok (.getfield 7, 3) := by decide +kernel
theorem dX5_isFeast_6 : decode cX5_isFeast 6 = .ok (.bipush 14, 2) := by decide +kernel
theorem dX5_isFeast_8 : decode cX5_isFeast 8 = .ok (.iaload, 1) := by decide +kernel
theorem dX5_isFeast_9 : decode cX5_isFeast 9 = .ok (.iconst 1, 1) := by decide +kernel
theorem dX5_isFeast_10 : decode cX5_isFeast 10 = .ok (.isub, 1) := by decide +kernel
theorem dX5_isFeast_11 : decode cX5_isFeast 11 = .ok (.invokestatic 33, 3) := by decide +kernel
theorem dX5_isFeast_14 : decode cX5_isFeast 14 = .ok (.ireturn, 1) := by decide +kernel
theorem dX5_gaps_0 : decode cX5_gaps 0 = .ok (.aload_n 0, 1) := by decide +kernel
theorem dX5_gaps_1 : decode cX5_gaps 1 = .ok (.getfield 7, 3) := by decide +kernel
theorem dX5_gaps_4 : decode cX5_gaps 4 = .ok (.iconst 0, 1) := by decide +kernel
theorem dX5_gaps_5 : decode cX5_gaps 5 = .ok (.bipush 7, 2) := by decide +kernel
theorem dX5_gaps_7 : decode cX5_gaps 7 = .ok (.iload_n 1, 1) := by decide +kernel
theorem dX5_gaps_8 : decode cX5_gaps 8 = .ok (.imul, 1) := by decide +kernel
theorem dX5_gaps_9 : decode cX5_gaps 9 = .ok (.iadd, 1) := by decide +kernel
theorem dX5_gaps_10 : decode cX5_gaps 10 = .ok (.iaload, 1) := by decide +kernel
theorem dX5_gaps_11 : decode cX5_gaps 11 = .ok (.ireturn, 1) := by decide +kernel
theorem dX5_gap_0 : decode cX5_gap 0 = .ok (.aload_n 0, 1) := by decide +kernel
theorem dX5_gap_1 : decode cX5_gap 1 = .ok (.getfield 7, 3) := by decide +kernel
theorem dX5_gap_4 : decode cX5_gap 4 = .ok (.iconst 0, 1) := by decide +kernel
theorem dX5_gap_5 : decode cX5_gap 5 = .ok (.bipush 7, 2) := by decide +kernel
theorem dX5_gap_7 : decode cX5_gap 7 = .ok (.iload_n 1, 1) := by decide +kernel
theorem dX5_gap_8 : decode cX5_gap 8 = .ok (.imul, 1) := by decide +kernel
theorem dX5_gap_9 : decode cX5_gap 9 = .ok (.iadd, 1) := by decide +kernel
theorem dX5_gap_10 : decode cX5_gap 10 = .ok (.iconst 1, 1) := by decide +kernel
theorem dX5_gap_11 : decode cX5_gap 11 = .ok (.iadd, 1) := by decide +kernel
theorem dX5_gap_12 : decode cX5_gap 12 = .ok (.iconst 2, 1) := by decide +kernel
theorem dX5_gap_13 : decode cX5_gap 13 = .ok (.iload_n 2, 1) := by decide +kernel
theorem dX5_gap_14 : decode cX5_gap 14 = .ok (.imul, 1) := by decide +kernel
theorem dX5_gap_15 : decode cX5_gap 15 = .ok (.iadd, 1) := by decide +kernel
theorem dX5_gap_16 : decode cX5_gap 16 = .ok (.iload_n 3, 1) := by decide +kernel
theorem dX5_gap_17 : decode cX5_gap 17 = .ok (.iadd, 1) := by decide +kernel
theorem dX5_gap_18 : decode cX5_gap 18 = .ok (.iaload, 1) := by decide +kernel
theorem dX5_gap_19 : decode cX5_gap 19 = .ok (.ireturn, 1) := by decide +kernel
theorem dX5_feast_0 : decode cX5_feast 0 = .ok (.aload_n 0, 1) := by decide +kernel
theorem dX5_feast_1 : decode cX5_feast 1 = .ok (.getfield 7, 3) := by decide +kernel
theorem dX5_feast_4 : decode cX5_feast 4 = .ok (.bipush 15, 2) := by decide +kernel
theorem dX5_feast_6 : decode cX5_feast 6 = .ok (.iconst 4, 1) := by decide +kernel
theorem dX5_feast_7 : decode cX5_feast 7 = .ok (.iload_n 1, 1) := by decide +kernel
theorem dX5_feast_8 : decode cX5_feast 8 = .ok (.imul, 1) := by decide +kernel
theorem dX5_feast_9 : decode cX5_feast 9 = .ok (.iadd, 1) := by decide +kernel
theorem dX5_feast_10 : decode cX5_feast 10 = .ok (.iload_n 2, 1) := by decide +kernel
theorem dX5_feast_11 : decode cX5_feast 11 = .ok (.iadd, 1) := by decide +kernel
theorem dX5_feast_12 : decode cX5_feast 12 = .ok (.iaload, 1) := by decide +kernel
theorem dX5_feast_13 : decode cX5_feast 13 = .ok (.ireturn, 1) := by decide +kernel
theorem dX5_record_0 : decode cX5_record 0 = .ok (.aload_n 0, 1) := by decide +kernel
theorem dX5_record_1 : decode cX5_record 1 = .ok (.getfield 37, 3) := by decide +kernel
theorem dX5_record_4 : decode cX5_record 4 = .ok (.bipush 6, 2) := by decide +kernel
theorem dX5_record_6 : decode cX5_record 6 = .ok (.if_icmp .ne 43, 3) := by decide +kernel
theorem dX5_record_9 : decode cX5_record 9 = .ok (.iconst 0, 1) := by decide +kernel
theorem dX5_record_10 : decode cX5_record 10 = .ok (.istore_n 1, 1) := by decide +kernel
theorem dX5_record_11 : decode cX5_record 11 = .ok (.iload_n 1, 1) := by decide +kernel
theorem dX5_record_12 : decode cX5_record 12 = .ok (.sipush 310, 3) := by decide +kernel
theorem dX5_record_15 : decode cX5_record 15 = .ok (.if_icmp .ge 24, 3) := by decide +kernel
theorem dX5_record_18 : decode cX5_record 18 = .ok (.aload_n 0, 1) := by decide +kernel
theorem dX5_record_19 : decode cX5_record 19 = .ok (.getfield 13, 3) := by decide +kernel
theorem dX5_record_22 : decode cX5_record 22 = .ok (.iload_n 1, 1) := by decide +kernel
theorem dX5_record_23 : decode cX5_record 23 = .ok (.aload_n 0, 1) := by decide +kernel
theorem dX5_record_24 : decode cX5_record 24 = .ok (.getfield 13, 3) := by decide +kernel
theorem dX5_record_27 : decode cX5_record 27 = .ok (.iload_n 1, 1) := by decide +kernel
theorem dX5_record_28 : decode cX5_record 28 = .ok (.bipush 62, 2) := by decide +kernel
theorem dX5_record_30 : decode cX5_record 30 = .ok (.iadd, 1) := by decide +kernel
theorem dX5_record_31 : decode cX5_record 31 = .ok (.iaload, 1) := by decide +kernel
theorem dX5_record_32 : decode cX5_record 32 = .ok (.iastore, 1) := by decide +kernel
theorem dX5_record_33 : decode cX5_record 33 = .ok (.iinc 1 1, 3) := by decide +kernel
theorem dX5_record_36 : decode cX5_record 36 = .ok (.goto (-25), 3) := by decide +kernel
theorem dX5_record_39 : decode cX5_record 39 = .ok (.aload_n 0, 1) := by decide +kernel
theorem dX5_record_40 : decode cX5_record 40 = .ok (.dup, 1) := by decide +kernel
theorem dX5_record_41 : decode cX5_record 41 = .ok (.getfield 37, 3) := by decide +kernel
theorem dX5_record_44 : decode cX5_record 44 = .ok (.iconst 1, 1) := by decide +kernel
theorem dX5_record_45 : decode cX5_record 45 = .ok (.isub, 1) := by decide +kernel
theorem dX5_record_46 : decode cX5_record 46 = .ok (.putfield 37, 3) := by decide +kernel
theorem dX5_record_49 : decode cX5_record 49 = .ok (.iconst 0, 1) := by decide +kernel
theorem dX5_record_50 : decode cX5_record 50 = .ok (.istore_n 1, 1) := by decide +kernel
theorem dX5_record_51 : decode cX5_record 51 = .ok (.iload_n 1, 1) := by decide +kernel
theorem dX5_record_52 : decode cX5_record 52 = .ok (.bipush 62, 2) := by decide +kernel
theorem dX5_record_54 : decode cX5_record 54 = .ok (.if_icmp .ge 29, 3) := by decide +kernel
theorem dX5_record_57 : decode cX5_record 57 = .ok (.aload_n 0, 1) := by decide +kernel
theorem dX5_record_58 : decode cX5_record 58 = .ok (.getfield 13, 3) := by decide +kernel
theorem dX5_record_61 : decode cX5_record 61 = .ok (.bipush 62, 2) := by decide +kernel
theorem dX5_record_63 : decode cX5_record 63 = .ok (.aload_n 0, 1) := by decide +kernel
theorem dX5_record_64 : decode cX5_record 64 = .ok (.getfield 37, 3) := by decide +kernel
theorem dX5_record_67 : decode cX5_record 67 = .ok (.imul, 1) := by decide +kernel
theorem dX5_record_68 : decode cX5_record 68 = .ok (.iload_n 1, 1) := by decide +kernel
theorem dX5_record_69 : decode cX5_record 69 = .ok (.iadd, 1) := by decide +kernel
theorem dX5_record_70 : decode cX5_record 70 = .ok (.aload_n 0, 1) := by decide +kernel
theorem dX5_record_71 : decode cX5_record 71 = .ok (.getfield 7, 3) := by decide +kernel
theorem dX5_record_74 : decode cX5_record 74 = .ok (.iload_n 1, 1) := by decide +kernel
theorem dX5_record_75 : decode cX5_record 75 = .ok (.iaload, 1) := by decide +kernel
theorem dX5_record_76 : decode cX5_record 76 = .ok (.iastore, 1) := by decide +kernel
theorem dX5_record_77 : decode cX5_record 77 = .ok (.iinc 1 1, 3) := by decide +kernel
theorem dX5_record_80 : decode cX5_record 80 = .ok (.goto (-29), 3) := by decide +kernel
theorem dX5_record_83 : decode cX5_record 83 = .ok (.aload_n 0, 1) := by decide +kernel
theorem dX5_record_84 : decode cX5_record 84 = .ok (.dup, 1) := by decide +kernel
theorem dX5_record_85 : decode cX5_record 85 = .ok (.getfield 37, 3) := by decide +kernel
theorem dX5_record_88 : decode cX5_record 88 = .ok (.iconst 1, 1) := by decide +kernel
theorem dX5_record_89 : decode cX5_record 89 = .ok (.iadd, 1) := by decide +kernel
theorem dX5_record_90 : decode cX5_record 90 = .ok (.putfield 37, 3) := by decide +kernel
theorem dX5_record_93 : decode cX5_record 93 = .ok (.return_, 1) := by decide +kernel
set_option maxRecDepth 20000 in
theorem ggX5_undo_X5_fails : GoodIn wsX5_undo wsX5_fails := goodIn_r _ [9, 1, 10, 11, 12, 13, 14, 15, 16, 17, 18, 19] (by decide +kernel) (by decide +kernel)
set_option maxRecDepth 20000 in
theorem gX5_undo_X5_fails : GoodIn wsX5_undo (wsV RX5 40 RX5 yX5_fails wsX5_fails) := goodIn_app (goodIn_of _ (by decide +kernel)) ggX5_undo_X5_fails
theorem dX5_undo_0 : decode cX5_undo 0 = .ok (.aload_n 0, 1) := by decide +kernel
theorem dX5_undo_1 : decode cX5_undo 1 = .ok (.iconst 0, 1) := by decide +kernel
theorem dX5_undo_2 : decode cX5_undo 2 = .ok (.putfield 29, 3) := by decide +kernel
theorem dX5_undo_5 : decode cX5_undo 5 = .ok (.aload_n 0, 1) := by decide +kernel
theorem dX5_undo_6 : decode cX5_undo 6 = .ok (.getfield 37, 3) := by decide +kernel
theorem dX5_undo_9 : decode cX5_undo 9 = .ok (.ifCond .ne 9, 3) := by decide +kernel
theorem dX5_undo_12 : decode cX5_undo 12 = .ok (.aload_n 0, 1) := by decide +kernel
theorem dX5_undo_13 : decode cX5_undo 13 = .ok (.iconst 1, 1) := by decide +kernel
theorem dX5_undo_14 : decode cX5_undo 14 = .ok (.invokevirtual 40, 3) := by decide +kernel
theorem dX5_undo_17 : decode cX5_undo 17 = .ok (.ireturn, 1) := by decide +kernel
theorem dX5_undo_18 : decode cX5_undo 18 = .ok (.aload_n 0, 1) := by decide +kernel
theorem dX5_undo_19 : decode cX5_undo 19 = .ok (.dup, 1) := by decide +kernel
theorem dX5_undo_20 : decode cX5_undo 20 = .ok (.getfield 37, 3) := by decide +kernel
theorem dX5_undo_23 : decode cX5_undo 23 = .ok (.iconst 1, 1) := by decide +kernel
theorem dX5_undo_24 : decode cX5_undo 24 = .ok (.isub, 1) := by decide +kernel
theorem dX5_undo_25 : decode cX5_undo 25 = .ok (.putfield 37, 3) := by decide +kernel
theorem dX5_undo_28 : decode cX5_undo 28 = .ok (.iconst 0, 1) := by decide +kernel
theorem dX5_undo_29 : decode cX5_undo 29 = .ok (.istore_n 1, 1) := by decide +kernel
theorem dX5_undo_30 : decode cX5_undo 30 = .ok (.iload_n 1, 1) := by decide +kernel
theorem dX5_undo_31 : decode cX5_undo 31 = .ok (.bipush 62, 2) := by decide +kernel
theorem dX5_undo_33 : decode cX5_undo 33 = .ok (.if_icmp .ge 29, 3) := by decide +kernel
theorem dX5_undo_36 : decode cX5_undo 36 = .ok (.aload_n 0, 1) := by decide +kernel
theorem dX5_undo_37 : decode cX5_undo 37 = .ok (.getfield 7, 3) := by decide +kernel
theorem dX5_undo_40 : decode cX5_undo 40 = .ok (.iload_n 1, 1) := by decide +kernel
theorem dX5_undo_41 : decode cX5_undo 41 = .ok (.aload_n 0, 1) := by decide +kernel
theorem dX5_undo_42 : decode cX5_undo 42 = .ok (.getfield 13, 3) := by decide +kernel
theorem dX5_undo_45 : decode cX5_undo 45 = .ok (.bipush 62, 2) := by decide +kernel
theorem dX5_undo_47 : decode cX5_undo 47 = .ok (.aload_n 0, 1) := by decide +kernel
theorem dX5_undo_48 : decode cX5_undo 48 = .ok (.getfield 37, 3) := by decide +kernel
theorem dX5_undo_51 : decode cX5_undo 51 = .ok (.imul, 1) := by decide +kernel
theorem dX5_undo_52 : decode cX5_undo 52 = .ok (.iload_n 1, 1) := by decide +kernel
theorem dX5_undo_53 : decode cX5_undo 53 = .ok (.iadd, 1) := by decide +kernel
theorem dX5_undo_54 : decode cX5_undo 54 = .ok (.iaload, 1) := by decide +kernel
theorem dX5_undo_55 : decode cX5_undo 55 = .ok (.iastore, 1) := by decide +kernel
theorem dX5_undo_56 : decode cX5_undo 56 = .ok (.iinc 1 1, 3) := by decide +kernel
theorem dX5_undo_59 : decode cX5_undo 59 = .ok (.goto (-29), 3) := by decide +kernel
theorem dX5_undo_62 : decode cX5_undo 62 = .ok (.aload_n 0, 1) := by decide +kernel
theorem dX5_undo_63 : decode cX5_undo 63 = .ok (.getfield 37, 3) := by decide +kernel
theorem dX5_undo_66 : decode cX5_undo 66 = .ok (.ireturn, 1) := by decide +kernel
theorem dX5_undoCount_0 : decode cX5_undoCount 0 = .ok (.aload_n 0, 1) := by decide +kernel
theorem dX5_undoCount_1 : decode cX5_undoCount 1 = .ok (.iconst 0, 1) := by decide +kernel
theorem dX5_undoCount_2 : decode cX5_undoCount 2 = .ok (.putfield 29, 3) := by decide +kernel
theorem dX5_undoCount_5 : decode cX5_undoCount 5 = .ok (.aload_n 0, 1) := by decide +kernel
theorem dX5_undoCount_6 : decode cX5_undoCount 6 = .ok (.getfield 37, 3) := by decide +kernel
theorem dX5_undoCount_9 : decode cX5_undoCount 9 = .ok (.ireturn, 1) := by decide +kernel
set_option maxRecDepth 20000 in
theorem ggX5_saveState_X5_in : GoodIn wsX5_saveState wsX5_in := goodIn_r _ [8] (by decide +kernel) (by decide +kernel)
set_option maxRecDepth 20000 in
theorem gX5_saveState_X5_in : GoodIn wsX5_saveState (va_wsS RX5 33 yX5_in wsX5_in) := goodIn_app (goodIn_of _ (by decide +kernel)) ggX5_saveState_X5_in
set_option maxRecDepth 20000 in
theorem ggX5_saveState_X5_fails : GoodIn wsX5_saveState wsX5_fails := goodIn_r _ [12, 1, 13, 14, 15, 16, 17, 18, 19, 20, 21, 22] (by decide +kernel) (by decide +kernel)
set_option maxRecDepth 20000 in
theorem gX5_saveState_X5_fails : GoodIn wsX5_saveState (wsV RX5 40 RX5 yX5_fails wsX5_fails) := goodIn_app (goodIn_of _ (by decide +kernel)) ggX5_saveState_X5_fails
theorem dX5_saveState_0 : decode cX5_saveState 0 = .ok (.aload_n 0, 1) := by decide +kernel
theorem dX5_saveState_1 : decode cX5_saveState 1 = .ok (.iconst 0, 1) := by decide +kernel
theorem dX5_saveState_2 : decode cX5_saveState 2 = .ok (.putfield 29, 3) := by decide +kernel
theorem dX5_saveState_5 : decode cX5_saveState 5 = .ok (.iload_n 1, 1) := by decide +kernel
theorem dX5_saveState_6 : decode cX5_saveState 6 = .ok (.iconst 0, 1) := by decide +kernel
theorem dX5_saveState_7 : decode cX5_saveState 7 = .ok (.iconst 1, 1) := by decide +kernel
theorem dX5_saveState_8 : decode cX5_saveState 8 = .ok (.invokestatic 33, 3) := by decide +kernel
theorem dX5_saveState_11 : decode cX5_saveState 11 = .ok (.ifCond .ne 9, 3) := by decide +kernel
theorem dX5_saveState_14 : decode cX5_saveState 14 = .ok (.aload_n 0, 1) := by decide +kernel
theorem dX5_saveState_15 : decode cX5_saveState 15 = .ok (.iconst 1, 1) := by decide +kernel
theorem dX5_saveState_16 : decode cX5_saveState 16 = .ok (.invokevirtual 40, 3) := by decide +kernel
theorem dX5_saveState_19 : decode cX5_saveState 19 = .ok (.ireturn, 1) := by decide +kernel
theorem dX5_saveState_20 : decode cX5_saveState 20 = .ok (.iconst 0, 1) := by decide +kernel
theorem dX5_saveState_21 : decode cX5_saveState 21 = .ok (.istore_n 2, 1) := by decide +kernel
theorem dX5_saveState_22 : decode cX5_saveState 22 = .ok (.iload_n 2, 1) := by decide +kernel
theorem dX5_saveState_23 : decode cX5_saveState 23 = .ok (.bipush 62, 2) := by decide +kernel
theorem dX5_saveState_25 : decode cX5_saveState 25 = .ok (.if_icmp .ge 26, 3) := by decide +kernel
theorem dX5_saveState_28 : decode cX5_saveState 28 = .ok (.aload_n 0, 1) := by decide +kernel
theorem dX5_saveState_29 : decode cX5_saveState 29 = .ok (.getfield 16, 3) := by decide +kernel
theorem dX5_saveState_32 : decode cX5_saveState 32 = .ok (.bipush 62, 2) := by decide +kernel
theorem dX5_saveState_34 : decode cX5_saveState 34 = .ok (.iload_n 1, 1) := by decide +kernel
theorem dX5_saveState_35 : decode cX5_saveState 35 = .ok (.imul, 1) := by decide +kernel
theorem dX5_saveState_36 : decode cX5_saveState 36 = .ok (.iload_n 2, 1) := by decide +kernel
theorem dX5_saveState_37 : decode cX5_saveState 37 = .ok (.iadd, 1) := by decide +kernel
theorem dX5_saveState_38 : decode cX5_saveState 38 = .ok (.aload_n 0, 1) := by decide +kernel
theorem dX5_saveState_39 : decode cX5_saveState 39 = .ok (.getfield 7, 3) := by decide +kernel
theorem dX5_saveState_42 : decode cX5_saveState 42 = .ok (.iload_n 2, 1) := by decide +kernel
theorem dX5_saveState_43 : decode cX5_saveState 43 = .ok (.iaload, 1) := by decide +kernel
theorem dX5_saveState_44 : decode cX5_saveState 44 = .ok (.iastore, 1) := by decide +kernel
theorem dX5_saveState_45 : decode cX5_saveState 45 = .ok (.iinc 2 1, 3) := by decide +kernel
theorem dX5_saveState_48 : decode cX5_saveState 48 = .ok (.goto (-26), 3) := by decide +kernel
theorem dX5_saveState_51 : decode cX5_saveState 51 = .ok (.aload_n 0, 1) := by decide +kernel
theorem dX5_saveState_52 : decode cX5_saveState 52 = .ok (.getfield 19, 3) := by decide +kernel
theorem dX5_saveState_55 : decode cX5_saveState 55 = .ok (.iload_n 1, 1) := by decide +kernel
theorem dX5_saveState_56 : decode cX5_saveState 56 = .ok (.iconst 1, 1) := by decide +kernel
theorem dX5_saveState_57 : decode cX5_saveState 57 = .ok (.bastore, 1) := by decide +kernel
theorem dX5_saveState_58 : decode cX5_saveState 58 = .ok (.aload_n 0, 1) := by decide +kernel
theorem dX5_saveState_59 : decode cX5_saveState 59 = .ok (.getfield 7, 3) := by decide +kernel
theorem dX5_saveState_62 : decode cX5_saveState 62 = .ok (.bipush 57, 2) := by decide +kernel
theorem dX5_saveState_64 : decode cX5_saveState 64 = .ok (.iaload, 1) := by decide +kernel
theorem dX5_saveState_65 : decode cX5_saveState 65 = .ok (.ireturn, 1) := by decide +kernel
set_option maxRecDepth 20000 in
theorem ggX5_loadState_X5_in : GoodIn wsX5_loadState wsX5_in := goodIn_r _ [8] (by decide +kernel) (by decide +kernel)
set_option maxRecDepth 20000 in
theorem gX5_loadState_X5_in : GoodIn wsX5_loadState (va_wsS RX5 33 yX5_in wsX5_in) := goodIn_app (goodIn_of _ (by decide +kernel)) ggX5_loadState_X5_in
set_option maxRecDepth 20000 in
theorem ggX5_loadState_X5_fails : GoodIn wsX5_loadState wsX5_fails := goodIn_r _ [12, 1, 19, 20, 21, 22, 23, 24, 25, 26, 27, 28] (by decide +kernel) (by decide +kernel)
set_option maxRecDepth 20000 in
theorem gX5_loadState_X5_fails : GoodIn wsX5_loadState (wsV RX5 40 RX5 yX5_fails wsX5_fails) := goodIn_app (goodIn_of _ (by decide +kernel)) ggX5_loadState_X5_fails
set_option maxRecDepth 20000 in
theorem ggX5_loadState_X5_record : GoodIn wsX5_loadState wsX5_record := goodIn_r _ [16, 17, 18, 3, 19, 20, 21, 22, 23, 24, 25, 26, 27, 28] (by decide +kernel) (by decide +kernel)
set_option maxRecDepth 20000 in
theorem gX5_loadState_X5_record : GoodIn wsX5_loadState (wsV RX5 44 RX5 yX5_record wsX5_record) := goodIn_app (goodIn_of _ (by decide +kernel)) ggX5_loadState_X5_record
theorem dX5_loadState_0 : decode cX5_loadState 0 = .ok (.aload_n 0, 1) := by decide +kernel
theorem dX5_loadState_1 : decode cX5_loadState 1 = .ok (.iconst 0, 1) := by decide +kernel
theorem dX5_loadState_2 : decode cX5_loadState 2 = .ok (.putfield 29, 3) := by decide +kernel
theorem dX5_loadState_5 : decode cX5_loadState 5 = .ok (.iload_n 1, 1) := by decide +kernel
theorem dX5_loadState_6 : decode cX5_loadState 6 = .ok (.iconst 0, 1) := by decide +kernel
theorem dX5_loadState_7 : decode cX5_loadState 7 = .ok (.iconst 1, 1) := by decide +kernel
theorem dX5_loadState_8 : decode cX5_loadState 8 = .ok (.invokestatic 33, 3) := by decide +kernel
theorem dX5_loadState_11 : decode cX5_loadState 11 = .ok (.ifCond .ne 9, 3) := by decide +kernel
theorem dX5_loadState_14 : decode cX5_loadState 14 = .ok (.aload_n 0, 1) := by decide +kernel
theorem dX5_loadState_15 : decode cX5_loadState 15 = .ok (.iconst 1, 1) := by decide +kernel
theorem dX5_loadState_16 : decode cX5_loadState 16 = .ok (.invokevirtual 40, 3) := by decide +kernel
theorem dX5_loadState_19 : decode cX5_loadState 19 = .ok (.ireturn, 1) := by decide +kernel
theorem dX5_loadState_20 : decode cX5_loadState 20 = .ok (.aload_n 0, 1) := by decide +kernel
theorem dX5_loadState_21 : decode cX5_loadState 21 = .ok (.getfield 19, 3) := by decide +kernel
theorem dX5_loadState_24 : decode cX5_loadState 24 = .ok (.iload_n 1, 1) := by decide +kernel
theorem dX5_loadState_25 : decode cX5_loadState 25 = .ok (.baload, 1) := by decide +kernel
theorem dX5_loadState_26 : decode cX5_loadState 26 = .ok (.ifCond .ne 9, 3) := by decide +kernel
theorem dX5_loadState_29 : decode cX5_loadState 29 = .ok (.aload_n 0, 1) := by decide +kernel
theorem dX5_loadState_30 : decode cX5_loadState 30 = .ok (.iconst 2, 1) := by decide +kernel
theorem dX5_loadState_31 : decode cX5_loadState 31 = .ok (.invokevirtual 40, 3) := by decide +kernel
theorem dX5_loadState_34 : decode cX5_loadState 34 = .ok (.ireturn, 1) := by decide +kernel
theorem dX5_loadState_35 : decode cX5_loadState 35 = .ok (.aload_n 0, 1) := by decide +kernel
theorem dX5_loadState_36 : decode cX5_loadState 36 = .ok (.invokevirtual 44, 3) := by decide +kernel
theorem dX5_loadState_39 : decode cX5_loadState 39 = .ok (.iconst 0, 1) := by decide +kernel
theorem dX5_loadState_40 : decode cX5_loadState 40 = .ok (.istore_n 2, 1) := by decide +kernel
theorem dX5_loadState_41 : decode cX5_loadState 41 = .ok (.iload_n 2, 1) := by decide +kernel
theorem dX5_loadState_42 : decode cX5_loadState 42 = .ok (.bipush 62, 2) := by decide +kernel
theorem dX5_loadState_44 : decode cX5_loadState 44 = .ok (.if_icmp .ge 26, 3) := by decide +kernel
theorem dX5_loadState_47 : decode cX5_loadState 47 = .ok (.aload_n 0, 1) := by decide +kernel
theorem dX5_loadState_48 : decode cX5_loadState 48 = .ok (.getfield 7, 3) := by decide +kernel
theorem dX5_loadState_51 : decode cX5_loadState 51 = .ok (.iload_n 2, 1) := by decide +kernel
theorem dX5_loadState_52 : decode cX5_loadState 52 = .ok (.aload_n 0, 1) := by decide +kernel
theorem dX5_loadState_53 : decode cX5_loadState 53 = .ok (.getfield 16, 3) := by decide +kernel
theorem dX5_loadState_56 : decode cX5_loadState 56 = .ok (.bipush 62, 2) := by decide +kernel
theorem dX5_loadState_58 : decode cX5_loadState 58 = .ok (.iload_n 1, 1) := by decide +kernel
theorem dX5_loadState_59 : decode cX5_loadState 59 = .ok (.imul, 1) := by decide +kernel
theorem dX5_loadState_60 : decode cX5_loadState 60 = .ok (.iload_n 2, 1) := by decide +kernel
theorem dX5_loadState_61 : decode cX5_loadState 61 = .ok (.iadd, 1) := by decide +kernel
theorem dX5_loadState_62 : decode cX5_loadState 62 = .ok (.iaload, 1) := by decide +kernel
theorem dX5_loadState_63 : decode cX5_loadState 63 = .ok (.iastore, 1) := by decide +kernel
theorem dX5_loadState_64 : decode cX5_loadState 64 = .ok (.iinc 2 1, 3) := by decide +kernel
theorem dX5_loadState_67 : decode cX5_loadState 67 = .ok (.goto (-26), 3) := by decide +kernel
theorem dX5_loadState_70 : decode cX5_loadState 70 = .ok (.aload_n 0, 1) := by decide +kernel
theorem dX5_loadState_71 : decode cX5_loadState 71 = .ok (.getfield 7, 3) := by decide +kernel
theorem dX5_loadState_74 : decode cX5_loadState 74 = .ok (.bipush 57, 2) := by decide +kernel
theorem dX5_loadState_76 : decode cX5_loadState 76 = .ok (.iaload, 1) := by decide +kernel
theorem dX5_loadState_77 : decode cX5_loadState 77 = .ok (.ireturn, 1) := by decide +kernel
set_option maxRecDepth 20000 in
theorem ggX5_addGap_X5_isTown : GoodIn wsX5_addGap wsX5_isTown := goodIn_r _ [6, 7, 8, 5, 9] (by decide +kernel) (by decide +kernel)
set_option maxRecDepth 20000 in
theorem gX5_addGap_X5_isTown : GoodIn wsX5_addGap (va_wsS RX5 47 yX5_isTown wsX5_isTown) := goodIn_app (goodIn_of _ (by decide +kernel)) ggX5_addGap_X5_isTown
set_option maxRecDepth 20000 in
theorem ggX5_addGap_X5_fails : GoodIn wsX5_addGap wsX5_fails := goodIn_r _ [13, 1, 28, 29, 30, 31, 32, 33, 34, 35, 36, 37] (by decide +kernel) (by decide +kernel)
set_option maxRecDepth 20000 in
theorem gX5_addGap_X5_fails : GoodIn wsX5_addGap (wsV RX5 40 RX5 yX5_fails wsX5_fails) := goodIn_app (goodIn_of _ (by decide +kernel)) ggX5_addGap_X5_fails
set_option maxRecDepth 20000 in
theorem ggX5_addGap_X5_gaps : GoodIn wsX5_addGap wsX5_gaps := goodIn_r _ [17, 2, 28, 29, 30, 31, 32, 33, 34, 35, 36, 37] (by decide +kernel) (by decide +kernel)
set_option maxRecDepth 20000 in
theorem gX5_addGap_X5_gaps : GoodIn wsX5_addGap (wsV RX5 51 RX5 yX5_gaps wsX5_gaps) := goodIn_app (goodIn_of _ (by decide +kernel)) ggX5_addGap_X5_gaps
set_option maxRecDepth 20000 in
theorem ggX5_addGap_X5_in : GoodIn wsX5_addGap wsX5_in := goodIn_r _ [9] (by decide +kernel) (by decide +kernel)
set_option maxRecDepth 20000 in
theorem gX5_addGap_X5_in : GoodIn wsX5_addGap (va_wsS RX5 33 yX5_in wsX5_in) := goodIn_app (goodIn_of _ (by decide +kernel)) ggX5_addGap_X5_in
set_option maxRecDepth 20000 in
theorem ggX5_addGap_X5_gap : GoodIn wsX5_addGap wsX5_gap := goodIn_r _ [21, 2, 28, 29, 30, 31, 32, 33, 34, 35, 36, 37] (by decide +kernel) (by decide +kernel)
set_option maxRecDepth 20000 in
theorem gX5_addGap_X5_gap : GoodIn wsX5_addGap (wsV RX5 54 RX5 yX5_gap wsX5_gap) := goodIn_app (goodIn_of _ (by decide +kernel)) ggX5_addGap_X5_gap
set_option maxRecDepth 20000 in
theorem ggX5_addGap_X5_record : GoodIn wsX5_addGap wsX5_record := goodIn_r _ [25, 26, 27, 2, 28, 29, 30, 31, 32, 33, 34, 35, 36, 37] (by decide +kernel) (by decide +kernel)
set_option maxRecDepth 20000 in
theorem gX5_addGap_X5_record : GoodIn wsX5_addGap (wsV RX5 44 RX5 yX5_record wsX5_record) := goodIn_app (goodIn_of _ (by decide +kernel)) ggX5_addGap_X5_record
theorem dX5_addGap_0 : decode cX5_addGap 0 = .ok (.aload_n 0, 1) := by decide +kernel
theorem dX5_addGap_1 : decode cX5_addGap 1 = .ok (.iconst 0, 1) := by decide +kernel
theorem dX5_addGap_2 : decode cX5_addGap 2 = .ok (.putfield 29, 3) := by decide +kernel
theorem dX5_addGap_5 : decode cX5_addGap 5 = .ok (.iload_n 1, 1) := by decide +kernel
theorem dX5_addGap_6 : decode cX5_addGap 6 = .ok (.invokestatic 47, 3) := by decide +kernel
theorem dX5_addGap_9 : decode cX5_addGap 9 = .ok (.ifCond .ne 9, 3) := by decide +kernel
theorem dX5_addGap_12 : decode cX5_addGap 12 = .ok (.aload_n 0, 1) := by decide +kernel
theorem dX5_addGap_13 : decode cX5_addGap 13 = .ok (.iconst 1, 1) := by decide +kernel
theorem dX5_addGap_14 : decode cX5_addGap 14 = .ok (.invokevirtual 40, 3) := by decide +kernel
theorem dX5_addGap_17 : decode cX5_addGap 17 = .ok (.ireturn, 1) := by decide +kernel
theorem dX5_addGap_18 : decode cX5_addGap 18 = .ok (.aload_n 0, 1) := by decide +kernel
theorem dX5_addGap_19 : decode cX5_addGap 19 = .ok (.iload_n 1, 1) := by decide +kernel
theorem dX5_addGap_20 : decode cX5_addGap 20 = .ok (.invokevirtual 51, 3) := by decide +kernel
theorem dX5_addGap_23 : decode cX5_addGap 23 = .ok (.istore 4, 2) := by decide +kernel
theorem dX5_addGap_25 : decode cX5_addGap 25 = .ok (.iload_n 2, 1) := by decide +kernel
theorem dX5_addGap_26 : decode cX5_addGap 26 = .ok (.iconst 0, 1) := by decide +kernel
theorem dX5_addGap_27 : decode cX5_addGap 27 = .ok (.sipush 9999, 3) := by decide +kernel
theorem dX5_addGap_30 : decode cX5_addGap 30 = .ok (.invokestatic 33, 3) := by decide +kernel
theorem dX5_addGap_33 : decode cX5_addGap 33 = .ok (.ifCond .eq 32, 3) := by decide +kernel
theorem dX5_addGap_36 : decode cX5_addGap 36 = .ok (.iload_n 3, 1) := by decide +kernel
theorem dX5_addGap_37 : decode cX5_addGap 37 = .ok (.iconst 1, 1) := by decide +kernel
theorem dX5_addGap_38 : decode cX5_addGap 38 = .ok (.bipush 40, 2) := by decide +kernel
theorem dX5_addGap_40 : decode cX5_addGap 40 = .ok (.invokestatic 33, 3) := by decide +kernel
theorem dX5_addGap_43 : decode cX5_addGap 43 = .ok (.ifCond .eq 22, 3) := by decide +kernel
theorem dX5_addGap_46 : decode cX5_addGap 46 = .ok (.iload 4, 2) := by decide +kernel
theorem dX5_addGap_48 : decode cX5_addGap 48 = .ok (.ifCond .le 23, 3) := by decide +kernel
theorem dX5_addGap_51 : decode cX5_addGap 51 = .ok (.iload_n 2, 1) := by decide +kernel
theorem dX5_addGap_52 : decode cX5_addGap 52 = .ok (.aload_n 0, 1) := by decide +kernel
theorem dX5_addGap_53 : decode cX5_addGap 53 = .ok (.iload_n 1, 1) := by decide +kernel
theorem dX5_addGap_54 : decode cX5_addGap 54 = .ok (.iload 4, 2) := by decide +kernel
theorem dX5_addGap_56 : decode cX5_addGap 56 = .ok (.iconst 1, 1) := by decide +kernel
theorem dX5_addGap_57 : decode cX5_addGap 57 = .ok (.isub, 1) := by decide +kernel
theorem dX5_addGap_58 : decode cX5_addGap 58 = .ok (.iconst 0, 1) := by decide +kernel
theorem dX5_addGap_59 : decode cX5_addGap 59 = .ok (.invokevirtual 54, 3) := by decide +kernel
theorem dX5_addGap_62 : decode cX5_addGap 62 = .ok (.if_icmp .gt 9, 3) := by decide +kernel
theorem dX5_addGap_65 : decode cX5_addGap 65 = .ok (.aload_n 0, 1) := by decide +kernel
theorem dX5_addGap_66 : decode cX5_addGap 66 = .ok (.iconst 2, 1) := by decide +kernel
theorem dX5_addGap_67 : decode cX5_addGap 67 = .ok (.invokevirtual 40, 3) := by decide +kernel
theorem dX5_addGap_70 : decode cX5_addGap 70 = .ok (.ireturn, 1) := by decide +kernel
theorem dX5_addGap_71 : decode cX5_addGap 71 = .ok (.iload 4, 2) := by decide +kernel
theorem dX5_addGap_73 : decode cX5_addGap 73 = .ok (.iconst 3, 1) := by decide +kernel
theorem dX5_addGap_74 : decode cX5_addGap 74 = .ok (.if_icmp .ne 9, 3) := by decide +kernel
theorem dX5_addGap_77 : decode cX5_addGap 77 = .ok (.aload_n 0, 1) := by decide +kernel
theorem dX5_addGap_78 : decode cX5_addGap 78 = .ok (.iconst 3, 1) := by decide +kernel
theorem dX5_addGap_79 : decode cX5_addGap 79 = .ok (.invokevirtual 40, 3) := by decide +kernel
theorem dX5_addGap_82 : decode cX5_addGap 82 = .ok (.ireturn, 1) := by decide +kernel
theorem dX5_addGap_83 : decode cX5_addGap 83 = .ok (.aload_n 0, 1) := by decide +kernel
theorem dX5_addGap_84 : decode cX5_addGap 84 = .ok (.invokevirtual 44, 3) := by decide +kernel
theorem dX5_addGap_87 : decode cX5_addGap 87 = .ok (.aload_n 0, 1) := by decide +kernel
theorem dX5_addGap_88 : decode cX5_addGap 88 = .ok (.getfield 7, 3) := by decide +kernel
theorem dX5_addGap_91 : decode cX5_addGap 91 = .ok (.iconst 0, 1) := by decide +kernel
theorem dX5_addGap_92 : decode cX5_addGap 92 = .ok (.bipush 7, 2) := by decide +kernel
theorem dX5_addGap_94 : decode cX5_addGap 94 = .ok (.iload_n 1, 1) := by decide +kernel
theorem dX5_addGap_95 : decode cX5_addGap 95 = .ok (.imul, 1) := by decide +kernel
theorem dX5_addGap_96 : decode cX5_addGap 96 = .ok (.iadd, 1) := by decide +kernel
theorem dX5_addGap_97 : decode cX5_addGap 97 = .ok (.iconst 1, 1) := by decide +kernel
theorem dX5_addGap_98 : decode cX5_addGap 98 = .ok (.iadd, 1) := by decide +kernel
theorem dX5_addGap_99 : decode cX5_addGap 99 = .ok (.iconst 2, 1) := by decide +kernel
theorem dX5_addGap_100 : decode cX5_addGap 100 = .ok (.iload 4, 2) := by decide +kernel
theorem dX5_addGap_102 : decode cX5_addGap 102 = .ok (.imul, 1) := by decide +kernel
theorem dX5_addGap_103 : decode cX5_addGap 103 = .ok (.iadd, 1) := by decide +kernel
theorem dX5_addGap_104 : decode cX5_addGap 104 = .ok (.iload_n 2, 1) := by decide +kernel
theorem dX5_addGap_105 : decode cX5_addGap 105 = .ok (.iastore, 1) := by decide +kernel
theorem dX5_addGap_106 : decode cX5_addGap 106 = .ok (.aload_n 0, 1) := by decide +kernel
theorem dX5_addGap_107 : decode cX5_addGap 107 = .ok (.getfield 7, 3) := by decide +kernel
theorem dX5_addGap_110 : decode cX5_addGap 110 = .ok (.iconst 0, 1) := by decide +kernel
theorem dX5_addGap_111 : decode cX5_addGap 111 = .ok (.bipush 7, 2) := by decide +kernel
theorem dX5_addGap_113 : decode cX5_addGap 113 = .ok (.iload_n 1, 1) := by decide +kernel
theorem dX5_addGap_114 : decode cX5_addGap 114 = .ok (.imul, 1) := by decide +kernel
theorem dX5_addGap_115 : decode cX5_addGap 115 = .ok (.iadd, 1) := by decide +kernel
theorem dX5_addGap_116 : decode cX5_addGap 116 = .ok (.iconst 2, 1) := by decide +kernel
theorem dX5_addGap_117 : decode cX5_addGap 117 = .ok (.iadd, 1) := by decide +kernel
theorem dX5_addGap_118 : decode cX5_addGap 118 = .ok (.iconst 2, 1) := by decide +kernel
theorem dX5_addGap_119 : decode cX5_addGap 119 = .ok (.iload 4, 2) := by decide +kernel
theorem dX5_addGap_121 : decode cX5_addGap 121 = .ok (.imul, 1) := by decide +kernel
theorem dX5_addGap_122 : decode cX5_addGap 122 = .ok (.iadd, 1) := by decide +kernel
theorem dX5_addGap_123 : decode cX5_addGap 123 = .ok (.iload_n 3, 1) := by decide +kernel
theorem dX5_addGap_124 : decode cX5_addGap 124 = .ok (.iastore, 1) := by decide +kernel
theorem dX5_addGap_125 : decode cX5_addGap 125 = .ok (.aload_n 0, 1) := by decide +kernel
theorem dX5_addGap_126 : decode cX5_addGap 126 = .ok (.getfield 7, 3) := by decide +kernel
theorem dX5_addGap_129 : decode cX5_addGap 129 = .ok (.iconst 0, 1) := by decide +kernel
theorem dX5_addGap_130 : decode cX5_addGap 130 = .ok (.bipush 7, 2) := by decide +kernel
theorem dX5_addGap_132 : decode cX5_addGap 132 = .ok (.iload_n 1, 1) := by decide +kernel
theorem dX5_addGap_133 : decode cX5_addGap 133 = .ok (.imul, 1) := by decide +kernel
theorem dX5_addGap_134 : decode cX5_addGap 134 = .ok (.iadd, 1) := by decide +kernel
theorem dX5_addGap_135 : decode cX5_addGap 135 = .ok (.iload 4, 2) := by decide +kernel
theorem dX5_addGap_137 : decode cX5_addGap 137 = .ok (.iconst 1, 1) := by decide +kernel
theorem dX5_addGap_138 : decode cX5_addGap 138 = .ok (.iadd, 1) := by decide +kernel
theorem dX5_addGap_139 : decode cX5_addGap 139 = .ok (.iastore, 1) := by decide +kernel
theorem dX5_addGap_140 : decode cX5_addGap 140 = .ok (.iload 4, 2) := by decide +kernel
theorem dX5_addGap_142 : decode cX5_addGap 142 = .ok (.iconst 1, 1) := by decide +kernel
theorem dX5_addGap_143 : decode cX5_addGap 143 = .ok (.iadd, 1) := by decide +kernel
theorem dX5_addGap_144 : decode cX5_addGap 144 = .ok (.ireturn, 1) := by decide +kernel
set_option maxRecDepth 20000 in
theorem ggX5_gapCount_X5_isTown : GoodIn wsX5_gapCount wsX5_isTown := goodIn_r _ [5, 6, 7, 4, 8] (by decide +kernel) (by decide +kernel)
set_option maxRecDepth 20000 in
theorem gX5_gapCount_X5_isTown : GoodIn wsX5_gapCount (va_wsS RX5 47 yX5_isTown wsX5_isTown) := goodIn_app (goodIn_of _ (by decide +kernel)) ggX5_gapCount_X5_isTown
set_option maxRecDepth 20000 in
theorem ggX5_gapCount_X5_gaps : GoodIn wsX5_gapCount wsX5_gaps := goodIn_r _ [12, 13, 18, 19, 20, 21, 22, 23, 24, 25, 26, 27] (by decide +kernel) (by decide +kernel)
set_option maxRecDepth 20000 in
theorem gX5_gapCount_X5_gaps : GoodIn wsX5_gapCount (wsV RX5 51 RX5 yX5_gaps wsX5_gaps) := goodIn_app (goodIn_of _ (by decide +kernel)) ggX5_gapCount_X5_gaps
set_option maxRecDepth 20000 in
theorem ggX5_gapCount_X5_fails : GoodIn wsX5_gapCount wsX5_fails := goodIn_r _ [17, 1, 18, 19, 20, 21, 22, 23, 24, 25, 26, 27] (by decide +kernel) (by decide +kernel)
set_option maxRecDepth 20000 in
theorem gX5_gapCount_X5_fails : GoodIn wsX5_gapCount (wsV RX5 40 RX5 yX5_fails wsX5_fails) := goodIn_app (goodIn_of _ (by decide +kernel)) ggX5_gapCount_X5_fails
theorem dX5_gapCount_0 : decode cX5_gapCount 0 = .ok (.aload_n 0, 1) := by decide +kernel
theorem dX5_gapCount_1 : decode cX5_gapCount 1 = .ok (.iconst 0, 1) := by decide +kernel
theorem dX5_gapCount_2 : decode cX5_gapCount 2 = .ok (.putfield 29, 3) := by decide +kernel
theorem dX5_gapCount_5 : decode cX5_gapCount 5 = .ok (.iload_n 1, 1) := by decide +kernel
theorem dX5_gapCount_6 : decode cX5_gapCount 6 = .ok (.invokestatic 47, 3) := by decide +kernel
theorem dX5_gapCount_9 : decode cX5_gapCount 9 = .ok (.ifCond .eq 11, 3) := by decide +kernel
theorem dX5_gapCount_12 : decode cX5_gapCount 12 = .ok (.aload_n 0, 1) := by decide +kernel
theorem dX5_gapCount_13 : decode cX5_gapCount 13 = .ok (.iload_n 1, 1) := by decide +kernel
theorem dX5_gapCount_14 : decode cX5_gapCount 14 = .ok (.invokevirtual 51, 3) := by decide +kernel
theorem dX5_gapCount_17 : decode cX5_gapCount 17 = .ok (.goto 8, 3) := by decide +kernel
theorem dX5_gapCount_20 : decode cX5_gapCount 20 = .ok (.aload_n 0, 1) := by decide +kernel
theorem dX5_gapCount_21 : decode cX5_gapCount 21 = .ok (.iconst 1, 1) := by decide +kernel
theorem dX5_gapCount_22 : decode cX5_gapCount 22 = .ok (.invokevirtual 40, 3) := by decide +kernel
theorem dX5_gapCount_25 : decode cX5_gapCount 25 = .ok (.ireturn, 1) := by decide +kernel
set_option maxRecDepth 20000 in
theorem ggX5_gapDay_X5_isTown : GoodIn wsX5_gapDay wsX5_isTown := goodIn_r _ [5, 6, 7, 4, 8] (by decide +kernel) (by decide +kernel)
set_option maxRecDepth 20000 in
theorem gX5_gapDay_X5_isTown : GoodIn wsX5_gapDay (va_wsS RX5 47 yX5_isTown wsX5_isTown) := goodIn_app (goodIn_of _ (by decide +kernel)) ggX5_gapDay_X5_isTown
set_option maxRecDepth 20000 in
theorem ggX5_gapDay_X5_gaps : GoodIn wsX5_gapDay wsX5_gaps := goodIn_r _ [12, 13, 22, 23, 24, 25, 26, 27, 28, 29, 30, 31] (by decide +kernel) (by decide +kernel)
set_option maxRecDepth 20000 in
theorem gX5_gapDay_X5_gaps : GoodIn wsX5_gapDay (wsV RX5 51 RX5 yX5_gaps wsX5_gaps) := goodIn_app (goodIn_of _ (by decide +kernel)) ggX5_gapDay_X5_gaps
set_option maxRecDepth 20000 in
theorem ggX5_gapDay_X5_in : GoodIn wsX5_gapDay wsX5_in := goodIn_r _ [8] (by decide +kernel) (by decide +kernel)
set_option maxRecDepth 20000 in
theorem gX5_gapDay_X5_in : GoodIn wsX5_gapDay (va_wsS RX5 33 yX5_in wsX5_in) := goodIn_app (goodIn_of _ (by decide +kernel)) ggX5_gapDay_X5_in
set_option maxRecDepth 20000 in
theorem ggX5_gapDay_X5_gap : GoodIn wsX5_gapDay wsX5_gap := goodIn_r _ [17, 13, 22, 23, 24, 25, 26, 27, 28, 29, 30, 31] (by decide +kernel) (by decide +kernel)
set_option maxRecDepth 20000 in
theorem gX5_gapDay_X5_gap : GoodIn wsX5_gapDay (wsV RX5 54 RX5 yX5_gap wsX5_gap) := goodIn_app (goodIn_of _ (by decide +kernel)) ggX5_gapDay_X5_gap
set_option maxRecDepth 20000 in
theorem ggX5_gapDay_X5_fails : GoodIn wsX5_gapDay wsX5_fails := goodIn_r _ [21, 1, 22, 23, 24, 25, 26, 27, 28, 29, 30, 31] (by decide +kernel) (by decide +kernel)
set_option maxRecDepth 20000 in
theorem gX5_gapDay_X5_fails : GoodIn wsX5_gapDay (wsV RX5 40 RX5 yX5_fails wsX5_fails) := goodIn_app (goodIn_of _ (by decide +kernel)) ggX5_gapDay_X5_fails
theorem dX5_gapDay_0 : decode cX5_gapDay 0 = .ok (.aload_n 0, 1) := by decide +kernel
theorem dX5_gapDay_1 : decode cX5_gapDay 1 = .ok (.iconst 0, 1) := by decide +kernel
theorem dX5_gapDay_2 : decode cX5_gapDay 2 = .ok (.putfield 29, 3) := by decide +kernel
theorem dX5_gapDay_5 : decode cX5_gapDay 5 = .ok (.iload_n 1, 1) := by decide +kernel
theorem dX5_gapDay_6 : decode cX5_gapDay 6 = .ok (.invokestatic 47, 3) := by decide +kernel
theorem dX5_gapDay_9 : decode cX5_gapDay 9 = .ok (.ifCond .eq 28, 3) := by decide +kernel
theorem dX5_gapDay_12 : decode cX5_gapDay 12 = .ok (.iload_n 2, 1) := by decide +kernel
theorem dX5_gapDay_13 : decode cX5_gapDay 13 = .ok (.iconst 0, 1) := by decide +kernel
theorem dX5_gapDay_14 : decode cX5_gapDay 14 = .ok (.aload_n 0, 1) := by decide +kernel
theorem dX5_gapDay_15 : decode cX5_gapDay 15 = .ok (.iload_n 1, 1) := by decide +kernel
theorem dX5_gapDay_16 : decode cX5_gapDay 16 = .ok (.invokevirtual 51, 3) := by decide +kernel
theorem dX5_gapDay_19 : decode cX5_gapDay 19 = .ok (.iconst 1, 1) := by decide +kernel
theorem dX5_gapDay_20 : decode cX5_gapDay 20 = .ok (.isub, 1) := by decide +kernel
theorem dX5_gapDay_21 : decode cX5_gapDay 21 = .ok (.invokestatic 33, 3) := by decide +kernel
theorem dX5_gapDay_24 : decode cX5_gapDay 24 = .ok (.ifCond .eq 13, 3) := by decide +kernel
theorem dX5_gapDay_27 : decode cX5_gapDay 27 = .ok (.aload_n 0, 1) := by decide +kernel
theorem dX5_gapDay_28 : decode cX5_gapDay 28 = .ok (.iload_n 1, 1) := by decide +kernel
theorem dX5_gapDay_29 : decode cX5_gapDay 29 = .ok (.iload_n 2, 1) := by decide +kernel
theorem dX5_gapDay_30 : decode cX5_gapDay 30 = .ok (.iconst 0, 1) := by decide +kernel
theorem dX5_gapDay_31 : decode cX5_gapDay 31 = .ok (.invokevirtual 54, 3) := by decide +kernel
theorem dX5_gapDay_34 : decode cX5_gapDay 34 = .ok (.goto 8, 3) := by decide +kernel
theorem dX5_gapDay_37 : decode cX5_gapDay 37 = .ok (.aload_n 0, 1) := by decide +kernel
theorem dX5_gapDay_38 : decode cX5_gapDay 38 = .ok (.iconst 1, 1) := by decide +kernel
theorem dX5_gapDay_39 : decode cX5_gapDay 39 = .ok (.invokevirtual 40, 3) := by decide +kernel
theorem dX5_gapDay_42 : decode cX5_gapDay 42 = .ok (.ireturn, 1) := by decide +kernel
set_option maxRecDepth 20000 in
theorem ggX5_gapLength_X5_isTown : GoodIn wsX5_gapLength wsX5_isTown := goodIn_r _ [5, 6, 7, 4, 8] (by decide +kernel) (by decide +kernel)
set_option maxRecDepth 20000 in
theorem gX5_gapLength_X5_isTown : GoodIn wsX5_gapLength (va_wsS RX5 47 yX5_isTown wsX5_isTown) := goodIn_app (goodIn_of _ (by decide +kernel)) ggX5_gapLength_X5_isTown
set_option maxRecDepth 20000 in
theorem ggX5_gapLength_X5_gaps : GoodIn wsX5_gapLength wsX5_gaps := goodIn_r _ [12, 13, 22, 23, 24, 25, 26, 27, 28, 29, 30, 31] (by decide +kernel) (by decide +kernel)
set_option maxRecDepth 20000 in
theorem gX5_gapLength_X5_gaps : GoodIn wsX5_gapLength (wsV RX5 51 RX5 yX5_gaps wsX5_gaps) := goodIn_app (goodIn_of _ (by decide +kernel)) ggX5_gapLength_X5_gaps
set_option maxRecDepth 20000 in
theorem ggX5_gapLength_X5_in : GoodIn wsX5_gapLength wsX5_in := goodIn_r _ [8] (by decide +kernel) (by decide +kernel)
set_option maxRecDepth 20000 in
theorem gX5_gapLength_X5_in : GoodIn wsX5_gapLength (va_wsS RX5 33 yX5_in wsX5_in) := goodIn_app (goodIn_of _ (by decide +kernel)) ggX5_gapLength_X5_in
set_option maxRecDepth 20000 in
theorem ggX5_gapLength_X5_gap : GoodIn wsX5_gapLength wsX5_gap := goodIn_r _ [17, 13, 22, 23, 24, 25, 26, 27, 28, 29, 30, 31] (by decide +kernel) (by decide +kernel)
set_option maxRecDepth 20000 in
theorem gX5_gapLength_X5_gap : GoodIn wsX5_gapLength (wsV RX5 54 RX5 yX5_gap wsX5_gap) := goodIn_app (goodIn_of _ (by decide +kernel)) ggX5_gapLength_X5_gap
set_option maxRecDepth 20000 in
theorem ggX5_gapLength_X5_fails : GoodIn wsX5_gapLength wsX5_fails := goodIn_r _ [21, 1, 22, 23, 24, 25, 26, 27, 28, 29, 30, 31] (by decide +kernel) (by decide +kernel)
set_option maxRecDepth 20000 in
theorem gX5_gapLength_X5_fails : GoodIn wsX5_gapLength (wsV RX5 40 RX5 yX5_fails wsX5_fails) := goodIn_app (goodIn_of _ (by decide +kernel)) ggX5_gapLength_X5_fails
theorem dX5_gapLength_0 : decode cX5_gapLength 0 = .ok (.aload_n 0, 1) := by decide +kernel
theorem dX5_gapLength_1 : decode cX5_gapLength 1 = .ok (.iconst 0, 1) := by decide +kernel
theorem dX5_gapLength_2 : decode cX5_gapLength 2 = .ok (.putfield 29, 3) := by decide +kernel
theorem dX5_gapLength_5 : decode cX5_gapLength 5 = .ok (.iload_n 1, 1) := by decide +kernel
theorem dX5_gapLength_6 : decode cX5_gapLength 6 = .ok (.invokestatic 47, 3) := by decide +kernel
theorem dX5_gapLength_9 : decode cX5_gapLength 9 = .ok (.ifCond .eq 28, 3) := by decide +kernel
theorem dX5_gapLength_12 : decode cX5_gapLength 12 = .ok (.iload_n 2, 1) := by decide +kernel
theorem dX5_gapLength_13 : decode cX5_gapLength 13 = .ok (.iconst 0, 1) := by decide +kernel
theorem dX5_gapLength_14 : decode cX5_gapLength 14 = .ok (.aload_n 0, 1) := by decide +kernel
theorem dX5_gapLength_15 : decode cX5_gapLength 15 = .ok (.iload_n 1, 1) := by decide +kernel
theorem dX5_gapLength_16 : decode cX5_gapLength 16 = .ok (.invokevirtual 51, 3) := by decide +kernel
theorem dX5_gapLength_19 : decode cX5_gapLength 19 = .ok (.iconst 1, 1) := by decide +kernel
theorem dX5_gapLength_20 : decode cX5_gapLength 20 = .ok (.isub, 1) := by decide +kernel
theorem dX5_gapLength_21 : decode cX5_gapLength 21 = .ok (.invokestatic 33, 3) := by decide +kernel
theorem dX5_gapLength_24 : decode cX5_gapLength 24 = .ok (.ifCond .eq 13, 3) := by decide +kernel
theorem dX5_gapLength_27 : decode cX5_gapLength 27 = .ok (.aload_n 0, 1) := by decide +kernel
theorem dX5_gapLength_28 : decode cX5_gapLength 28 = .ok (.iload_n 1, 1) := by decide +kernel
theorem dX5_gapLength_29 : decode cX5_gapLength 29 = .ok (.iload_n 2, 1) := by decide +kernel
theorem dX5_gapLength_30 : decode cX5_gapLength 30 = .ok (.iconst 1, 1) := by decide +kernel
theorem dX5_gapLength_31 : decode cX5_gapLength 31 = .ok (.invokevirtual 54, 3) := by decide +kernel
theorem dX5_gapLength_34 : decode cX5_gapLength 34 = .ok (.goto 8, 3) := by decide +kernel
theorem dX5_gapLength_37 : decode cX5_gapLength 37 = .ok (.aload_n 0, 1) := by decide +kernel
theorem dX5_gapLength_38 : decode cX5_gapLength 38 = .ok (.iconst 1, 1) := by decide +kernel
theorem dX5_gapLength_39 : decode cX5_gapLength 39 = .ok (.invokevirtual 40, 3) := by decide +kernel
theorem dX5_gapLength_42 : decode cX5_gapLength 42 = .ok (.ireturn, 1) := by decide +kernel
theorem dX5_lengthOf_0 : decode cX5_lengthOf 0 = .ok (.iload_n 0, 1) := by decide +kernel
theorem dX5_lengthOf_1 : decode cX5_lengthOf 1 = .ok (.iconst 1, 1) := by decide +kernel
theorem dX5_lengthOf_2 : decode cX5_lengthOf 2 = .ok (.if_icmp .ne 8, 3) := by decide +kernel
theorem dX5_lengthOf_5 : decode cX5_lengthOf 5 = .ok (.bipush 28, 2) := by decide +kernel
theorem dX5_lengthOf_7 : decode cX5_lengthOf 7 = .ok (.goto 17, 3) := by decide +kernel
theorem dX5_lengthOf_10 : decode cX5_lengthOf 10 = .ok (.iload_n 1, 1) := by decide +kernel
theorem dX5_lengthOf_11 : decode cX5_lengthOf 11 = .ok (.iconst 2, 1) := by decide +kernel
theorem dX5_lengthOf_12 : decode cX5_lengthOf 12 = .ok (.irem, 1) := by decide +kernel
theorem dX5_lengthOf_13 : decode cX5_lengthOf 13 = .ok (.iconst 1, 1) := by decide +kernel
theorem dX5_lengthOf_14 : decode cX5_lengthOf 14 = .ok (.if_icmp .ne 8, 3) := by decide +kernel
theorem dX5_lengthOf_17 : decode cX5_lengthOf 17 = .ok (.bipush 30, 2) := by decide +kernel
theorem dX5_lengthOf_19 : decode cX5_lengthOf 19 = .ok (.goto 5, 3) := by decide +kernel
theorem dX5_lengthOf_22 : decode cX5_lengthOf 22 = .ok (.bipush 31, 2) := by decide +kernel
theorem dX5_lengthOf_24 : decode cX5_lengthOf 24 = .ok (.ireturn, 1) := by decide +kernel
set_option maxRecDepth 20000 in
theorem ggX5_daysAhead_X5_lengthOf : GoodIn wsX5_daysAhead wsX5_lengthOf := goodIn_r _ [4] (by decide +kernel) (by decide +kernel)
set_option maxRecDepth 20000 in
theorem gX5_daysAhead_X5_lengthOf : GoodIn wsX5_daysAhead (va_wsS RX5 58 yX5_lengthOf wsX5_lengthOf) := goodIn_app (goodIn_of _ (by decide +kernel)) ggX5_daysAhead_X5_lengthOf
theorem dX5_daysAhead_0 : decode cX5_daysAhead 0 = .ok (.iconst 0, 1) := by decide +kernel
theorem dX5_daysAhead_1 : decode cX5_daysAhead 1 = .ok (.istore_n 2, 1) := by decide +kernel
theorem dX5_daysAhead_2 : decode cX5_daysAhead 2 = .ok (.iconst 1, 1) := by decide +kernel
theorem dX5_daysAhead_3 : decode cX5_daysAhead 3 = .ok (.istore_n 3, 1) := by decide +kernel
theorem dX5_daysAhead_4 : decode cX5_daysAhead 4 = .ok (.iload_n 3, 1) := by decide +kernel
theorem dX5_daysAhead_5 : decode cX5_daysAhead 5 = .ok (.iload_n 1, 1) := by decide +kernel
theorem dX5_daysAhead_6 : decode cX5_daysAhead 6 = .ok (.if_icmp .ge 17, 3) := by decide +kernel
theorem dX5_daysAhead_9 : decode cX5_daysAhead 9 = .ok (.iload_n 2, 1) := by decide +kernel
theorem dX5_daysAhead_10 : decode cX5_daysAhead 10 = .ok (.iload_n 0, 1) := by decide +kernel
theorem dX5_daysAhead_11 : decode cX5_daysAhead 11 = .ok (.iload_n 3, 1) := by decide +kernel
theorem dX5_daysAhead_12 : decode cX5_daysAhead 12 = .ok (.invokestatic 58, 3) := by decide +kernel
theorem dX5_daysAhead_15 : decode cX5_daysAhead 15 = .ok (.iadd, 1) := by decide +kernel
theorem dX5_daysAhead_16 : decode cX5_daysAhead 16 = .ok (.istore_n 2, 1) := by decide +kernel
theorem dX5_daysAhead_17 : decode cX5_daysAhead 17 = .ok (.iinc 3 1, 3) := by decide +kernel
theorem dX5_daysAhead_20 : decode cX5_daysAhead 20 = .ok (.goto (-16), 3) := by decide +kernel
theorem dX5_daysAhead_23 : decode cX5_daysAhead 23 = .ok (.iload_n 2, 1) := by decide +kernel
theorem dX5_daysAhead_24 : decode cX5_daysAhead 24 = .ok (.ireturn, 1) := by decide +kernel
set_option maxRecDepth 20000 in
theorem ggX5_yearLength_X5_daysAhead : GoodIn wsX5_yearLength wsX5_daysAhead := goodIn_r _ [4, 5, 6, 3, 7] (by decide +kernel) (by decide +kernel)
set_option maxRecDepth 20000 in
theorem gX5_yearLength_X5_daysAhead : GoodIn wsX5_yearLength (va_wsS RX5 62 yX5_daysAhead wsX5_daysAhead) := goodIn_app (goodIn_of _ (by decide +kernel)) ggX5_yearLength_X5_daysAhead
theorem dX5_yearLength_0 : decode cX5_yearLength 0 = .ok (.iload_n 0, 1) := by decide +kernel
theorem dX5_yearLength_1 : decode cX5_yearLength 1 = .ok (.bipush 13, 2) := by decide +kernel
theorem dX5_yearLength_3 : decode cX5_yearLength 3 = .ok (.invokestatic 62, 3) := by decide +kernel
theorem dX5_yearLength_6 : decode cX5_yearLength 6 = .ok (.ireturn, 1) := by decide +kernel
set_option maxRecDepth 20000 in
theorem ggX5_monthLength_X5_isTown : GoodIn wsX5_monthLength wsX5_isTown := goodIn_r _ [5, 6, 7, 4, 8] (by decide +kernel) (by decide +kernel)
set_option maxRecDepth 20000 in
theorem gX5_monthLength_X5_isTown : GoodIn wsX5_monthLength (va_wsS RX5 47 yX5_isTown wsX5_isTown) := goodIn_app (goodIn_of _ (by decide +kernel)) ggX5_monthLength_X5_isTown
set_option maxRecDepth 20000 in
theorem ggX5_monthLength_X5_fails : GoodIn wsX5_monthLength wsX5_fails := goodIn_r _ [12, 1, 16, 17, 18, 19, 20, 21, 22, 23, 24, 25] (by decide +kernel) (by decide +kernel)
set_option maxRecDepth 20000 in
theorem gX5_monthLength_X5_fails : GoodIn wsX5_monthLength (wsV RX5 40 RX5 yX5_fails wsX5_fails) := goodIn_app (goodIn_of _ (by decide +kernel)) ggX5_monthLength_X5_fails
set_option maxRecDepth 20000 in
theorem ggX5_monthLength_X5_in : GoodIn wsX5_monthLength wsX5_in := goodIn_r _ [8] (by decide +kernel) (by decide +kernel)
set_option maxRecDepth 20000 in
theorem gX5_monthLength_X5_in : GoodIn wsX5_monthLength (va_wsS RX5 33 yX5_in wsX5_in) := goodIn_app (goodIn_of _ (by decide +kernel)) ggX5_monthLength_X5_in
set_option maxRecDepth 20000 in
theorem ggX5_monthLength_X5_lengthOf : GoodIn wsX5_monthLength wsX5_lengthOf := goodIn_r _ [15] (by decide +kernel) (by decide +kernel)
set_option maxRecDepth 20000 in
theorem gX5_monthLength_X5_lengthOf : GoodIn wsX5_monthLength (va_wsS RX5 58 yX5_lengthOf wsX5_lengthOf) := goodIn_app (goodIn_of _ (by decide +kernel)) ggX5_monthLength_X5_lengthOf
theorem dX5_monthLength_0 : decode cX5_monthLength 0 = .ok (.aload_n 0, 1) := by decide +kernel
theorem dX5_monthLength_1 : decode cX5_monthLength 1 = .ok (.iconst 0, 1) := by decide +kernel
theorem dX5_monthLength_2 : decode cX5_monthLength 2 = .ok (.putfield 29, 3) := by decide +kernel
theorem dX5_monthLength_5 : decode cX5_monthLength 5 = .ok (.iload_n 1, 1) := by decide +kernel
theorem dX5_monthLength_6 : decode cX5_monthLength 6 = .ok (.invokestatic 47, 3) := by decide +kernel
theorem dX5_monthLength_9 : decode cX5_monthLength 9 = .ok (.ifCond .ne 9, 3) := by decide +kernel
theorem dX5_monthLength_12 : decode cX5_monthLength 12 = .ok (.aload_n 0, 1) := by decide +kernel
theorem dX5_monthLength_13 : decode cX5_monthLength 13 = .ok (.iconst 1, 1) := by decide +kernel
theorem dX5_monthLength_14 : decode cX5_monthLength 14 = .ok (.invokevirtual 40, 3) := by decide +kernel
theorem dX5_monthLength_17 : decode cX5_monthLength 17 = .ok (.ireturn, 1) := by decide +kernel
theorem dX5_monthLength_18 : decode cX5_monthLength 18 = .ok (.iload_n 2, 1) := by decide +kernel
theorem dX5_monthLength_19 : decode cX5_monthLength 19 = .ok (.iconst 1, 1) := by decide +kernel
theorem dX5_monthLength_20 : decode cX5_monthLength 20 = .ok (.bipush 12, 2) := by decide +kernel
theorem dX5_monthLength_22 : decode cX5_monthLength 22 = .ok (.invokestatic 33, 3) := by decide +kernel
theorem dX5_monthLength_25 : decode cX5_monthLength 25 = .ok (.ifCond .eq 11, 3) := by decide +kernel
theorem dX5_monthLength_28 : decode cX5_monthLength 28 = .ok (.iload_n 1, 1) := by decide +kernel
theorem dX5_monthLength_29 : decode cX5_monthLength 29 = .ok (.iload_n 2, 1) := by decide +kernel
theorem dX5_monthLength_30 : decode cX5_monthLength 30 = .ok (.invokestatic 58, 3) := by decide +kernel
theorem dX5_monthLength_33 : decode cX5_monthLength 33 = .ok (.goto 8, 3) := by decide +kernel
theorem dX5_monthLength_36 : decode cX5_monthLength 36 = .ok (.aload_n 0, 1) := by decide +kernel
theorem dX5_monthLength_37 : decode cX5_monthLength 37 = .ok (.iconst 2, 1) := by decide +kernel
theorem dX5_monthLength_38 : decode cX5_monthLength 38 = .ok (.invokevirtual 40, 3) := by decide +kernel
theorem dX5_monthLength_41 : decode cX5_monthLength 41 = .ok (.ireturn, 1) := by decide +kernel
set_option maxRecDepth 20000 in
theorem ggX5_calendar_X5_gaps : GoodIn wsX5_calendar wsX5_gaps := goodIn_r _ [5, 6, 11, 12, 13, 14, 15, 16, 17, 18, 19, 20] (by decide +kernel) (by decide +kernel)
set_option maxRecDepth 20000 in
theorem gX5_calendar_X5_gaps : GoodIn wsX5_calendar (wsV RX5 51 RX5 yX5_gaps wsX5_gaps) := goodIn_app (goodIn_of _ (by decide +kernel)) ggX5_calendar_X5_gaps
set_option maxRecDepth 20000 in
theorem ggX5_calendar_X5_gap : GoodIn wsX5_calendar wsX5_gap := goodIn_r _ [10, 6, 11, 12, 13, 14, 15, 16, 17, 18, 19, 20] (by decide +kernel) (by decide +kernel)
set_option maxRecDepth 20000 in
theorem gX5_calendar_X5_gap : GoodIn wsX5_calendar (wsV RX5 54 RX5 yX5_gap wsX5_gap) := goodIn_app (goodIn_of _ (by decide +kernel)) ggX5_calendar_X5_gap
theorem dX5_calendar_0 : decode cX5_calendar 0 = .ok (.iload_n 2, 1) := by decide +kernel
theorem dX5_calendar_1 : decode cX5_calendar 1 = .ok (.istore_n 3, 1) := by decide +kernel
theorem dX5_calendar_2 : decode cX5_calendar 2 = .ok (.iconst 0, 1) := by decide +kernel
theorem dX5_calendar_3 : decode cX5_calendar 3 = .ok (.istore 4, 2) := by decide +kernel
theorem dX5_calendar_5 : decode cX5_calendar 5 = .ok (.iload 4, 2) := by decide +kernel
theorem dX5_calendar_7 : decode cX5_calendar 7 = .ok (.aload_n 0, 1) := by decide +kernel
theorem dX5_calendar_8 : decode cX5_calendar 8 = .ok (.iload_n 1, 1) := by decide +kernel
theorem dX5_calendar_9 : decode cX5_calendar 9 = .ok (.invokevirtual 51, 3) := by decide +kernel
theorem dX5_calendar_12 : decode cX5_calendar 12 = .ok (.if_icmp .ge 36, 3) := by decide +kernel
theorem dX5_calendar_15 : decode cX5_calendar 15 = .ok (.iload_n 3, 1) := by decide +kernel
theorem dX5_calendar_16 : decode cX5_calendar 16 = .ok (.iload_n 2, 1) := by decide +kernel
theorem dX5_calendar_17 : decode cX5_calendar 17 = .ok (.aload_n 0, 1) := by decide +kernel
theorem dX5_calendar_18 : decode cX5_calendar 18 = .ok (.iload_n 1, 1) := by decide +kernel
theorem dX5_calendar_19 : decode cX5_calendar 19 = .ok (.iload 4, 2) := by decide +kernel
theorem dX5_calendar_21 : decode cX5_calendar 21 = .ok (.iconst 0, 1) := by decide +kernel
theorem dX5_calendar_22 : decode cX5_calendar 22 = .ok (.invokevirtual 54, 3) := by decide +kernel
theorem dX5_calendar_25 : decode cX5_calendar 25 = .ok (.if_icmp .le 14, 3) := by decide +kernel
theorem dX5_calendar_28 : decode cX5_calendar 28 = .ok (.aload_n 0, 1) := by decide +kernel
theorem dX5_calendar_29 : decode cX5_calendar 29 = .ok (.iload_n 1, 1) := by decide +kernel
theorem dX5_calendar_30 : decode cX5_calendar 30 = .ok (.iload 4, 2) := by decide +kernel
theorem dX5_calendar_32 : decode cX5_calendar 32 = .ok (.iconst 1, 1) := by decide +kernel
theorem dX5_calendar_33 : decode cX5_calendar 33 = .ok (.invokevirtual 54, 3) := by decide +kernel
theorem dX5_calendar_36 : decode cX5_calendar 36 = .ok (.goto 4, 3) := by decide +kernel
theorem dX5_calendar_39 : decode cX5_calendar 39 = .ok (.iconst 0, 1) := by decide +kernel
theorem dX5_calendar_40 : decode cX5_calendar 40 = .ok (.iadd, 1) := by decide +kernel
theorem dX5_calendar_41 : decode cX5_calendar 41 = .ok (.istore_n 3, 1) := by decide +kernel
theorem dX5_calendar_42 : decode cX5_calendar 42 = .ok (.iinc 4 1, 3) := by decide +kernel
theorem dX5_calendar_45 : decode cX5_calendar 45 = .ok (.goto (-40), 3) := by decide +kernel
theorem dX5_calendar_48 : decode cX5_calendar 48 = .ok (.iload_n 3, 1) := by decide +kernel
theorem dX5_calendar_49 : decode cX5_calendar 49 = .ok (.ireturn, 1) := by decide +kernel
set_option maxRecDepth 20000 in
theorem ggX5_firstDay_X5_gaps : GoodIn wsX5_firstDay wsX5_gaps := goodIn_r _ [5, 6, 11, 12, 13, 14, 15, 16, 17, 18, 19, 20] (by decide +kernel) (by decide +kernel)
set_option maxRecDepth 20000 in
theorem gX5_firstDay_X5_gaps : GoodIn wsX5_firstDay (wsV RX5 51 RX5 yX5_gaps wsX5_gaps) := goodIn_app (goodIn_of _ (by decide +kernel)) ggX5_firstDay_X5_gaps
set_option maxRecDepth 20000 in
theorem ggX5_firstDay_X5_gap : GoodIn wsX5_firstDay wsX5_gap := goodIn_r _ [10, 6, 11, 12, 13, 14, 15, 16, 17, 18, 19, 20] (by decide +kernel) (by decide +kernel)
set_option maxRecDepth 20000 in
theorem gX5_firstDay_X5_gap : GoodIn wsX5_firstDay (wsV RX5 54 RX5 yX5_gap wsX5_gap) := goodIn_app (goodIn_of _ (by decide +kernel)) ggX5_firstDay_X5_gap
theorem dX5_firstDay_0 : decode cX5_firstDay 0 = .ok (.iload_n 2, 1) := by decide +kernel
theorem dX5_firstDay_1 : decode cX5_firstDay 1 = .ok (.istore_n 3, 1) := by decide +kernel
theorem dX5_firstDay_2 : decode cX5_firstDay 2 = .ok (.iconst 0, 1) := by decide +kernel
theorem dX5_firstDay_3 : decode cX5_firstDay 3 = .ok (.istore 4, 2) := by decide +kernel
theorem dX5_firstDay_5 : decode cX5_firstDay 5 = .ok (.iconst 0, 1) := by decide +kernel
theorem dX5_firstDay_6 : decode cX5_firstDay 6 = .ok (.istore 5, 2) := by decide +kernel
theorem dX5_firstDay_8 : decode cX5_firstDay 8 = .ok (.iload 5, 2) := by decide +kernel
theorem dX5_firstDay_10 : decode cX5_firstDay 10 = .ok (.aload_n 0, 1) := by decide +kernel
theorem dX5_firstDay_11 : decode cX5_firstDay 11 = .ok (.iload_n 1, 1) := by decide +kernel
theorem dX5_firstDay_12 : decode cX5_firstDay 12 = .ok (.invokevirtual 51, 3) := by decide +kernel
theorem dX5_firstDay_15 : decode cX5_firstDay 15 = .ok (.if_icmp .ge 59, 3) := by decide +kernel
theorem dX5_firstDay_18 : decode cX5_firstDay 18 = .ok (.aload_n 0, 1) := by decide +kernel
theorem dX5_firstDay_19 : decode cX5_firstDay 19 = .ok (.iload_n 1, 1) := by decide +kernel
theorem dX5_firstDay_20 : decode cX5_firstDay 20 = .ok (.iload 5, 2) := by decide +kernel
theorem dX5_firstDay_22 : decode cX5_firstDay 22 = .ok (.iconst 0, 1) := by decide +kernel
theorem dX5_firstDay_23 : decode cX5_firstDay 23 = .ok (.invokevirtual 54, 3) := by decide +kernel
theorem dX5_firstDay_26 : decode cX5_firstDay 26 = .ok (.istore 6, 2) := by decide +kernel
theorem dX5_firstDay_28 : decode cX5_firstDay 28 = .ok (.iload_n 3, 1) := by decide +kernel
theorem dX5_firstDay_29 : decode cX5_firstDay 29 = .ok (.iload 6, 2) := by decide +kernel
theorem dX5_firstDay_31 : decode cX5_firstDay 31 = .ok (.if_icmp .le 37, 3) := by decide +kernel
theorem dX5_firstDay_34 : decode cX5_firstDay 34 = .ok (.iload 4, 2) := by decide +kernel
theorem dX5_firstDay_36 : decode cX5_firstDay 36 = .ok (.aload_n 0, 1) := by decide +kernel
theorem dX5_firstDay_37 : decode cX5_firstDay 37 = .ok (.iload_n 1, 1) := by decide +kernel
theorem dX5_firstDay_38 : decode cX5_firstDay 38 = .ok (.iload 5, 2) := by decide +kernel
theorem dX5_firstDay_40 : decode cX5_firstDay 40 = .ok (.iconst 1, 1) := by decide +kernel
theorem dX5_firstDay_41 : decode cX5_firstDay 41 = .ok (.invokevirtual 54, 3) := by decide +kernel
theorem dX5_firstDay_44 : decode cX5_firstDay 44 = .ok (.iadd, 1) := by decide +kernel
theorem dX5_firstDay_45 : decode cX5_firstDay 45 = .ok (.istore 4, 2) := by decide +kernel
theorem dX5_firstDay_47 : decode cX5_firstDay 47 = .ok (.iload_n 2, 1) := by decide +kernel
theorem dX5_firstDay_48 : decode cX5_firstDay 48 = .ok (.iload 4, 2) := by decide +kernel
theorem dX5_firstDay_50 : decode cX5_firstDay 50 = .ok (.isub, 1) := by decide +kernel
theorem dX5_firstDay_51 : decode cX5_firstDay 51 = .ok (.iload 6, 2) := by decide +kernel
theorem dX5_firstDay_53 : decode cX5_firstDay 53 = .ok (.if_icmp .le 10, 3) := by decide +kernel
theorem dX5_firstDay_56 : decode cX5_firstDay 56 = .ok (.iload_n 2, 1) := by decide +kernel
theorem dX5_firstDay_57 : decode cX5_firstDay 57 = .ok (.iload 4, 2) := by decide +kernel
theorem dX5_firstDay_59 : decode cX5_firstDay 59 = .ok (.isub, 1) := by decide +kernel
theorem dX5_firstDay_60 : decode cX5_firstDay 60 = .ok (.goto 7, 3) := by decide +kernel
theorem dX5_firstDay_63 : decode cX5_firstDay 63 = .ok (.iload 6, 2) := by decide +kernel
theorem dX5_firstDay_65 : decode cX5_firstDay 65 = .ok (.iconst 1, 1) := by decide +kernel
theorem dX5_firstDay_66 : decode cX5_firstDay 66 = .ok (.iadd, 1) := by decide +kernel
theorem dX5_firstDay_67 : decode cX5_firstDay 67 = .ok (.istore_n 3, 1) := by decide +kernel
theorem dX5_firstDay_68 : decode cX5_firstDay 68 = .ok (.iinc 5 1, 3) := by decide +kernel
theorem dX5_firstDay_71 : decode cX5_firstDay 71 = .ok (.goto (-63), 3) := by decide +kernel
theorem dX5_firstDay_74 : decode cX5_firstDay 74 = .ok (.iload_n 3, 1) := by decide +kernel
theorem dX5_firstDay_75 : decode cX5_firstDay 75 = .ok (.ireturn, 1) := by decide +kernel
set_option maxRecDepth 20000 in
theorem ggX5_yearAt_X5_calendar : GoodIn wsX5_yearAt wsX5_calendar := goodIn_r _ [5, 6, 7, 8, 4, 9, 10, 11, 12, 13, 14, 24, 25, 26, 27, 28, 29, 30, 31, 32, 33] (by decide +kernel) (by decide +kernel)
set_option maxRecDepth 20000 in
theorem gX5_yearAt_X5_calendar : GoodIn wsX5_yearAt (wsV RX5 65 RX5 yX5_calendar wsX5_calendar) := goodIn_app (goodIn_of _ (by decide +kernel)) ggX5_yearAt_X5_calendar
set_option maxRecDepth 20000 in
theorem ggX5_yearAt_X5_yearLength : GoodIn wsX5_yearAt wsX5_yearLength := goodIn_r _ [17, 18, 19, 4, 20, 21, 22, 23] (by decide +kernel) (by decide +kernel)
set_option maxRecDepth 20000 in
theorem gX5_yearAt_X5_yearLength : GoodIn wsX5_yearAt (va_wsS RX5 68 yX5_yearLength wsX5_yearLength) := goodIn_app (goodIn_of _ (by decide +kernel)) ggX5_yearAt_X5_yearLength
theorem dX5_yearAt_0 : decode cX5_yearAt 0 = .ok (.aload_n 0, 1) := by decide +kernel
theorem dX5_yearAt_1 : decode cX5_yearAt 1 = .ok (.iload_n 1, 1) := by decide +kernel
theorem dX5_yearAt_2 : decode cX5_yearAt 2 = .ok (.iload_n 2, 1) := by decide +kernel
theorem dX5_yearAt_3 : decode cX5_yearAt 3 = .ok (.invokevirtual 65, 3) := by decide +kernel
theorem dX5_yearAt_6 : decode cX5_yearAt 6 = .ok (.iload_n 1, 1) := by decide +kernel
theorem dX5_yearAt_7 : decode cX5_yearAt 7 = .ok (.invokestatic 68, 3) := by decide +kernel
theorem dX5_yearAt_10 : decode cX5_yearAt 10 = .ok (.idiv, 1) := by decide +kernel
theorem dX5_yearAt_11 : decode cX5_yearAt 11 = .ok (.iconst 1, 1) := by decide +kernel
theorem dX5_yearAt_12 : decode cX5_yearAt 12 = .ok (.iadd, 1) := by decide +kernel
theorem dX5_yearAt_13 : decode cX5_yearAt 13 = .ok (.ireturn, 1) := by decide +kernel
set_option maxRecDepth 20000 in
theorem ggX5_monthAt_X5_calendar : GoodIn wsX5_monthAt wsX5_calendar := goodIn_r _ [5, 6, 7, 8, 4, 9, 10, 11, 12, 13, 14, 24, 25, 26, 27, 28, 29, 30, 31, 32, 33] (by decide +kernel) (by decide +kernel)
set_option maxRecDepth 20000 in
theorem gX5_monthAt_X5_calendar : GoodIn wsX5_monthAt (wsV RX5 65 RX5 yX5_calendar wsX5_calendar) := goodIn_app (goodIn_of _ (by decide +kernel)) ggX5_monthAt_X5_calendar
set_option maxRecDepth 20000 in
theorem ggX5_monthAt_X5_yearLength : GoodIn wsX5_monthAt wsX5_yearLength := goodIn_r _ [17, 18, 19, 4, 20, 21, 22, 23] (by decide +kernel) (by decide +kernel)
set_option maxRecDepth 20000 in
theorem gX5_monthAt_X5_yearLength : GoodIn wsX5_monthAt (va_wsS RX5 68 yX5_yearLength wsX5_yearLength) := goodIn_app (goodIn_of _ (by decide +kernel)) ggX5_monthAt_X5_yearLength
set_option maxRecDepth 20000 in
theorem ggX5_monthAt_X5_daysAhead : GoodIn wsX5_monthAt wsX5_daysAhead := goodIn_r _ [20, 21, 22, 4, 23] (by decide +kernel) (by decide +kernel)
set_option maxRecDepth 20000 in
theorem gX5_monthAt_X5_daysAhead : GoodIn wsX5_monthAt (va_wsS RX5 62 yX5_daysAhead wsX5_daysAhead) := goodIn_app (goodIn_of _ (by decide +kernel)) ggX5_monthAt_X5_daysAhead
theorem dX5_monthAt_0 : decode cX5_monthAt 0 = .ok (.aload_n 0, 1) := by decide +kernel
theorem dX5_monthAt_1 : decode cX5_monthAt 1 = .ok (.iload_n 1, 1) := by decide +kernel
theorem dX5_monthAt_2 : decode cX5_monthAt 2 = .ok (.iload_n 2, 1) := by decide +kernel
theorem dX5_monthAt_3 : decode cX5_monthAt 3 = .ok (.invokevirtual 65, 3) := by decide +kernel
theorem dX5_monthAt_6 : decode cX5_monthAt 6 = .ok (.iload_n 1, 1) := by decide +kernel
theorem dX5_monthAt_7 : decode cX5_monthAt 7 = .ok (.invokestatic 68, 3) := by decide +kernel
theorem dX5_monthAt_10 : decode cX5_monthAt 10 = .ok (.irem, 1) := by decide +kernel
theorem dX5_monthAt_11 : decode cX5_monthAt 11 = .ok (.istore_n 3, 1) := by decide +kernel
theorem dX5_monthAt_12 : decode cX5_monthAt 12 = .ok (.iconst 1, 1) := by decide +kernel
theorem dX5_monthAt_13 : decode cX5_monthAt 13 = .ok (.istore 4, 2) := by decide +kernel
theorem dX5_monthAt_15 : decode cX5_monthAt 15 = .ok (.iload_n 3, 1) := by decide +kernel
theorem dX5_monthAt_16 : decode cX5_monthAt 16 = .ok (.iload_n 1, 1) := by decide +kernel
theorem dX5_monthAt_17 : decode cX5_monthAt 17 = .ok (.iload 4, 2) := by decide +kernel
theorem dX5_monthAt_19 : decode cX5_monthAt 19 = .ok (.iconst 1, 1) := by decide +kernel
theorem dX5_monthAt_20 : decode cX5_monthAt 20 = .ok (.iadd, 1) := by decide +kernel
theorem dX5_monthAt_21 : decode cX5_monthAt 21 = .ok (.invokestatic 62, 3) := by decide +kernel
theorem dX5_monthAt_24 : decode cX5_monthAt 24 = .ok (.if_icmp .lt 9, 3) := by decide +kernel
theorem dX5_monthAt_27 : decode cX5_monthAt 27 = .ok (.iinc 4 1, 3) := by decide +kernel
theorem dX5_monthAt_30 : decode cX5_monthAt 30 = .ok (.goto (-15), 3) := by decide +kernel
theorem dX5_monthAt_33 : decode cX5_monthAt 33 = .ok (.iload 4, 2) := by decide +kernel
theorem dX5_monthAt_35 : decode cX5_monthAt 35 = .ok (.ireturn, 1) := by decide +kernel
set_option maxRecDepth 20000 in
theorem ggX5_dayAt_X5_calendar : GoodIn wsX5_dayAt wsX5_calendar := goodIn_r _ [5, 6, 7, 8, 4, 9, 10, 11, 12, 13, 14, 28, 29, 30, 31, 32, 33, 34, 35, 36, 37] (by decide +kernel) (by decide +kernel)
set_option maxRecDepth 20000 in
theorem gX5_dayAt_X5_calendar : GoodIn wsX5_dayAt (wsV RX5 65 RX5 yX5_calendar wsX5_calendar) := goodIn_app (goodIn_of _ (by decide +kernel)) ggX5_dayAt_X5_calendar
set_option maxRecDepth 20000 in
theorem ggX5_dayAt_X5_yearLength : GoodIn wsX5_dayAt wsX5_yearLength := goodIn_r _ [17, 18, 19, 4, 20, 21, 22, 23] (by decide +kernel) (by decide +kernel)
set_option maxRecDepth 20000 in
theorem gX5_dayAt_X5_yearLength : GoodIn wsX5_dayAt (va_wsS RX5 68 yX5_yearLength wsX5_yearLength) := goodIn_app (goodIn_of _ (by decide +kernel)) ggX5_dayAt_X5_yearLength
set_option maxRecDepth 20000 in
theorem ggX5_dayAt_X5_monthAt : GoodIn wsX5_dayAt wsX5_monthAt := goodIn_r _ [27, 1, 2, 3, 4, 5, 6, 7, 8, 9, 10, 11, 12, 13, 14, 15, 16, 17, 18, 19, 20, 21, 22, 23, 28, 29, 30, 31, 32, 33, 34, 35, 36, 37] (by decide +kernel) (by decide +kernel)
set_option maxRecDepth 20000 in
theorem gX5_dayAt_X5_monthAt : GoodIn wsX5_dayAt (wsV RX5 71 RX5 yX5_monthAt wsX5_monthAt) := goodIn_app (goodIn_of _ (by decide +kernel)) ggX5_dayAt_X5_monthAt
set_option maxRecDepth 20000 in
theorem ggX5_dayAt_X5_daysAhead : GoodIn wsX5_dayAt wsX5_daysAhead := goodIn_r _ [20, 21, 22, 4, 23] (by decide +kernel) (by decide +kernel)
set_option maxRecDepth 20000 in
theorem gX5_dayAt_X5_daysAhead : GoodIn wsX5_dayAt (va_wsS RX5 62 yX5_daysAhead wsX5_daysAhead) := goodIn_app (goodIn_of _ (by decide +kernel)) ggX5_dayAt_X5_daysAhead
theorem dX5_dayAt_0 : decode cX5_dayAt 0 = .ok (.aload_n 0, 1) := by decide +kernel
theorem dX5_dayAt_1 : decode cX5_dayAt 1 = .ok (.iload_n 1, 1) := by decide +kernel
theorem dX5_dayAt_2 : decode cX5_dayAt 2 = .ok (.iload_n 2, 1) := by decide +kernel
theorem dX5_dayAt_3 : decode cX5_dayAt 3 = .ok (.invokevirtual 65, 3) := by decide +kernel
theorem dX5_dayAt_6 : decode cX5_dayAt 6 = .ok (.iload_n 1, 1) := by decide +kernel
theorem dX5_dayAt_7 : decode cX5_dayAt 7 = .ok (.invokestatic 68, 3) := by decide +kernel
theorem dX5_dayAt_10 : decode cX5_dayAt 10 = .ok (.irem, 1) := by decide +kernel
theorem dX5_dayAt_11 : decode cX5_dayAt 11 = .ok (.iload_n 1, 1) := by decide +kernel
theorem dX5_dayAt_12 : decode cX5_dayAt 12 = .ok (.aload_n 0, 1) := by decide +kernel
theorem dX5_dayAt_13 : decode cX5_dayAt 13 = .ok (.iload_n 1, 1) := by decide +kernel
theorem dX5_dayAt_14 : decode cX5_dayAt 14 = .ok (.iload_n 2, 1) := by decide +kernel
theorem dX5_dayAt_15 : decode cX5_dayAt 15 = .ok (.invokevirtual 71, 3) := by decide +kernel
theorem dX5_dayAt_18 : decode cX5_dayAt 18 = .ok (.invokestatic 62, 3) := by decide +kernel
theorem dX5_dayAt_21 : decode cX5_dayAt 21 = .ok (.isub, 1) := by decide +kernel
theorem dX5_dayAt_22 : decode cX5_dayAt 22 = .ok (.iconst 1, 1) := by decide +kernel
theorem dX5_dayAt_23 : decode cX5_dayAt 23 = .ok (.iadd, 1) := by decide +kernel
theorem dX5_dayAt_24 : decode cX5_dayAt 24 = .ok (.ireturn, 1) := by decide +kernel
set_option maxRecDepth 20000 in
theorem ggX5_dayOfMonth_X5_isTown : GoodIn wsX5_dayOfMonth wsX5_isTown := goodIn_r _ [5, 6, 7, 4, 8] (by decide +kernel) (by decide +kernel)
set_option maxRecDepth 20000 in
theorem gX5_dayOfMonth_X5_isTown : GoodIn wsX5_dayOfMonth (va_wsS RX5 47 yX5_isTown wsX5_isTown) := goodIn_app (goodIn_of _ (by decide +kernel)) ggX5_dayOfMonth_X5_isTown
set_option maxRecDepth 20000 in
theorem ggX5_dayOfMonth_X5_fails : GoodIn wsX5_dayOfMonth wsX5_fails := goodIn_r _ [12, 1, 43, 44, 45, 46, 47, 48, 49, 50, 51, 52] (by decide +kernel) (by decide +kernel)
set_option maxRecDepth 20000 in
theorem gX5_dayOfMonth_X5_fails : GoodIn wsX5_dayOfMonth (wsV RX5 40 RX5 yX5_fails wsX5_fails) := goodIn_app (goodIn_of _ (by decide +kernel)) ggX5_dayOfMonth_X5_fails
set_option maxRecDepth 20000 in
theorem ggX5_dayOfMonth_X5_in : GoodIn wsX5_dayOfMonth wsX5_in := goodIn_r _ [8] (by decide +kernel) (by decide +kernel)
set_option maxRecDepth 20000 in
theorem gX5_dayOfMonth_X5_in : GoodIn wsX5_dayOfMonth (va_wsS RX5 33 yX5_in wsX5_in) := goodIn_app (goodIn_of _ (by decide +kernel)) ggX5_dayOfMonth_X5_in
set_option maxRecDepth 20000 in
theorem ggX5_dayOfMonth_X5_dayAt : GoodIn wsX5_dayOfMonth wsX5_dayAt := goodIn_r _ [16, 17, 18, 19, 4, 20, 21, 22, 23, 24, 25, 26, 27, 28, 29, 30, 31, 32, 33, 34, 35, 36, 37, 38, 39, 40, 41, 42, 43, 44, 45, 46, 47, 48, 49, 50, 51, 52] (by decide +kernel) (by decide +kernel)
set_option maxRecDepth 20000 in
theorem gX5_dayOfMonth_X5_dayAt : GoodIn wsX5_dayOfMonth (wsV RX5 74 RX5 yX5_dayAt wsX5_dayAt) := goodIn_app (goodIn_of _ (by decide +kernel)) ggX5_dayOfMonth_X5_dayAt
theorem dX5_dayOfMonth_0 : decode cX5_dayOfMonth 0 = .ok (.aload_n 0, 1) := by decide +kernel
theorem dX5_dayOfMonth_1 : decode cX5_dayOfMonth 1 = .ok (.iconst 0, 1) := by decide +kernel
theorem dX5_dayOfMonth_2 : decode cX5_dayOfMonth 2 = .ok (.putfield 29, 3) := by decide +kernel
theorem dX5_dayOfMonth_5 : decode cX5_dayOfMonth 5 = .ok (.iload_n 1, 1) := by decide +kernel
theorem dX5_dayOfMonth_6 : decode cX5_dayOfMonth 6 = .ok (.invokestatic 47, 3) := by decide +kernel
theorem dX5_dayOfMonth_9 : decode cX5_dayOfMonth 9 = .ok (.ifCond .ne 9, 3) := by decide +kernel
theorem dX5_dayOfMonth_12 : decode cX5_dayOfMonth 12 = .ok (.aload_n 0, 1) := by decide +kernel
theorem dX5_dayOfMonth_13 : decode cX5_dayOfMonth 13 = .ok (.iconst 1, 1) := by decide +kernel
theorem dX5_dayOfMonth_14 : decode cX5_dayOfMonth 14 = .ok (.invokevirtual 40, 3) := by decide +kernel
theorem dX5_dayOfMonth_17 : decode cX5_dayOfMonth 17 = .ok (.ireturn, 1) := by decide +kernel
theorem dX5_dayOfMonth_18 : decode cX5_dayOfMonth 18 = .ok (.iload_n 2, 1) := by decide +kernel
theorem dX5_dayOfMonth_19 : decode cX5_dayOfMonth 19 = .ok (.iconst 0, 1) := by decide +kernel
theorem dX5_dayOfMonth_20 : decode cX5_dayOfMonth 20 = .ok (.sipush 20000, 3) := by decide +kernel
theorem dX5_dayOfMonth_23 : decode cX5_dayOfMonth 23 = .ok (.invokestatic 33, 3) := by decide +kernel
theorem dX5_dayOfMonth_26 : decode cX5_dayOfMonth 26 = .ok (.ifCond .eq 12, 3) := by decide +kernel
theorem dX5_dayOfMonth_29 : decode cX5_dayOfMonth 29 = .ok (.aload_n 0, 1) := by decide +kernel
theorem dX5_dayOfMonth_30 : decode cX5_dayOfMonth 30 = .ok (.iload_n 1, 1) := by decide +kernel
theorem dX5_dayOfMonth_31 : decode cX5_dayOfMonth 31 = .ok (.iload_n 2, 1) := by decide +kernel
theorem dX5_dayOfMonth_32 : decode cX5_dayOfMonth 32 = .ok (.invokevirtual 74, 3) := by decide +kernel
theorem dX5_dayOfMonth_35 : decode cX5_dayOfMonth 35 = .ok (.goto 8, 3) := by decide +kernel
theorem dX5_dayOfMonth_38 : decode cX5_dayOfMonth 38 = .ok (.aload_n 0, 1) := by decide +kernel
theorem dX5_dayOfMonth_39 : decode cX5_dayOfMonth 39 = .ok (.iconst 2, 1) := by decide +kernel
theorem dX5_dayOfMonth_40 : decode cX5_dayOfMonth 40 = .ok (.invokevirtual 40, 3) := by decide +kernel
theorem dX5_dayOfMonth_43 : decode cX5_dayOfMonth 43 = .ok (.ireturn, 1) := by decide +kernel
set_option maxRecDepth 20000 in
theorem ggX5_monthOf_X5_isTown : GoodIn wsX5_monthOf wsX5_isTown := goodIn_r _ [5, 6, 7, 4, 8] (by decide +kernel) (by decide +kernel)
set_option maxRecDepth 20000 in
theorem gX5_monthOf_X5_isTown : GoodIn wsX5_monthOf (va_wsS RX5 47 yX5_isTown wsX5_isTown) := goodIn_app (goodIn_of _ (by decide +kernel)) ggX5_monthOf_X5_isTown
set_option maxRecDepth 20000 in
theorem ggX5_monthOf_X5_fails : GoodIn wsX5_monthOf wsX5_fails := goodIn_r _ [12, 1, 39, 40, 41, 42, 43, 44, 45, 46, 47, 48] (by decide +kernel) (by decide +kernel)
set_option maxRecDepth 20000 in
theorem gX5_monthOf_X5_fails : GoodIn wsX5_monthOf (wsV RX5 40 RX5 yX5_fails wsX5_fails) := goodIn_app (goodIn_of _ (by decide +kernel)) ggX5_monthOf_X5_fails
set_option maxRecDepth 20000 in
theorem ggX5_monthOf_X5_in : GoodIn wsX5_monthOf wsX5_in := goodIn_r _ [8] (by decide +kernel) (by decide +kernel)
set_option maxRecDepth 20000 in
theorem gX5_monthOf_X5_in : GoodIn wsX5_monthOf (va_wsS RX5 33 yX5_in wsX5_in) := goodIn_app (goodIn_of _ (by decide +kernel)) ggX5_monthOf_X5_in
set_option maxRecDepth 20000 in
theorem ggX5_monthOf_X5_monthAt : GoodIn wsX5_monthOf wsX5_monthAt := goodIn_r _ [16, 17, 18, 19, 4, 20, 21, 22, 23, 24, 25, 26, 27, 28, 29, 30, 31, 32, 33, 34, 35, 36, 37, 38, 39, 40, 41, 42, 43, 44, 45, 46, 47, 48] (by decide +kernel) (by decide +kernel)
set_option maxRecDepth 20000 in
theorem gX5_monthOf_X5_monthAt : GoodIn wsX5_monthOf (wsV RX5 71 RX5 yX5_monthAt wsX5_monthAt) := goodIn_app (goodIn_of _ (by decide +kernel)) ggX5_monthOf_X5_monthAt
theorem dX5_monthOf_0 : decode cX5_monthOf 0 = .ok (.aload_n 0, 1) := by decide +kernel
theorem dX5_monthOf_1 : decode cX5_monthOf 1 = .ok (.iconst 0, 1) := by decide +kernel
theorem dX5_monthOf_2 : decode cX5_monthOf 2 = .ok (.putfield 29, 3) := by decide +kernel
theorem dX5_monthOf_5 : decode cX5_monthOf 5 = .ok (.iload_n 1, 1) := by decide +kernel
theorem dX5_monthOf_6 : decode cX5_monthOf 6 = .ok (.invokestatic 47, 3) := by decide +kernel
theorem dX5_monthOf_9 : decode cX5_monthOf 9 = .ok (.ifCond .ne 9, 3) := by decide +kernel
theorem dX5_monthOf_12 : decode cX5_monthOf 12 = .ok (.aload_n 0, 1) := by decide +kernel
theorem dX5_monthOf_13 : decode cX5_monthOf 13 = .ok (.iconst 1, 1) := by decide +kernel
theorem dX5_monthOf_14 : decode cX5_monthOf 14 = .ok (.invokevirtual 40, 3) := by decide +kernel
theorem dX5_monthOf_17 : decode cX5_monthOf 17 = .ok (.ireturn, 1) := by decide +kernel
theorem dX5_monthOf_18 : decode cX5_monthOf 18 = .ok (.iload_n 2, 1) := by decide +kernel
theorem dX5_monthOf_19 : decode cX5_monthOf 19 = .ok (.iconst 0, 1) := by decide +kernel
theorem dX5_monthOf_20 : decode cX5_monthOf 20 = .ok (.sipush 20000, 3) := by decide +kernel
theorem dX5_monthOf_23 : decode cX5_monthOf 23 = .ok (.invokestatic 33, 3) := by decide +kernel
theorem dX5_monthOf_26 : decode cX5_monthOf 26 = .ok (.ifCond .eq 12, 3) := by decide +kernel
theorem dX5_monthOf_29 : decode cX5_monthOf 29 = .ok (.aload_n 0, 1) := by decide +kernel
theorem dX5_monthOf_30 : decode cX5_monthOf 30 = .ok (.iload_n 1, 1) := by decide +kernel
theorem dX5_monthOf_31 : decode cX5_monthOf 31 = .ok (.iload_n 2, 1) := by decide +kernel
theorem dX5_monthOf_32 : decode cX5_monthOf 32 = .ok (.invokevirtual 71, 3) := by decide +kernel
theorem dX5_monthOf_35 : decode cX5_monthOf 35 = .ok (.goto 8, 3) := by decide +kernel
theorem dX5_monthOf_38 : decode cX5_monthOf 38 = .ok (.aload_n 0, 1) := by decide +kernel
theorem dX5_monthOf_39 : decode cX5_monthOf 39 = .ok (.iconst 2, 1) := by decide +kernel
theorem dX5_monthOf_40 : decode cX5_monthOf 40 = .ok (.invokevirtual 40, 3) := by decide +kernel
theorem dX5_monthOf_43 : decode cX5_monthOf 43 = .ok (.ireturn, 1) := by decide +kernel
set_option maxRecDepth 20000 in
theorem ggX5_yearOf_X5_isTown : GoodIn wsX5_yearOf wsX5_isTown := goodIn_r _ [5, 6, 7, 4, 8] (by decide +kernel) (by decide +kernel)
set_option maxRecDepth 20000 in
theorem gX5_yearOf_X5_isTown : GoodIn wsX5_yearOf (va_wsS RX5 47 yX5_isTown wsX5_isTown) := goodIn_app (goodIn_of _ (by decide +kernel)) ggX5_yearOf_X5_isTown
set_option maxRecDepth 20000 in
theorem ggX5_yearOf_X5_fails : GoodIn wsX5_yearOf wsX5_fails := goodIn_r _ [12, 1, 39, 40, 41, 42, 43, 44, 45, 46, 47, 48] (by decide +kernel) (by decide +kernel)
set_option maxRecDepth 20000 in
theorem gX5_yearOf_X5_fails : GoodIn wsX5_yearOf (wsV RX5 40 RX5 yX5_fails wsX5_fails) := goodIn_app (goodIn_of _ (by decide +kernel)) ggX5_yearOf_X5_fails
set_option maxRecDepth 20000 in
theorem ggX5_yearOf_X5_in : GoodIn wsX5_yearOf wsX5_in := goodIn_r _ [8] (by decide +kernel) (by decide +kernel)
set_option maxRecDepth 20000 in
theorem gX5_yearOf_X5_in : GoodIn wsX5_yearOf (va_wsS RX5 33 yX5_in wsX5_in) := goodIn_app (goodIn_of _ (by decide +kernel)) ggX5_yearOf_X5_in
set_option maxRecDepth 20000 in
theorem ggX5_yearOf_X5_yearAt : GoodIn wsX5_yearOf wsX5_yearAt := goodIn_r _ [16, 17, 18, 19, 4, 20, 21, 22, 23, 24, 25, 26, 27, 28, 29, 30, 31, 32, 33, 34, 35, 36, 37, 38, 39, 40, 41, 42, 43, 44, 45, 46, 47, 48] (by decide +kernel) (by decide +kernel)
set_option maxRecDepth 20000 in
theorem gX5_yearOf_X5_yearAt : GoodIn wsX5_yearOf (wsV RX5 77 RX5 yX5_yearAt wsX5_yearAt) := goodIn_app (goodIn_of _ (by decide +kernel)) ggX5_yearOf_X5_yearAt
theorem dX5_yearOf_0 : decode cX5_yearOf 0 = .ok (.aload_n 0, 1) := by decide +kernel
theorem dX5_yearOf_1 : decode cX5_yearOf 1 = .ok (.iconst 0, 1) := by decide +kernel
theorem dX5_yearOf_2 : decode cX5_yearOf 2 = .ok (.putfield 29, 3) := by decide +kernel
theorem dX5_yearOf_5 : decode cX5_yearOf 5 = .ok (.iload_n 1, 1) := by decide +kernel
theorem dX5_yearOf_6 : decode cX5_yearOf 6 = .ok (.invokestatic 47, 3) := by decide +kernel
theorem dX5_yearOf_9 : decode cX5_yearOf 9 = .ok (.ifCond .ne 9, 3) := by decide +kernel
theorem dX5_yearOf_12 : decode cX5_yearOf 12 = .ok (.aload_n 0, 1) := by decide +kernel
theorem dX5_yearOf_13 : decode cX5_yearOf 13 = .ok (.iconst 1, 1) := by decide +kernel
theorem dX5_yearOf_14 : decode cX5_yearOf 14 = .ok (.invokevirtual 40, 3) := by decide +kernel
theorem dX5_yearOf_17 : decode cX5_yearOf 17 = .ok (.ireturn, 1) := by decide +kernel
theorem dX5_yearOf_18 : decode cX5_yearOf 18 = .ok (.iload_n 2, 1) := by decide +kernel
theorem dX5_yearOf_19 : decode cX5_yearOf 19 = .ok (.iconst 0, 1) := by decide +kernel
theorem dX5_yearOf_20 : decode cX5_yearOf 20 = .ok (.sipush 20000, 3) := by decide +kernel
theorem dX5_yearOf_23 : decode cX5_yearOf 23 = .ok (.invokestatic 33, 3) := by decide +kernel
theorem dX5_yearOf_26 : decode cX5_yearOf 26 = .ok (.ifCond .eq 12, 3) := by decide +kernel
theorem dX5_yearOf_29 : decode cX5_yearOf 29 = .ok (.aload_n 0, 1) := by decide +kernel
theorem dX5_yearOf_30 : decode cX5_yearOf 30 = .ok (.iload_n 1, 1) := by decide +kernel
theorem dX5_yearOf_31 : decode cX5_yearOf 31 = .ok (.iload_n 2, 1) := by decide +kernel
theorem dX5_yearOf_32 : decode cX5_yearOf 32 = .ok (.invokevirtual 77, 3) := by decide +kernel
theorem dX5_yearOf_35 : decode cX5_yearOf 35 = .ok (.goto 8, 3) := by decide +kernel
theorem dX5_yearOf_38 : decode cX5_yearOf 38 = .ok (.aload_n 0, 1) := by decide +kernel
theorem dX5_yearOf_39 : decode cX5_yearOf 39 = .ok (.iconst 2, 1) := by decide +kernel
theorem dX5_yearOf_40 : decode cX5_yearOf 40 = .ok (.invokevirtual 40, 3) := by decide +kernel
theorem dX5_yearOf_43 : decode cX5_yearOf 43 = .ok (.ireturn, 1) := by decide +kernel
set_option maxRecDepth 20000 in
theorem ggX5_weekday_X5_in : GoodIn wsX5_weekday wsX5_in := goodIn_r _ [5] (by decide +kernel) (by decide +kernel)
set_option maxRecDepth 20000 in
theorem gX5_weekday_X5_in : GoodIn wsX5_weekday (va_wsS RX5 33 yX5_in wsX5_in) := goodIn_app (goodIn_of _ (by decide +kernel)) ggX5_weekday_X5_in
set_option maxRecDepth 20000 in
theorem ggX5_weekday_X5_fails : GoodIn wsX5_weekday wsX5_fails := goodIn_r _ [9, 1, 10, 11, 12, 13, 14, 15, 16, 17, 18, 19] (by decide +kernel) (by decide +kernel)
set_option maxRecDepth 20000 in
theorem gX5_weekday_X5_fails : GoodIn wsX5_weekday (wsV RX5 40 RX5 yX5_fails wsX5_fails) := goodIn_app (goodIn_of _ (by decide +kernel)) ggX5_weekday_X5_fails
theorem dX5_weekday_0 : decode cX5_weekday 0 = .ok (.aload_n 0, 1) := by decide +kernel
theorem dX5_weekday_1 : decode cX5_weekday 1 = .ok (.iconst 0, 1) := by decide +kernel
theorem dX5_weekday_2 : decode cX5_weekday 2 = .ok (.putfield 29, 3) := by decide +kernel
theorem dX5_weekday_5 : decode cX5_weekday 5 = .ok (.iload_n 1, 1) := by decide +kernel
theorem dX5_weekday_6 : decode cX5_weekday 6 = .ok (.iconst 0, 1) := by decide +kernel
theorem dX5_weekday_7 : decode cX5_weekday 7 = .ok (.sipush 20000, 3) := by decide +kernel
theorem dX5_weekday_10 : decode cX5_weekday 10 = .ok (.invokestatic 33, 3) := by decide +kernel
theorem dX5_weekday_13 : decode cX5_weekday 13 = .ok (.ifCond .eq 10, 3) := by decide +kernel
theorem dX5_weekday_16 : decode cX5_weekday 16 = .ok (.iload_n 1, 1) := by decide +kernel
theorem dX5_weekday_17 : decode cX5_weekday 17 = .ok (.bipush 7, 2) := by decide +kernel
theorem dX5_weekday_19 : decode cX5_weekday 19 = .ok (.irem, 1) := by decide +kernel
theorem dX5_weekday_20 : decode cX5_weekday 20 = .ok (.goto 8, 3) := by decide +kernel
theorem dX5_weekday_23 : decode cX5_weekday 23 = .ok (.aload_n 0, 1) := by decide +kernel
theorem dX5_weekday_24 : decode cX5_weekday 24 = .ok (.iconst 1, 1) := by decide +kernel
theorem dX5_weekday_25 : decode cX5_weekday 25 = .ok (.invokevirtual 40, 3) := by decide +kernel
theorem dX5_weekday_28 : decode cX5_weekday 28 = .ok (.ireturn, 1) := by decide +kernel
set_option maxRecDepth 20000 in
theorem ggX5_dayWith_X5_in : GoodIn wsX5_dayWith wsX5_in := goodIn_r _ [4] (by decide +kernel) (by decide +kernel)
set_option maxRecDepth 20000 in
theorem gX5_dayWith_X5_in : GoodIn wsX5_dayWith (va_wsS RX5 33 yX5_in wsX5_in) := goodIn_app (goodIn_of _ (by decide +kernel)) ggX5_dayWith_X5_in
set_option maxRecDepth 20000 in
theorem ggX5_dayWith_X5_lengthOf : GoodIn wsX5_dayWith wsX5_lengthOf := goodIn_r _ [7] (by decide +kernel) (by decide +kernel)
set_option maxRecDepth 20000 in
theorem gX5_dayWith_X5_lengthOf : GoodIn wsX5_dayWith (va_wsS RX5 58 yX5_lengthOf wsX5_lengthOf) := goodIn_app (goodIn_of _ (by decide +kernel)) ggX5_dayWith_X5_lengthOf
set_option maxRecDepth 20000 in
theorem ggX5_dayWith_X5_yearLength : GoodIn wsX5_dayWith wsX5_yearLength := goodIn_r _ [10, 11, 12, 3, 13, 5, 6, 7] (by decide +kernel) (by decide +kernel)
set_option maxRecDepth 20000 in
theorem gX5_dayWith_X5_yearLength : GoodIn wsX5_dayWith (va_wsS RX5 68 yX5_yearLength wsX5_yearLength) := goodIn_app (goodIn_of _ (by decide +kernel)) ggX5_dayWith_X5_yearLength
set_option maxRecDepth 20000 in
theorem ggX5_dayWith_X5_daysAhead : GoodIn wsX5_dayWith wsX5_daysAhead := goodIn_r _ [13, 5, 6, 3, 7] (by decide +kernel) (by decide +kernel)
set_option maxRecDepth 20000 in
theorem gX5_dayWith_X5_daysAhead : GoodIn wsX5_dayWith (va_wsS RX5 62 yX5_daysAhead wsX5_daysAhead) := goodIn_app (goodIn_of _ (by decide +kernel)) ggX5_dayWith_X5_daysAhead
set_option maxRecDepth 20000 in
theorem ggX5_dayWith_X5_firstDay : GoodIn wsX5_dayWith wsX5_firstDay := goodIn_r _ [17, 18, 19, 20, 3, 21, 22, 23, 24, 25, 26, 31, 32, 33, 34, 35, 36, 37, 38, 39, 40] (by decide +kernel) (by decide +kernel)
set_option maxRecDepth 20000 in
theorem gX5_dayWith_X5_firstDay : GoodIn wsX5_dayWith (wsV RX5 80 RX5 yX5_firstDay wsX5_firstDay) := goodIn_app (goodIn_of _ (by decide +kernel)) ggX5_dayWith_X5_firstDay
set_option maxRecDepth 20000 in
theorem ggX5_dayWith_X5_calendar : GoodIn wsX5_dayWith wsX5_calendar := goodIn_r _ [30, 18, 19, 20, 3, 21, 22, 23, 24, 25, 26, 31, 32, 33, 34, 35, 36, 37, 38, 39, 40] (by decide +kernel) (by decide +kernel)
set_option maxRecDepth 20000 in
theorem gX5_dayWith_X5_calendar : GoodIn wsX5_dayWith (wsV RX5 65 RX5 yX5_calendar wsX5_calendar) := goodIn_app (goodIn_of _ (by decide +kernel)) ggX5_dayWith_X5_calendar
theorem dX5_dayWith_0 : decode cX5_dayWith 0 = .ok (.iload_n 3, 1) := by decide +kernel
theorem dX5_dayWith_1 : decode cX5_dayWith 1 = .ok (.iconst 1, 1) := by decide +kernel
theorem dX5_dayWith_2 : decode cX5_dayWith 2 = .ok (.bipush 12, 2) := by decide +kernel
theorem dX5_dayWith_4 : decode cX5_dayWith 4 = .ok (.invokestatic 33, 3) := by decide +kernel
theorem dX5_dayWith_7 : decode cX5_dayWith 7 = .ok (.ifCond .eq 13, 3) := by decide +kernel
theorem dX5_dayWith_10 : decode cX5_dayWith 10 = .ok (.iload 4, 2) := by decide +kernel
theorem dX5_dayWith_12 : decode cX5_dayWith 12 = .ok (.iload_n 1, 1) := by decide +kernel
theorem dX5_dayWith_13 : decode cX5_dayWith 13 = .ok (.iload_n 3, 1) := by decide +kernel
theorem dX5_dayWith_14 : decode cX5_dayWith 14 = .ok (.invokestatic 58, 3) := by decide +kernel
theorem dX5_dayWith_17 : decode cX5_dayWith 17 = .ok (.if_icmp .le 5, 3) := by decide +kernel
theorem dX5_dayWith_20 : decode cX5_dayWith 20 = .ok (.iconst (-1), 1) := by decide +kernel
theorem dX5_dayWith_21 : decode cX5_dayWith 21 = .ok (.ireturn, 1) := by decide +kernel
theorem dX5_dayWith_22 : decode cX5_dayWith 22 = .ok (.iload_n 2, 1) := by decide +kernel
theorem dX5_dayWith_23 : decode cX5_dayWith 23 = .ok (.iconst 1, 1) := by decide +kernel
theorem dX5_dayWith_24 : decode cX5_dayWith 24 = .ok (.isub, 1) := by decide +kernel
theorem dX5_dayWith_25 : decode cX5_dayWith 25 = .ok (.iload_n 1, 1) := by decide +kernel
theorem dX5_dayWith_26 : decode cX5_dayWith 26 = .ok (.invokestatic 68, 3) := by decide +kernel
theorem dX5_dayWith_29 : decode cX5_dayWith 29 = .ok (.imul, 1) := by decide +kernel
theorem dX5_dayWith_30 : decode cX5_dayWith 30 = .ok (.iload_n 1, 1) := by decide +kernel
theorem dX5_dayWith_31 : decode cX5_dayWith 31 = .ok (.iload_n 3, 1) := by decide +kernel
theorem dX5_dayWith_32 : decode cX5_dayWith 32 = .ok (.invokestatic 62, 3) := by decide +kernel
theorem dX5_dayWith_35 : decode cX5_dayWith 35 = .ok (.iadd, 1) := by decide +kernel
theorem dX5_dayWith_36 : decode cX5_dayWith 36 = .ok (.iload 4, 2) := by decide +kernel
theorem dX5_dayWith_38 : decode cX5_dayWith 38 = .ok (.iadd, 1) := by decide +kernel
theorem dX5_dayWith_39 : decode cX5_dayWith 39 = .ok (.iconst 1, 1) := by decide +kernel
theorem dX5_dayWith_40 : decode cX5_dayWith 40 = .ok (.isub, 1) := by decide +kernel
theorem dX5_dayWith_41 : decode cX5_dayWith 41 = .ok (.istore 5, 2) := by decide +kernel
theorem dX5_dayWith_43 : decode cX5_dayWith 43 = .ok (.aload_n 0, 1) := by decide +kernel
theorem dX5_dayWith_44 : decode cX5_dayWith 44 = .ok (.iload_n 1, 1) := by decide +kernel
theorem dX5_dayWith_45 : decode cX5_dayWith 45 = .ok (.iload 5, 2) := by decide +kernel
theorem dX5_dayWith_47 : decode cX5_dayWith 47 = .ok (.invokevirtual 80, 3) := by decide +kernel
theorem dX5_dayWith_50 : decode cX5_dayWith 50 = .ok (.istore 6, 2) := by decide +kernel
theorem dX5_dayWith_52 : decode cX5_dayWith 52 = .ok (.aload_n 0, 1) := by decide +kernel
theorem dX5_dayWith_53 : decode cX5_dayWith 53 = .ok (.iload_n 1, 1) := by decide +kernel
theorem dX5_dayWith_54 : decode cX5_dayWith 54 = .ok (.iload 6, 2) := by decide +kernel
theorem dX5_dayWith_56 : decode cX5_dayWith 56 = .ok (.invokevirtual 65, 3) := by decide +kernel
theorem dX5_dayWith_59 : decode cX5_dayWith 59 = .ok (.iload 5, 2) := by decide +kernel
theorem dX5_dayWith_61 : decode cX5_dayWith 61 = .ok (.if_icmp .ne 8, 3) := by decide +kernel
theorem dX5_dayWith_64 : decode cX5_dayWith 64 = .ok (.iload 6, 2) := by decide +kernel
theorem dX5_dayWith_66 : decode cX5_dayWith 66 = .ok (.goto 4, 3) := by decide +kernel
theorem dX5_dayWith_69 : decode cX5_dayWith 69 = .ok (.iconst (-1), 1) := by decide +kernel
theorem dX5_dayWith_70 : decode cX5_dayWith 70 = .ok (.ireturn, 1) := by decide +kernel
set_option maxRecDepth 20000 in
theorem ggX5_dayOfDate_X5_isTown : GoodIn wsX5_dayOfDate wsX5_isTown := goodIn_r _ [5, 6, 7, 4, 8] (by decide +kernel) (by decide +kernel)
set_option maxRecDepth 20000 in
theorem gX5_dayOfDate_X5_isTown : GoodIn wsX5_dayOfDate (va_wsS RX5 47 yX5_isTown wsX5_isTown) := goodIn_app (goodIn_of _ (by decide +kernel)) ggX5_dayOfDate_X5_isTown
set_option maxRecDepth 20000 in
theorem ggX5_dayOfDate_X5_fails : GoodIn wsX5_dayOfDate wsX5_fails := goodIn_r _ [12, 1, 43, 44, 45, 46, 47, 48, 49, 50, 51, 52] (by decide +kernel) (by decide +kernel)
set_option maxRecDepth 20000 in
theorem gX5_dayOfDate_X5_fails : GoodIn wsX5_dayOfDate (wsV RX5 40 RX5 yX5_fails wsX5_fails) := goodIn_app (goodIn_of _ (by decide +kernel)) ggX5_dayOfDate_X5_fails
set_option maxRecDepth 20000 in
theorem ggX5_dayOfDate_X5_in : GoodIn wsX5_dayOfDate wsX5_in := goodIn_r _ [8] (by decide +kernel) (by decide +kernel)
set_option maxRecDepth 20000 in
theorem gX5_dayOfDate_X5_in : GoodIn wsX5_dayOfDate (va_wsS RX5 33 yX5_in wsX5_in) := goodIn_app (goodIn_of _ (by decide +kernel)) ggX5_dayOfDate_X5_in
set_option maxRecDepth 20000 in
theorem ggX5_dayOfDate_X5_dayWith : GoodIn wsX5_dayOfDate wsX5_dayWith := goodIn_r _ [16, 6, 7, 4, 8, 17, 18, 19, 20, 21, 22, 23, 24, 25, 26, 27, 28, 29, 30, 31, 32, 33, 34, 35, 36, 37, 38, 39, 40, 41, 42, 43, 44, 45, 46, 47, 48, 49, 50, 51, 52] (by decide +kernel) (by decide +kernel)
set_option maxRecDepth 20000 in
theorem gX5_dayOfDate_X5_dayWith : GoodIn wsX5_dayOfDate (wsV RX5 83 RX5 yX5_dayWith wsX5_dayWith) := goodIn_app (goodIn_of _ (by decide +kernel)) ggX5_dayOfDate_X5_dayWith
theorem dX5_dayOfDate_0 : decode cX5_dayOfDate 0 = .ok (.aload_n 0, 1) := by decide +kernel
theorem dX5_dayOfDate_1 : decode cX5_dayOfDate 1 = .ok (.iconst 0, 1) := by decide +kernel
theorem dX5_dayOfDate_2 : decode cX5_dayOfDate 2 = .ok (.putfield 29, 3) := by decide +kernel
theorem dX5_dayOfDate_5 : decode cX5_dayOfDate 5 = .ok (.iload_n 1, 1) := by decide +kernel
theorem dX5_dayOfDate_6 : decode cX5_dayOfDate 6 = .ok (.invokestatic 47, 3) := by decide +kernel
theorem dX5_dayOfDate_9 : decode cX5_dayOfDate 9 = .ok (.ifCond .ne 9, 3) := by decide +kernel
theorem dX5_dayOfDate_12 : decode cX5_dayOfDate 12 = .ok (.aload_n 0, 1) := by decide +kernel
theorem dX5_dayOfDate_13 : decode cX5_dayOfDate 13 = .ok (.iconst 1, 1) := by decide +kernel
theorem dX5_dayOfDate_14 : decode cX5_dayOfDate 14 = .ok (.invokevirtual 40, 3) := by decide +kernel
theorem dX5_dayOfDate_17 : decode cX5_dayOfDate 17 = .ok (.ireturn, 1) := by decide +kernel
theorem dX5_dayOfDate_18 : decode cX5_dayOfDate 18 = .ok (.iload_n 2, 1) := by decide +kernel
theorem dX5_dayOfDate_19 : decode cX5_dayOfDate 19 = .ok (.iconst 1, 1) := by decide +kernel
theorem dX5_dayOfDate_20 : decode cX5_dayOfDate 20 = .ok (.bipush 60, 2) := by decide +kernel
theorem dX5_dayOfDate_22 : decode cX5_dayOfDate 22 = .ok (.invokestatic 33, 3) := by decide +kernel
theorem dX5_dayOfDate_25 : decode cX5_dayOfDate 25 = .ok (.ifCond .eq 24, 3) := by decide +kernel
theorem dX5_dayOfDate_28 : decode cX5_dayOfDate 28 = .ok (.iload_n 3, 1) := by decide +kernel
theorem dX5_dayOfDate_29 : decode cX5_dayOfDate 29 = .ok (.iconst 1, 1) := by decide +kernel
theorem dX5_dayOfDate_30 : decode cX5_dayOfDate 30 = .ok (.bipush 12, 2) := by decide +kernel
theorem dX5_dayOfDate_32 : decode cX5_dayOfDate 32 = .ok (.invokestatic 33, 3) := by decide +kernel
theorem dX5_dayOfDate_35 : decode cX5_dayOfDate 35 = .ok (.ifCond .eq 14, 3) := by decide +kernel
theorem dX5_dayOfDate_38 : decode cX5_dayOfDate 38 = .ok (.iload 4, 2) := by decide +kernel
theorem dX5_dayOfDate_40 : decode cX5_dayOfDate 40 = .ok (.iconst 1, 1) := by decide +kernel
theorem dX5_dayOfDate_41 : decode cX5_dayOfDate 41 = .ok (.bipush 31, 2) := by decide +kernel
theorem dX5_dayOfDate_43 : decode cX5_dayOfDate 43 = .ok (.invokestatic 33, 3) := by decide +kernel
theorem dX5_dayOfDate_46 : decode cX5_dayOfDate 46 = .ok (.ifCond .ne 9, 3) := by decide +kernel
theorem dX5_dayOfDate_49 : decode cX5_dayOfDate 49 = .ok (.aload_n 0, 1) := by decide +kernel
theorem dX5_dayOfDate_50 : decode cX5_dayOfDate 50 = .ok (.iconst 2, 1) := by decide +kernel
theorem dX5_dayOfDate_51 : decode cX5_dayOfDate 51 = .ok (.invokevirtual 40, 3) := by decide +kernel
theorem dX5_dayOfDate_54 : decode cX5_dayOfDate 54 = .ok (.ireturn, 1) := by decide +kernel
theorem dX5_dayOfDate_55 : decode cX5_dayOfDate 55 = .ok (.aload_n 0, 1) := by decide +kernel
theorem dX5_dayOfDate_56 : decode cX5_dayOfDate 56 = .ok (.iload_n 1, 1) := by decide +kernel
theorem dX5_dayOfDate_57 : decode cX5_dayOfDate 57 = .ok (.iload_n 2, 1) := by decide +kernel
theorem dX5_dayOfDate_58 : decode cX5_dayOfDate 58 = .ok (.iload_n 3, 1) := by decide +kernel
theorem dX5_dayOfDate_59 : decode cX5_dayOfDate 59 = .ok (.iload 4, 2) := by decide +kernel
theorem dX5_dayOfDate_61 : decode cX5_dayOfDate 61 = .ok (.invokevirtual 83, 3) := by decide +kernel
theorem dX5_dayOfDate_64 : decode cX5_dayOfDate 64 = .ok (.ireturn, 1) := by decide +kernel
set_option maxRecDepth 20000 in
theorem ggX5_addFeast_X5_isTown : GoodIn wsX5_addFeast wsX5_isTown := goodIn_r _ [6, 7, 8, 5, 9] (by decide +kernel) (by decide +kernel)
set_option maxRecDepth 20000 in
theorem gX5_addFeast_X5_isTown : GoodIn wsX5_addFeast (va_wsS RX5 47 yX5_isTown wsX5_isTown) := goodIn_app (goodIn_of _ (by decide +kernel)) ggX5_addFeast_X5_isTown
set_option maxRecDepth 20000 in
theorem ggX5_addFeast_X5_fails : GoodIn wsX5_addFeast wsX5_fails := goodIn_r _ [13, 1, 20, 21, 22, 23, 24, 25, 26, 27, 28, 29] (by decide +kernel) (by decide +kernel)
set_option maxRecDepth 20000 in
theorem gX5_addFeast_X5_fails : GoodIn wsX5_addFeast (wsV RX5 40 RX5 yX5_fails wsX5_fails) := goodIn_app (goodIn_of _ (by decide +kernel)) ggX5_addFeast_X5_fails
set_option maxRecDepth 20000 in
theorem ggX5_addFeast_X5_in : GoodIn wsX5_addFeast wsX5_in := goodIn_r _ [9] (by decide +kernel) (by decide +kernel)
set_option maxRecDepth 20000 in
theorem gX5_addFeast_X5_in : GoodIn wsX5_addFeast (va_wsS RX5 33 yX5_in wsX5_in) := goodIn_app (goodIn_of _ (by decide +kernel)) ggX5_addFeast_X5_in
set_option maxRecDepth 20000 in
theorem ggX5_addFeast_X5_record : GoodIn wsX5_addFeast wsX5_record := goodIn_r _ [17, 18, 19, 2, 20, 21, 22, 23, 24, 25, 26, 27, 28, 29] (by decide +kernel) (by decide +kernel)
set_option maxRecDepth 20000 in
theorem gX5_addFeast_X5_record : GoodIn wsX5_addFeast (wsV RX5 44 RX5 yX5_record wsX5_record) := goodIn_app (goodIn_of _ (by decide +kernel)) ggX5_addFeast_X5_record
theorem dX5_addFeast_0 : decode cX5_addFeast 0 = .ok (.aload_n 0, 1) := by decide +kernel
theorem dX5_addFeast_1 : decode cX5_addFeast 1 = .ok (.iconst 0, 1) := by decide +kernel
theorem dX5_addFeast_2 : decode cX5_addFeast 2 = .ok (.putfield 29, 3) := by decide +kernel
theorem dX5_addFeast_5 : decode cX5_addFeast 5 = .ok (.iload_n 1, 1) := by decide +kernel
theorem dX5_addFeast_6 : decode cX5_addFeast 6 = .ok (.invokestatic 47, 3) := by decide +kernel
theorem dX5_addFeast_9 : decode cX5_addFeast 9 = .ok (.ifCond .ne 9, 3) := by decide +kernel
theorem dX5_addFeast_12 : decode cX5_addFeast 12 = .ok (.aload_n 0, 1) := by decide +kernel
theorem dX5_addFeast_13 : decode cX5_addFeast 13 = .ok (.iconst 1, 1) := by decide +kernel
theorem dX5_addFeast_14 : decode cX5_addFeast 14 = .ok (.invokevirtual 40, 3) := by decide +kernel
theorem dX5_addFeast_17 : decode cX5_addFeast 17 = .ok (.ireturn, 1) := by decide +kernel
theorem dX5_addFeast_18 : decode cX5_addFeast 18 = .ok (.iload_n 2, 1) := by decide +kernel
theorem dX5_addFeast_19 : decode cX5_addFeast 19 = .ok (.iconst 1, 1) := by decide +kernel
theorem dX5_addFeast_20 : decode cX5_addFeast 20 = .ok (.bipush 12, 2) := by decide +kernel
theorem dX5_addFeast_22 : decode cX5_addFeast 22 = .ok (.invokestatic 33, 3) := by decide +kernel
theorem dX5_addFeast_25 : decode cX5_addFeast 25 = .ok (.ifCond .eq 13, 3) := by decide +kernel
theorem dX5_addFeast_28 : decode cX5_addFeast 28 = .ok (.iload_n 3, 1) := by decide +kernel
theorem dX5_addFeast_29 : decode cX5_addFeast 29 = .ok (.iconst 1, 1) := by decide +kernel
theorem dX5_addFeast_30 : decode cX5_addFeast 30 = .ok (.bipush 31, 2) := by decide +kernel
theorem dX5_addFeast_32 : decode cX5_addFeast 32 = .ok (.invokestatic 33, 3) := by decide +kernel
theorem dX5_addFeast_35 : decode cX5_addFeast 35 = .ok (.ifCond .ne 9, 3) := by decide +kernel
theorem dX5_addFeast_38 : decode cX5_addFeast 38 = .ok (.aload_n 0, 1) := by decide +kernel
theorem dX5_addFeast_39 : decode cX5_addFeast 39 = .ok (.iconst 2, 1) := by decide +kernel
theorem dX5_addFeast_40 : decode cX5_addFeast 40 = .ok (.invokevirtual 40, 3) := by decide +kernel
theorem dX5_addFeast_43 : decode cX5_addFeast 43 = .ok (.ireturn, 1) := by decide +kernel
theorem dX5_addFeast_44 : decode cX5_addFeast 44 = .ok (.aload_n 0, 1) := by decide +kernel
theorem dX5_addFeast_45 : decode cX5_addFeast 45 = .ok (.getfield 7, 3) := by decide +kernel
theorem dX5_addFeast_48 : decode cX5_addFeast 48 = .ok (.bipush 14, 2) := by decide +kernel
theorem dX5_addFeast_50 : decode cX5_addFeast 50 = .ok (.iaload, 1) := by decide +kernel
theorem dX5_addFeast_51 : decode cX5_addFeast 51 = .ok (.bipush 10, 2) := by decide +kernel
theorem dX5_addFeast_53 : decode cX5_addFeast 53 = .ok (.if_icmp .ne 9, 3) := by decide +kernel
theorem dX5_addFeast_56 : decode cX5_addFeast 56 = .ok (.aload_n 0, 1) := by decide +kernel
theorem dX5_addFeast_57 : decode cX5_addFeast 57 = .ok (.iconst 3, 1) := by decide +kernel
theorem dX5_addFeast_58 : decode cX5_addFeast 58 = .ok (.invokevirtual 40, 3) := by decide +kernel
theorem dX5_addFeast_61 : decode cX5_addFeast 61 = .ok (.ireturn, 1) := by decide +kernel
theorem dX5_addFeast_62 : decode cX5_addFeast 62 = .ok (.aload_n 0, 1) := by decide +kernel
theorem dX5_addFeast_63 : decode cX5_addFeast 63 = .ok (.invokevirtual 44, 3) := by decide +kernel
theorem dX5_addFeast_66 : decode cX5_addFeast 66 = .ok (.bipush 15, 2) := by decide +kernel
theorem dX5_addFeast_68 : decode cX5_addFeast 68 = .ok (.iconst 4, 1) := by decide +kernel
theorem dX5_addFeast_69 : decode cX5_addFeast 69 = .ok (.aload_n 0, 1) := by decide +kernel
theorem dX5_addFeast_70 : decode cX5_addFeast 70 = .ok (.getfield 7, 3) := by decide +kernel
theorem dX5_addFeast_73 : decode cX5_addFeast 73 = .ok (.bipush 14, 2) := by decide +kernel
theorem dX5_addFeast_75 : decode cX5_addFeast 75 = .ok (.iaload, 1) := by decide +kernel
theorem dX5_addFeast_76 : decode cX5_addFeast 76 = .ok (.imul, 1) := by decide +kernel
theorem dX5_addFeast_77 : decode cX5_addFeast 77 = .ok (.iadd, 1) := by decide +kernel
theorem dX5_addFeast_78 : decode cX5_addFeast 78 = .ok (.istore 4, 2) := by decide +kernel
theorem dX5_addFeast_80 : decode cX5_addFeast 80 = .ok (.aload_n 0, 1) := by decide +kernel
theorem dX5_addFeast_81 : decode cX5_addFeast 81 = .ok (.getfield 7, 3) := by decide +kernel
theorem dX5_addFeast_84 : decode cX5_addFeast 84 = .ok (.iload 4, 2) := by decide +kernel
theorem dX5_addFeast_86 : decode cX5_addFeast 86 = .ok (.iload_n 1, 1) := by decide +kernel
theorem dX5_addFeast_87 : decode cX5_addFeast 87 = .ok (.iastore, 1) := by decide +kernel
theorem dX5_addFeast_88 : decode cX5_addFeast 88 = .ok (.aload_n 0, 1) := by decide +kernel
theorem dX5_addFeast_89 : decode cX5_addFeast 89 = .ok (.getfield 7, 3) := by decide +kernel
theorem dX5_addFeast_92 : decode cX5_addFeast 92 = .ok (.iload 4, 2) := by decide +kernel
theorem dX5_addFeast_94 : decode cX5_addFeast 94 = .ok (.iconst 1, 1) := by decide +kernel
theorem dX5_addFeast_95 : decode cX5_addFeast 95 = .ok (.iadd, 1) := by decide +kernel
theorem dX5_addFeast_96 : decode cX5_addFeast 96 = .ok (.iload_n 2, 1) := by decide +kernel
theorem dX5_addFeast_97 : decode cX5_addFeast 97 = .ok (.iastore, 1) := by decide +kernel
theorem dX5_addFeast_98 : decode cX5_addFeast 98 = .ok (.aload_n 0, 1) := by decide +kernel
theorem dX5_addFeast_99 : decode cX5_addFeast 99 = .ok (.getfield 7, 3) := by decide +kernel
theorem dX5_addFeast_102 : decode cX5_addFeast 102 = .ok (.iload 4, 2) := by decide +kernel
theorem dX5_addFeast_104 : decode cX5_addFeast 104 = .ok (.iconst 2, 1) := by decide +kernel
theorem dX5_addFeast_105 : decode cX5_addFeast 105 = .ok (.iadd, 1) := by decide +kernel
theorem dX5_addFeast_106 : decode cX5_addFeast 106 = .ok (.iload_n 3, 1) := by decide +kernel
theorem dX5_addFeast_107 : decode cX5_addFeast 107 = .ok (.iastore, 1) := by decide +kernel
theorem dX5_addFeast_108 : decode cX5_addFeast 108 = .ok (.aload_n 0, 1) := by decide +kernel
theorem dX5_addFeast_109 : decode cX5_addFeast 109 = .ok (.getfield 7, 3) := by decide +kernel
theorem dX5_addFeast_112 : decode cX5_addFeast 112 = .ok (.iload 4, 2) := by decide +kernel
theorem dX5_addFeast_114 : decode cX5_addFeast 114 = .ok (.iconst 3, 1) := by decide +kernel
theorem dX5_addFeast_115 : decode cX5_addFeast 115 = .ok (.iadd, 1) := by decide +kernel
theorem dX5_addFeast_116 : decode cX5_addFeast 116 = .ok (.iconst (-1), 1) := by decide +kernel
theorem dX5_addFeast_117 : decode cX5_addFeast 117 = .ok (.iastore, 1) := by decide +kernel
theorem dX5_addFeast_118 : decode cX5_addFeast 118 = .ok (.aload_n 0, 1) := by decide +kernel
theorem dX5_addFeast_119 : decode cX5_addFeast 119 = .ok (.getfield 7, 3) := by decide +kernel
theorem dX5_addFeast_122 : decode cX5_addFeast 122 = .ok (.bipush 14, 2) := by decide +kernel
theorem dX5_addFeast_124 : decode cX5_addFeast 124 = .ok (.dup2, 1) := by decide +kernel
theorem dX5_addFeast_125 : decode cX5_addFeast 125 = .ok (.iaload, 1) := by decide +kernel
theorem dX5_addFeast_126 : decode cX5_addFeast 126 = .ok (.iconst 1, 1) := by decide +kernel
theorem dX5_addFeast_127 : decode cX5_addFeast 127 = .ok (.iadd, 1) := by decide +kernel
theorem dX5_addFeast_128 : decode cX5_addFeast 128 = .ok (.iastore, 1) := by decide +kernel
theorem dX5_addFeast_129 : decode cX5_addFeast 129 = .ok (.aload_n 0, 1) := by decide +kernel
theorem dX5_addFeast_130 : decode cX5_addFeast 130 = .ok (.getfield 7, 3) := by decide +kernel
theorem dX5_addFeast_133 : decode cX5_addFeast 133 = .ok (.bipush 14, 2) := by decide +kernel
theorem dX5_addFeast_135 : decode cX5_addFeast 135 = .ok (.iaload, 1) := by decide +kernel
theorem dX5_addFeast_136 : decode cX5_addFeast 136 = .ok (.iconst 1, 1) := by decide +kernel
theorem dX5_addFeast_137 : decode cX5_addFeast 137 = .ok (.isub, 1) := by decide +kernel
theorem dX5_addFeast_138 : decode cX5_addFeast 138 = .ok (.ireturn, 1) := by decide +kernel
set_option maxRecDepth 20000 in
theorem ggX5_barWeekday_X5_isFeast : GoodIn wsX5_barWeekday wsX5_isFeast := goodIn_r _ [7, 2, 8, 9, 6, 10, 25, 26, 27, 28, 29, 30, 31, 32, 33, 34] (by decide +kernel) (by decide +kernel)
set_option maxRecDepth 20000 in
theorem gX5_barWeekday_X5_isFeast : GoodIn wsX5_barWeekday (wsV RX5 87 RX5 yX5_isFeast wsX5_isFeast) := goodIn_app (goodIn_of _ (by decide +kernel)) ggX5_barWeekday_X5_isFeast
set_option maxRecDepth 20000 in
theorem ggX5_barWeekday_X5_fails : GoodIn wsX5_barWeekday wsX5_fails := goodIn_r _ [14, 1, 25, 26, 27, 28, 29, 30, 31, 32, 33, 34] (by decide +kernel) (by decide +kernel)
set_option maxRecDepth 20000 in
theorem gX5_barWeekday_X5_fails : GoodIn wsX5_barWeekday (wsV RX5 40 RX5 yX5_fails wsX5_fails) := goodIn_app (goodIn_of _ (by decide +kernel)) ggX5_barWeekday_X5_fails
set_option maxRecDepth 20000 in
theorem ggX5_barWeekday_X5_in : GoodIn wsX5_barWeekday wsX5_in := goodIn_r _ [10] (by decide +kernel) (by decide +kernel)
set_option maxRecDepth 20000 in
theorem gX5_barWeekday_X5_in : GoodIn wsX5_barWeekday (va_wsS RX5 33 yX5_in wsX5_in) := goodIn_app (goodIn_of _ (by decide +kernel)) ggX5_barWeekday_X5_in
set_option maxRecDepth 20000 in
theorem ggX5_barWeekday_X5_record : GoodIn wsX5_barWeekday wsX5_record := goodIn_r _ [18, 19, 20, 2, 25, 26, 27, 28, 29, 30, 31, 32, 33, 34] (by decide +kernel) (by decide +kernel)
set_option maxRecDepth 20000 in
theorem gX5_barWeekday_X5_record : GoodIn wsX5_barWeekday (wsV RX5 44 RX5 yX5_record wsX5_record) := goodIn_app (goodIn_of _ (by decide +kernel)) ggX5_barWeekday_X5_record
set_option maxRecDepth 20000 in
theorem ggX5_barWeekday_X5_feast : GoodIn wsX5_barWeekday wsX5_feast := goodIn_r _ [24, 2, 25, 26, 27, 28, 29, 30, 31, 32, 33, 34] (by decide +kernel) (by decide +kernel)
set_option maxRecDepth 20000 in
theorem gX5_barWeekday_X5_feast : GoodIn wsX5_barWeekday (wsV RX5 90 RX5 yX5_feast wsX5_feast) := goodIn_app (goodIn_of _ (by decide +kernel)) ggX5_barWeekday_X5_feast
theorem dX5_barWeekday_0 : decode cX5_barWeekday 0 = .ok (.aload_n 0, 1) := by decide +kernel
theorem dX5_barWeekday_1 : decode cX5_barWeekday 1 = .ok (.iconst 0, 1) := by decide +kernel
theorem dX5_barWeekday_2 : decode cX5_barWeekday 2 = .ok (.putfield 29, 3) := by decide +kernel
theorem dX5_barWeekday_5 : decode cX5_barWeekday 5 = .ok (.aload_n 0, 1) := by decide +kernel
theorem dX5_barWeekday_6 : decode cX5_barWeekday 6 = .ok (.iload_n 1, 1) := by decide +kernel
theorem dX5_barWeekday_7 : decode cX5_barWeekday 7 = .ok (.invokevirtual 87, 3) := by decide +kernel
theorem dX5_barWeekday_10 : decode cX5_barWeekday 10 = .ok (.ifCond .ne 9, 3) := by decide +kernel
theorem dX5_barWeekday_13 : decode cX5_barWeekday 13 = .ok (.aload_n 0, 1) := by decide +kernel
theorem dX5_barWeekday_14 : decode cX5_barWeekday 14 = .ok (.iconst 1, 1) := by decide +kernel
theorem dX5_barWeekday_15 : decode cX5_barWeekday 15 = .ok (.invokevirtual 40, 3) := by decide +kernel
theorem dX5_barWeekday_18 : decode cX5_barWeekday 18 = .ok (.ireturn, 1) := by decide +kernel
theorem dX5_barWeekday_19 : decode cX5_barWeekday 19 = .ok (.iload_n 2, 1) := by decide +kernel
theorem dX5_barWeekday_20 : decode cX5_barWeekday 20 = .ok (.iconst 0, 1) := by decide +kernel
theorem dX5_barWeekday_21 : decode cX5_barWeekday 21 = .ok (.bipush 6, 2) := by decide +kernel
theorem dX5_barWeekday_23 : decode cX5_barWeekday 23 = .ok (.invokestatic 33, 3) := by decide +kernel
theorem dX5_barWeekday_26 : decode cX5_barWeekday 26 = .ok (.ifCond .ne 9, 3) := by decide +kernel
theorem dX5_barWeekday_29 : decode cX5_barWeekday 29 = .ok (.aload_n 0, 1) := by decide +kernel
theorem dX5_barWeekday_30 : decode cX5_barWeekday 30 = .ok (.iconst 2, 1) := by decide +kernel
theorem dX5_barWeekday_31 : decode cX5_barWeekday 31 = .ok (.invokevirtual 40, 3) := by decide +kernel
theorem dX5_barWeekday_34 : decode cX5_barWeekday 34 = .ok (.ireturn, 1) := by decide +kernel
theorem dX5_barWeekday_35 : decode cX5_barWeekday 35 = .ok (.aload_n 0, 1) := by decide +kernel
theorem dX5_barWeekday_36 : decode cX5_barWeekday 36 = .ok (.invokevirtual 44, 3) := by decide +kernel
theorem dX5_barWeekday_39 : decode cX5_barWeekday 39 = .ok (.aload_n 0, 1) := by decide +kernel
theorem dX5_barWeekday_40 : decode cX5_barWeekday 40 = .ok (.iload_n 1, 1) := by decide +kernel
theorem dX5_barWeekday_41 : decode cX5_barWeekday 41 = .ok (.iconst 3, 1) := by decide +kernel
theorem dX5_barWeekday_42 : decode cX5_barWeekday 42 = .ok (.invokevirtual 90, 3) := by decide +kernel
theorem dX5_barWeekday_45 : decode cX5_barWeekday 45 = .ok (.istore_n 3, 1) := by decide +kernel
theorem dX5_barWeekday_46 : decode cX5_barWeekday 46 = .ok (.aload_n 0, 1) := by decide +kernel
theorem dX5_barWeekday_47 : decode cX5_barWeekday 47 = .ok (.getfield 7, 3) := by decide +kernel
theorem dX5_barWeekday_50 : decode cX5_barWeekday 50 = .ok (.bipush 15, 2) := by decide +kernel
theorem dX5_barWeekday_52 : decode cX5_barWeekday 52 = .ok (.iconst 4, 1) := by decide +kernel
theorem dX5_barWeekday_53 : decode cX5_barWeekday 53 = .ok (.iload_n 1, 1) := by decide +kernel
theorem dX5_barWeekday_54 : decode cX5_barWeekday 54 = .ok (.imul, 1) := by decide +kernel
theorem dX5_barWeekday_55 : decode cX5_barWeekday 55 = .ok (.iadd, 1) := by decide +kernel
theorem dX5_barWeekday_56 : decode cX5_barWeekday 56 = .ok (.iconst 3, 1) := by decide +kernel
theorem dX5_barWeekday_57 : decode cX5_barWeekday 57 = .ok (.iadd, 1) := by decide +kernel
theorem dX5_barWeekday_58 : decode cX5_barWeekday 58 = .ok (.iload_n 2, 1) := by decide +kernel
theorem dX5_barWeekday_59 : decode cX5_barWeekday 59 = .ok (.iastore, 1) := by decide +kernel
theorem dX5_barWeekday_60 : decode cX5_barWeekday 60 = .ok (.iload_n 3, 1) := by decide +kernel
theorem dX5_barWeekday_61 : decode cX5_barWeekday 61 = .ok (.ireturn, 1) := by decide +kernel
set_option maxRecDepth 20000 in
theorem ggX5_allowAllWeekdays_X5_isFeast : GoodIn wsX5_allowAllWeekdays wsX5_isFeast := goodIn_r _ [7, 2, 8, 9, 6, 10, 25, 26, 27, 28, 29, 30, 31, 32, 33, 34] (by decide +kernel) (by decide +kernel)
set_option maxRecDepth 20000 in
theorem gX5_allowAllWeekdays_X5_isFeast : GoodIn wsX5_allowAllWeekdays (wsV RX5 87 RX5 yX5_isFeast wsX5_isFeast) := goodIn_app (goodIn_of _ (by decide +kernel)) ggX5_allowAllWeekdays_X5_isFeast
set_option maxRecDepth 20000 in
theorem ggX5_allowAllWeekdays_X5_fails : GoodIn wsX5_allowAllWeekdays wsX5_fails := goodIn_r _ [14, 1, 25, 26, 27, 28, 29, 30, 31, 32, 33, 34] (by decide +kernel) (by decide +kernel)
set_option maxRecDepth 20000 in
theorem gX5_allowAllWeekdays_X5_fails : GoodIn wsX5_allowAllWeekdays (wsV RX5 40 RX5 yX5_fails wsX5_fails) := goodIn_app (goodIn_of _ (by decide +kernel)) ggX5_allowAllWeekdays_X5_fails
set_option maxRecDepth 20000 in
theorem ggX5_allowAllWeekdays_X5_feast : GoodIn wsX5_allowAllWeekdays wsX5_feast := goodIn_r _ [18, 2, 25, 26, 27, 28, 29, 30, 31, 32, 33, 34] (by decide +kernel) (by decide +kernel)
set_option maxRecDepth 20000 in
theorem gX5_allowAllWeekdays_X5_feast : GoodIn wsX5_allowAllWeekdays (wsV RX5 90 RX5 yX5_feast wsX5_feast) := goodIn_app (goodIn_of _ (by decide +kernel)) ggX5_allowAllWeekdays_X5_feast
set_option maxRecDepth 20000 in
theorem ggX5_allowAllWeekdays_X5_record : GoodIn wsX5_allowAllWeekdays wsX5_record := goodIn_r _ [22, 23, 24, 2, 25, 26, 27, 28, 29, 30, 31, 32, 33, 34] (by decide +kernel) (by decide +kernel)
set_option maxRecDepth 20000 in
theorem gX5_allowAllWeekdays_X5_record : GoodIn wsX5_allowAllWeekdays (wsV RX5 44 RX5 yX5_record wsX5_record) := goodIn_app (goodIn_of _ (by decide +kernel)) ggX5_allowAllWeekdays_X5_record
theorem dX5_allowAllWeekdays_0 : decode cX5_allowAllWeekdays 0 = .ok (.aload_n 0, 1) := by decide +kernel
theorem dX5_allowAllWeekdays_1 : decode cX5_allowAllWeekdays 1 = .ok (.iconst 0, 1) := by decide +kernel
theorem dX5_allowAllWeekdays_2 : decode cX5_allowAllWeekdays 2 = .ok (.putfield 29, 3) := by decide +kernel
theorem dX5_allowAllWeekdays_5 : decode cX5_allowAllWeekdays 5 = .ok (.aload_n 0, 1) := by decide +kernel
theorem dX5_allowAllWeekdays_6 : decode cX5_allowAllWeekdays 6 = .ok (.iload_n 1, 1) := by decide +kernel
theorem dX5_allowAllWeekdays_7 : decode cX5_allowAllWeekdays 7 = .ok (.invokevirtual 87, 3) := by decide +kernel
theorem dX5_allowAllWeekdays_10 : decode cX5_allowAllWeekdays 10 = .ok (.ifCond .ne 9, 3) := by decide +kernel
theorem dX5_allowAllWeekdays_13 : decode cX5_allowAllWeekdays 13 = .ok (.aload_n 0, 1) := by decide +kernel
theorem dX5_allowAllWeekdays_14 : decode cX5_allowAllWeekdays 14 = .ok (.iconst 1, 1) := by decide +kernel
theorem dX5_allowAllWeekdays_15 : decode cX5_allowAllWeekdays 15 = .ok (.invokevirtual 40, 3) := by decide +kernel
theorem dX5_allowAllWeekdays_18 : decode cX5_allowAllWeekdays 18 = .ok (.ireturn, 1) := by decide +kernel
theorem dX5_allowAllWeekdays_19 : decode cX5_allowAllWeekdays 19 = .ok (.aload_n 0, 1) := by decide +kernel
theorem dX5_allowAllWeekdays_20 : decode cX5_allowAllWeekdays 20 = .ok (.iload_n 1, 1) := by decide +kernel
theorem dX5_allowAllWeekdays_21 : decode cX5_allowAllWeekdays 21 = .ok (.iconst 3, 1) := by decide +kernel
theorem dX5_allowAllWeekdays_22 : decode cX5_allowAllWeekdays 22 = .ok (.invokevirtual 90, 3) := by decide +kernel
theorem dX5_allowAllWeekdays_25 : decode cX5_allowAllWeekdays 25 = .ok (.iconst (-1), 1) := by decide +kernel
theorem dX5_allowAllWeekdays_26 : decode cX5_allowAllWeekdays 26 = .ok (.if_icmp .ne 9, 3) := by decide +kernel
theorem dX5_allowAllWeekdays_29 : decode cX5_allowAllWeekdays 29 = .ok (.aload_n 0, 1) := by decide +kernel
theorem dX5_allowAllWeekdays_30 : decode cX5_allowAllWeekdays 30 = .ok (.iconst 2, 1) := by decide +kernel
theorem dX5_allowAllWeekdays_31 : decode cX5_allowAllWeekdays 31 = .ok (.invokevirtual 40, 3) := by decide +kernel
theorem dX5_allowAllWeekdays_34 : decode cX5_allowAllWeekdays 34 = .ok (.ireturn, 1) := by decide +kernel
theorem dX5_allowAllWeekdays_35 : decode cX5_allowAllWeekdays 35 = .ok (.aload_n 0, 1) := by decide +kernel
theorem dX5_allowAllWeekdays_36 : decode cX5_allowAllWeekdays 36 = .ok (.invokevirtual 44, 3) := by decide +kernel
theorem dX5_allowAllWeekdays_39 : decode cX5_allowAllWeekdays 39 = .ok (.aload_n 0, 1) := by decide +kernel
theorem dX5_allowAllWeekdays_40 : decode cX5_allowAllWeekdays 40 = .ok (.iload_n 1, 1) := by decide +kernel
theorem dX5_allowAllWeekdays_41 : decode cX5_allowAllWeekdays 41 = .ok (.iconst 3, 1) := by decide +kernel
theorem dX5_allowAllWeekdays_42 : decode cX5_allowAllWeekdays 42 = .ok (.invokevirtual 90, 3) := by decide +kernel
theorem dX5_allowAllWeekdays_45 : decode cX5_allowAllWeekdays 45 = .ok (.istore_n 2, 1) := by decide +kernel
theorem dX5_allowAllWeekdays_46 : decode cX5_allowAllWeekdays 46 = .ok (.aload_n 0, 1) := by decide +kernel
theorem dX5_allowAllWeekdays_47 : decode cX5_allowAllWeekdays 47 = .ok (.getfield 7, 3) := by decide +kernel
theorem dX5_allowAllWeekdays_50 : decode cX5_allowAllWeekdays 50 = .ok (.bipush 15, 2) := by decide +kernel
theorem dX5_allowAllWeekdays_52 : decode cX5_allowAllWeekdays 52 = .ok (.iconst 4, 1) := by decide +kernel
theorem dX5_allowAllWeekdays_53 : decode cX5_allowAllWeekdays 53 = .ok (.iload_n 1, 1) := by decide +kernel
theorem dX5_allowAllWeekdays_54 : decode cX5_allowAllWeekdays 54 = .ok (.imul, 1) := by decide +kernel
theorem dX5_allowAllWeekdays_55 : decode cX5_allowAllWeekdays 55 = .ok (.iadd, 1) := by decide +kernel
theorem dX5_allowAllWeekdays_56 : decode cX5_allowAllWeekdays 56 = .ok (.iconst 3, 1) := by decide +kernel
theorem dX5_allowAllWeekdays_57 : decode cX5_allowAllWeekdays 57 = .ok (.iadd, 1) := by decide +kernel
theorem dX5_allowAllWeekdays_58 : decode cX5_allowAllWeekdays 58 = .ok (.iconst (-1), 1) := by decide +kernel
theorem dX5_allowAllWeekdays_59 : decode cX5_allowAllWeekdays 59 = .ok (.iastore, 1) := by decide +kernel
theorem dX5_allowAllWeekdays_60 : decode cX5_allowAllWeekdays 60 = .ok (.iload_n 2, 1) := by decide +kernel
theorem dX5_allowAllWeekdays_61 : decode cX5_allowAllWeekdays 61 = .ok (.ireturn, 1) := by decide +kernel
theorem dX5_feastCount_0 : decode cX5_feastCount 0 = .ok (.aload_n 0, 1) := by decide +kernel
theorem dX5_feastCount_1 : decode cX5_feastCount 1 = .ok (.iconst 0, 1) := by decide +kernel
theorem dX5_feastCount_2 : decode cX5_feastCount 2 = .ok (.putfield 29, 3) := by decide +kernel
theorem dX5_feastCount_5 : decode cX5_feastCount 5 = .ok (.aload_n 0, 1) := by decide +kernel
theorem dX5_feastCount_6 : decode cX5_feastCount 6 = .ok (.getfield 7, 3) := by decide +kernel
theorem dX5_feastCount_9 : decode cX5_feastCount 9 = .ok (.bipush 14, 2) := by decide +kernel
theorem dX5_feastCount_11 : decode cX5_feastCount 11 = .ok (.iaload, 1) := by decide +kernel
theorem dX5_feastCount_12 : decode cX5_feastCount 12 = .ok (.ireturn, 1) := by decide +kernel
set_option maxRecDepth 20000 in
theorem ggX5_feastTown_X5_isFeast : GoodIn wsX5_feastTown wsX5_isFeast := goodIn_r _ [6, 7, 8, 9, 5, 10, 19, 20, 21, 22, 23, 24, 25, 26, 27, 28] (by decide +kernel) (by decide +kernel)
set_option maxRecDepth 20000 in
theorem gX5_feastTown_X5_isFeast : GoodIn wsX5_feastTown (wsV RX5 87 RX5 yX5_isFeast wsX5_isFeast) := goodIn_app (goodIn_of _ (by decide +kernel)) ggX5_feastTown_X5_isFeast
set_option maxRecDepth 20000 in
theorem ggX5_feastTown_X5_feast : GoodIn wsX5_feastTown wsX5_feast := goodIn_r _ [14, 7, 19, 20, 21, 22, 23, 24, 25, 26, 27, 28] (by decide +kernel) (by decide +kernel)
set_option maxRecDepth 20000 in
theorem gX5_feastTown_X5_feast : GoodIn wsX5_feastTown (wsV RX5 90 RX5 yX5_feast wsX5_feast) := goodIn_app (goodIn_of _ (by decide +kernel)) ggX5_feastTown_X5_feast
set_option maxRecDepth 20000 in
theorem ggX5_feastTown_X5_fails : GoodIn wsX5_feastTown wsX5_fails := goodIn_r _ [18, 1, 19, 20, 21, 22, 23, 24, 25, 26, 27, 28] (by decide +kernel) (by decide +kernel)
set_option maxRecDepth 20000 in
theorem gX5_feastTown_X5_fails : GoodIn wsX5_feastTown (wsV RX5 40 RX5 yX5_fails wsX5_fails) := goodIn_app (goodIn_of _ (by decide +kernel)) ggX5_feastTown_X5_fails
theorem dX5_feastTown_0 : decode cX5_feastTown 0 = .ok (.aload_n 0, 1) := by decide +kernel
theorem dX5_feastTown_1 : decode cX5_feastTown 1 = .ok (.iconst 0, 1) := by decide +kernel
theorem dX5_feastTown_2 : decode cX5_feastTown 2 = .ok (.putfield 29, 3) := by decide +kernel
theorem dX5_feastTown_5 : decode cX5_feastTown 5 = .ok (.aload_n 0, 1) := by decide +kernel
theorem dX5_feastTown_6 : decode cX5_feastTown 6 = .ok (.iload_n 1, 1) := by decide +kernel
theorem dX5_feastTown_7 : decode cX5_feastTown 7 = .ok (.invokevirtual 87, 3) := by decide +kernel
theorem dX5_feastTown_10 : decode cX5_feastTown 10 = .ok (.ifCond .eq 12, 3) := by decide +kernel
theorem dX5_feastTown_13 : decode cX5_feastTown 13 = .ok (.aload_n 0, 1) := by decide +kernel
theorem dX5_feastTown_14 : decode cX5_feastTown 14 = .ok (.iload_n 1, 1) := by decide +kernel
theorem dX5_feastTown_15 : decode cX5_feastTown 15 = .ok (.iconst 0, 1) := by decide +kernel
theorem dX5_feastTown_16 : decode cX5_feastTown 16 = .ok (.invokevirtual 90, 3) := by decide +kernel
theorem dX5_feastTown_19 : decode cX5_feastTown 19 = .ok (.goto 8, 3) := by decide +kernel
theorem dX5_feastTown_22 : decode cX5_feastTown 22 = .ok (.aload_n 0, 1) := by decide +kernel
theorem dX5_feastTown_23 : decode cX5_feastTown 23 = .ok (.iconst 1, 1) := by decide +kernel
theorem dX5_feastTown_24 : decode cX5_feastTown 24 = .ok (.invokevirtual 40, 3) := by decide +kernel
theorem dX5_feastTown_27 : decode cX5_feastTown 27 = .ok (.ireturn, 1) := by decide +kernel
set_option maxRecDepth 20000 in
theorem ggX5_barredWeekday_X5_isFeast : GoodIn wsX5_barredWeekday wsX5_isFeast := goodIn_r _ [6, 7, 8, 9, 5, 10, 19, 20, 21, 22, 23, 24, 25, 26, 27, 28] (by decide +kernel) (by decide +kernel)
set_option maxRecDepth 20000 in
theorem gX5_barredWeekday_X5_isFeast : GoodIn wsX5_barredWeekday (wsV RX5 87 RX5 yX5_isFeast wsX5_isFeast) := goodIn_app (goodIn_of _ (by decide +kernel)) ggX5_barredWeekday_X5_isFeast
set_option maxRecDepth 20000 in
theorem ggX5_barredWeekday_X5_feast : GoodIn wsX5_barredWeekday wsX5_feast := goodIn_r _ [14, 7, 19, 20, 21, 22, 23, 24, 25, 26, 27, 28] (by decide +kernel) (by decide +kernel)
set_option maxRecDepth 20000 in
theorem gX5_barredWeekday_X5_feast : GoodIn wsX5_barredWeekday (wsV RX5 90 RX5 yX5_feast wsX5_feast) := goodIn_app (goodIn_of _ (by decide +kernel)) ggX5_barredWeekday_X5_feast
set_option maxRecDepth 20000 in
theorem ggX5_barredWeekday_X5_fails : GoodIn wsX5_barredWeekday wsX5_fails := goodIn_r _ [18, 1, 19, 20, 21, 22, 23, 24, 25, 26, 27, 28] (by decide +kernel) (by decide +kernel)
set_option maxRecDepth 20000 in
theorem gX5_barredWeekday_X5_fails : GoodIn wsX5_barredWeekday (wsV RX5 40 RX5 yX5_fails wsX5_fails) := goodIn_app (goodIn_of _ (by decide +kernel)) ggX5_barredWeekday_X5_fails
theorem dX5_barredWeekday_0 : decode cX5_barredWeekday 0 = .ok (.aload_n 0, 1) := by decide +kernel
theorem dX5_barredWeekday_1 : decode cX5_barredWeekday 1 = .ok (.iconst 0, 1) := by decide +kernel
theorem dX5_barredWeekday_2 : decode cX5_barredWeekday 2 = .ok (.putfield 29, 3) := by decide +kernel
theorem dX5_barredWeekday_5 : decode cX5_barredWeekday 5 = .ok (.aload_n 0, 1) := by decide +kernel
theorem dX5_barredWeekday_6 : decode cX5_barredWeekday 6 = .ok (.iload_n 1, 1) := by decide +kernel
theorem dX5_barredWeekday_7 : decode cX5_barredWeekday 7 = .ok (.invokevirtual 87, 3) := by decide +kernel
theorem dX5_barredWeekday_10 : decode cX5_barredWeekday 10 = .ok (.ifCond .eq 12, 3) := by decide +kernel
theorem dX5_barredWeekday_13 : decode cX5_barredWeekday 13 = .ok (.aload_n 0, 1) := by decide +kernel
theorem dX5_barredWeekday_14 : decode cX5_barredWeekday 14 = .ok (.iload_n 1, 1) := by decide +kernel
theorem dX5_barredWeekday_15 : decode cX5_barredWeekday 15 = .ok (.iconst 3, 1) := by decide +kernel
theorem dX5_barredWeekday_16 : decode cX5_barredWeekday 16 = .ok (.invokevirtual 90, 3) := by decide +kernel
theorem dX5_barredWeekday_19 : decode cX5_barredWeekday 19 = .ok (.goto 8, 3) := by decide +kernel
theorem dX5_barredWeekday_22 : decode cX5_barredWeekday 22 = .ok (.aload_n 0, 1) := by decide +kernel
theorem dX5_barredWeekday_23 : decode cX5_barredWeekday 23 = .ok (.iconst 1, 1) := by decide +kernel
theorem dX5_barredWeekday_24 : decode cX5_barredWeekday 24 = .ok (.invokevirtual 40, 3) := by decide +kernel
theorem dX5_barredWeekday_27 : decode cX5_barredWeekday 27 = .ok (.ireturn, 1) := by decide +kernel
set_option maxRecDepth 20000 in
theorem ggX5_due_X5_feast : GoodIn wsX5_due wsX5_feast := goodIn_r _ [5, 6, 32, 33, 34, 35, 36, 37, 38, 39, 40, 41] (by decide +kernel) (by decide +kernel)
set_option maxRecDepth 20000 in
theorem gX5_due_X5_feast : GoodIn wsX5_due (wsV RX5 90 RX5 yX5_feast wsX5_feast) := goodIn_app (goodIn_of _ (by decide +kernel)) ggX5_due_X5_feast
set_option maxRecDepth 20000 in
theorem ggX5_due_X5_lengthOf : GoodIn wsX5_due wsX5_lengthOf := goodIn_r _ [9] (by decide +kernel) (by decide +kernel)
set_option maxRecDepth 20000 in
theorem gX5_due_X5_lengthOf : GoodIn wsX5_due (va_wsS RX5 58 yX5_lengthOf wsX5_lengthOf) := goodIn_app (goodIn_of _ (by decide +kernel)) ggX5_due_X5_lengthOf
set_option maxRecDepth 20000 in
theorem ggX5_due_X5_yearLength : GoodIn wsX5_due wsX5_yearLength := goodIn_r _ [12, 13, 14, 4, 15, 7, 8, 9] (by decide +kernel) (by decide +kernel)
set_option maxRecDepth 20000 in
theorem gX5_due_X5_yearLength : GoodIn wsX5_due (va_wsS RX5 68 yX5_yearLength wsX5_yearLength) := goodIn_app (goodIn_of _ (by decide +kernel)) ggX5_due_X5_yearLength
set_option maxRecDepth 20000 in
theorem ggX5_due_X5_daysAhead : GoodIn wsX5_due wsX5_daysAhead := goodIn_r _ [15, 7, 8, 4, 9] (by decide +kernel) (by decide +kernel)
set_option maxRecDepth 20000 in
theorem gX5_due_X5_daysAhead : GoodIn wsX5_due (va_wsS RX5 62 yX5_daysAhead wsX5_daysAhead) := goodIn_app (goodIn_of _ (by decide +kernel)) ggX5_due_X5_daysAhead
set_option maxRecDepth 20000 in
theorem ggX5_due_X5_firstDay : GoodIn wsX5_due wsX5_firstDay := goodIn_r _ [19, 20, 21, 22, 4, 23, 6, 24, 25, 26, 27, 32, 33, 34, 35, 36, 37, 38, 39, 40, 41] (by decide +kernel) (by decide +kernel)
set_option maxRecDepth 20000 in
theorem gX5_due_X5_firstDay : GoodIn wsX5_due (wsV RX5 80 RX5 yX5_firstDay wsX5_firstDay) := goodIn_app (goodIn_of _ (by decide +kernel)) ggX5_due_X5_firstDay
set_option maxRecDepth 20000 in
theorem ggX5_due_X5_calendar : GoodIn wsX5_due wsX5_calendar := goodIn_r _ [31, 20, 21, 22, 4, 23, 6, 24, 25, 26, 27, 32, 33, 34, 35, 36, 37, 38, 39, 40, 41] (by decide +kernel) (by decide +kernel)
set_option maxRecDepth 20000 in
theorem gX5_due_X5_calendar : GoodIn wsX5_due (wsV RX5 65 RX5 yX5_calendar wsX5_calendar) := goodIn_app (goodIn_of _ (by decide +kernel)) ggX5_due_X5_calendar
theorem dX5_due_0 : decode cX5_due 0 = .ok (.aload_n 0, 1) := by decide +kernel
theorem dX5_due_1 : decode cX5_due 1 = .ok (.iload_n 1, 1) := by decide +kernel
theorem dX5_due_2 : decode cX5_due 2 = .ok (.iconst 0, 1) := by decide +kernel
theorem dX5_due_3 : decode cX5_due 3 = .ok (.invokevirtual 90, 3) := by decide +kernel
theorem dX5_due_6 : decode cX5_due 6 = .ok (.istore_n 3, 1) := by decide +kernel
theorem dX5_due_7 : decode cX5_due 7 = .ok (.aload_n 0, 1) := by decide +kernel
theorem dX5_due_8 : decode cX5_due 8 = .ok (.iload_n 1, 1) := by decide +kernel
theorem dX5_due_9 : decode cX5_due 9 = .ok (.iconst 1, 1) := by decide +kernel
theorem dX5_due_10 : decode cX5_due 10 = .ok (.invokevirtual 90, 3) := by decide +kernel
theorem dX5_due_13 : decode cX5_due 13 = .ok (.istore 4, 2) := by decide +kernel
theorem dX5_due_15 : decode cX5_due 15 = .ok (.aload_n 0, 1) := by decide +kernel
theorem dX5_due_16 : decode cX5_due 16 = .ok (.iload_n 1, 1) := by decide +kernel
theorem dX5_due_17 : decode cX5_due 17 = .ok (.iconst 2, 1) := by decide +kernel
theorem dX5_due_18 : decode cX5_due 18 = .ok (.invokevirtual 90, 3) := by decide +kernel
theorem dX5_due_21 : decode cX5_due 21 = .ok (.iconst 1, 1) := by decide +kernel
theorem dX5_due_22 : decode cX5_due 22 = .ok (.isub, 1) := by decide +kernel
theorem dX5_due_23 : decode cX5_due 23 = .ok (.istore 5, 2) := by decide +kernel
theorem dX5_due_25 : decode cX5_due 25 = .ok (.iload_n 3, 1) := by decide +kernel
theorem dX5_due_26 : decode cX5_due 26 = .ok (.iload 4, 2) := by decide +kernel
theorem dX5_due_28 : decode cX5_due 28 = .ok (.invokestatic 58, 3) := by decide +kernel
theorem dX5_due_31 : decode cX5_due 31 = .ok (.istore 6, 2) := by decide +kernel
theorem dX5_due_33 : decode cX5_due 33 = .ok (.iload_n 2, 1) := by decide +kernel
theorem dX5_due_34 : decode cX5_due 34 = .ok (.iconst 1, 1) := by decide +kernel
theorem dX5_due_35 : decode cX5_due 35 = .ok (.isub, 1) := by decide +kernel
theorem dX5_due_36 : decode cX5_due 36 = .ok (.iload_n 3, 1) := by decide +kernel
theorem dX5_due_37 : decode cX5_due 37 = .ok (.invokestatic 68, 3) := by decide +kernel
theorem dX5_due_40 : decode cX5_due 40 = .ok (.imul, 1) := by decide +kernel
theorem dX5_due_41 : decode cX5_due 41 = .ok (.istore 7, 2) := by decide +kernel
theorem dX5_due_43 : decode cX5_due 43 = .ok (.iload 7, 2) := by decide +kernel
theorem dX5_due_45 : decode cX5_due 45 = .ok (.iload_n 3, 1) := by decide +kernel
theorem dX5_due_46 : decode cX5_due 46 = .ok (.iload 4, 2) := by decide +kernel
theorem dX5_due_48 : decode cX5_due 48 = .ok (.invokestatic 62, 3) := by decide +kernel
theorem dX5_due_51 : decode cX5_due 51 = .ok (.iadd, 1) := by decide +kernel
theorem dX5_due_52 : decode cX5_due 52 = .ok (.iload 5, 2) := by decide +kernel
theorem dX5_due_54 : decode cX5_due 54 = .ok (.iload 6, 2) := by decide +kernel
theorem dX5_due_56 : decode cX5_due 56 = .ok (.if_icmp .ge 8, 3) := by decide +kernel
theorem dX5_due_59 : decode cX5_due 59 = .ok (.iload 5, 2) := by decide +kernel
theorem dX5_due_61 : decode cX5_due 61 = .ok (.goto 5, 3) := by decide +kernel
theorem dX5_due_64 : decode cX5_due 64 = .ok (.iload 6, 2) := by decide +kernel
theorem dX5_due_66 : decode cX5_due 66 = .ok (.iadd, 1) := by decide +kernel
theorem dX5_due_67 : decode cX5_due 67 = .ok (.istore 8, 2) := by decide +kernel
theorem dX5_due_69 : decode cX5_due 69 = .ok (.aload_n 0, 1) := by decide +kernel
theorem dX5_due_70 : decode cX5_due 70 = .ok (.iload_n 3, 1) := by decide +kernel
theorem dX5_due_71 : decode cX5_due 71 = .ok (.iload 8, 2) := by decide +kernel
theorem dX5_due_73 : decode cX5_due 73 = .ok (.invokevirtual 80, 3) := by decide +kernel
theorem dX5_due_76 : decode cX5_due 76 = .ok (.istore 9, 2) := by decide +kernel
theorem dX5_due_78 : decode cX5_due 78 = .ok (.aload_n 0, 1) := by decide +kernel
theorem dX5_due_79 : decode cX5_due 79 = .ok (.iload_n 3, 1) := by decide +kernel
theorem dX5_due_80 : decode cX5_due 80 = .ok (.iload 9, 2) := by decide +kernel
theorem dX5_due_82 : decode cX5_due 82 = .ok (.invokevirtual 65, 3) := by decide +kernel
theorem dX5_due_85 : decode cX5_due 85 = .ok (.iload 7, 2) := by decide +kernel
theorem dX5_due_87 : decode cX5_due 87 = .ok (.iload_n 3, 1) := by decide +kernel
theorem dX5_due_88 : decode cX5_due 88 = .ok (.invokestatic 68, 3) := by decide +kernel
theorem dX5_due_91 : decode cX5_due 91 = .ok (.iadd, 1) := by decide +kernel
theorem dX5_due_92 : decode cX5_due 92 = .ok (.if_icmp .ge 8, 3) := by decide +kernel
theorem dX5_due_95 : decode cX5_due 95 = .ok (.iload 9, 2) := by decide +kernel
theorem dX5_due_97 : decode cX5_due 97 = .ok (.goto 4, 3) := by decide +kernel
theorem dX5_due_100 : decode cX5_due 100 = .ok (.iconst (-1), 1) := by decide +kernel
theorem dX5_due_101 : decode cX5_due 101 = .ok (.ireturn, 1) := by decide +kernel
set_option maxRecDepth 20000 in
theorem ggX5_kept_X5_due : GoodIn wsX5_kept wsX5_due := goodIn_r _ [6, 7, 8, 9, 5, 10, 1, 11, 12, 13, 14, 15, 16, 17, 18, 19, 20, 21, 22, 23, 24, 25, 26, 27, 28, 29, 30, 31, 32, 33, 34, 35, 36, 37, 38, 39, 40, 41, 42, 43, 44, 45] (by decide +kernel) (by decide +kernel)
set_option maxRecDepth 20000 in
theorem gX5_kept_X5_due : GoodIn wsX5_kept (wsV RX5 93 RX5 yX5_due wsX5_due) := goodIn_app (goodIn_of _ (by decide +kernel)) ggX5_kept_X5_due
set_option maxRecDepth 20000 in
theorem ggX5_kept_X5_feast : GoodIn wsX5_kept wsX5_feast := goodIn_r _ [10, 1, 36, 37, 38, 39, 40, 41, 42, 43, 44, 45] (by decide +kernel) (by decide +kernel)
set_option maxRecDepth 20000 in
theorem gX5_kept_X5_feast : GoodIn wsX5_kept (wsV RX5 90 RX5 yX5_feast wsX5_feast) := goodIn_app (goodIn_of _ (by decide +kernel)) ggX5_kept_X5_feast
theorem dX5_kept_0 : decode cX5_kept 0 = .ok (.aload_n 0, 1) := by decide +kernel
theorem dX5_kept_1 : decode cX5_kept 1 = .ok (.iload_n 1, 1) := by decide +kernel
theorem dX5_kept_2 : decode cX5_kept 2 = .ok (.iload_n 2, 1) := by decide +kernel
theorem dX5_kept_3 : decode cX5_kept 3 = .ok (.invokevirtual 93, 3) := by decide +kernel
theorem dX5_kept_6 : decode cX5_kept 6 = .ok (.istore_n 3, 1) := by decide +kernel
theorem dX5_kept_7 : decode cX5_kept 7 = .ok (.aload_n 0, 1) := by decide +kernel
theorem dX5_kept_8 : decode cX5_kept 8 = .ok (.getfield 7, 3) := by decide +kernel
theorem dX5_kept_11 : decode cX5_kept 11 = .ok (.bipush 55, 2) := by decide +kernel
theorem dX5_kept_13 : decode cX5_kept 13 = .ok (.iaload, 1) := by decide +kernel
theorem dX5_kept_14 : decode cX5_kept 14 = .ok (.bipush 7, 2) := by decide +kernel
theorem dX5_kept_16 : decode cX5_kept 16 = .ok (.if_icmp .ne 7, 3) := by decide +kernel
theorem dX5_kept_19 : decode cX5_kept 19 = .ok (.iconst 1, 1) := by decide +kernel
theorem dX5_kept_20 : decode cX5_kept 20 = .ok (.goto 10, 3) := by decide +kernel
theorem dX5_kept_23 : decode cX5_kept 23 = .ok (.aload_n 0, 1) := by decide +kernel
theorem dX5_kept_24 : decode cX5_kept 24 = .ok (.getfield 7, 3) := by decide +kernel
theorem dX5_kept_27 : decode cX5_kept 27 = .ok (.bipush 55, 2) := by decide +kernel
theorem dX5_kept_29 : decode cX5_kept 29 = .ok (.iaload, 1) := by decide +kernel
theorem dX5_kept_30 : decode cX5_kept 30 = .ok (.istore 4, 2) := by decide +kernel
theorem dX5_kept_32 : decode cX5_kept 32 = .ok (.iload_n 3, 1) := by decide +kernel
theorem dX5_kept_33 : decode cX5_kept 33 = .ok (.iconst (-1), 1) := by decide +kernel
theorem dX5_kept_34 : decode cX5_kept 34 = .ok (.if_icmp .eq 23, 3) := by decide +kernel
theorem dX5_kept_37 : decode cX5_kept 37 = .ok (.iload_n 3, 1) := by decide +kernel
theorem dX5_kept_38 : decode cX5_kept 38 = .ok (.bipush 7, 2) := by decide +kernel
theorem dX5_kept_40 : decode cX5_kept 40 = .ok (.irem, 1) := by decide +kernel
theorem dX5_kept_41 : decode cX5_kept 41 = .ok (.aload_n 0, 1) := by decide +kernel
theorem dX5_kept_42 : decode cX5_kept 42 = .ok (.iload_n 1, 1) := by decide +kernel
theorem dX5_kept_43 : decode cX5_kept 43 = .ok (.iconst 3, 1) := by decide +kernel
theorem dX5_kept_44 : decode cX5_kept 44 = .ok (.invokevirtual 90, 3) := by decide +kernel
theorem dX5_kept_47 : decode cX5_kept 47 = .ok (.if_icmp .ne 10, 3) := by decide +kernel
theorem dX5_kept_50 : decode cX5_kept 50 = .ok (.iload_n 3, 1) := by decide +kernel
theorem dX5_kept_51 : decode cX5_kept 51 = .ok (.iload 4, 2) := by decide +kernel
theorem dX5_kept_53 : decode cX5_kept 53 = .ok (.iadd, 1) := by decide +kernel
theorem dX5_kept_54 : decode cX5_kept 54 = .ok (.goto 4, 3) := by decide +kernel
theorem dX5_kept_57 : decode cX5_kept 57 = .ok (.iload_n 3, 1) := by decide +kernel
theorem dX5_kept_58 : decode cX5_kept 58 = .ok (.ireturn, 1) := by decide +kernel
set_option maxRecDepth 20000 in
theorem ggX5_dayDue_X5_isFeast : GoodIn wsX5_dayDue wsX5_isFeast := goodIn_r _ [6, 7, 8, 9, 5, 10, 48, 49, 50, 51, 52, 53, 54, 55, 56, 57] (by decide +kernel) (by decide +kernel)
set_option maxRecDepth 20000 in
theorem gX5_dayDue_X5_isFeast : GoodIn wsX5_dayDue (wsV RX5 87 RX5 yX5_isFeast wsX5_isFeast) := goodIn_app (goodIn_of _ (by decide +kernel)) ggX5_dayDue_X5_isFeast
set_option maxRecDepth 20000 in
theorem ggX5_dayDue_X5_fails : GoodIn wsX5_dayDue wsX5_fails := goodIn_r _ [14, 1, 48, 49, 50, 51, 52, 53, 54, 55, 56, 57] (by decide +kernel) (by decide +kernel)
set_option maxRecDepth 20000 in
theorem gX5_dayDue_X5_fails : GoodIn wsX5_dayDue (wsV RX5 40 RX5 yX5_fails wsX5_fails) := goodIn_app (goodIn_of _ (by decide +kernel)) ggX5_dayDue_X5_fails
set_option maxRecDepth 20000 in
theorem ggX5_dayDue_X5_in : GoodIn wsX5_dayDue wsX5_in := goodIn_r _ [10] (by decide +kernel) (by decide +kernel)
set_option maxRecDepth 20000 in
theorem gX5_dayDue_X5_in : GoodIn wsX5_dayDue (va_wsS RX5 33 yX5_in wsX5_in) := goodIn_app (goodIn_of _ (by decide +kernel)) ggX5_dayDue_X5_in
set_option maxRecDepth 20000 in
theorem ggX5_dayDue_X5_due : GoodIn wsX5_dayDue wsX5_due := goodIn_r _ [18, 19, 20, 21, 5, 22, 7, 23, 24, 25, 26, 27, 28, 29, 30, 31, 32, 33, 34, 35, 36, 37, 38, 39, 40, 41, 42, 43, 44, 45, 46, 47, 48, 49, 50, 51, 52, 53, 54, 55, 56, 57] (by decide +kernel) (by decide +kernel)
set_option maxRecDepth 20000 in
theorem gX5_dayDue_X5_due : GoodIn wsX5_dayDue (wsV RX5 93 RX5 yX5_due wsX5_due) := goodIn_app (goodIn_of _ (by decide +kernel)) ggX5_dayDue_X5_due
theorem dX5_dayDue_0 : decode cX5_dayDue 0 = .ok (.aload_n 0, 1) := by decide +kernel
theorem dX5_dayDue_1 : decode cX5_dayDue 1 = .ok (.iconst 0, 1) := by decide +kernel
theorem dX5_dayDue_2 : decode cX5_dayDue 2 = .ok (.putfield 29, 3) := by decide +kernel
theorem dX5_dayDue_5 : decode cX5_dayDue 5 = .ok (.aload_n 0, 1) := by decide +kernel
theorem dX5_dayDue_6 : decode cX5_dayDue 6 = .ok (.iload_n 1, 1) := by decide +kernel
theorem dX5_dayDue_7 : decode cX5_dayDue 7 = .ok (.invokevirtual 87, 3) := by decide +kernel
theorem dX5_dayDue_10 : decode cX5_dayDue 10 = .ok (.ifCond .ne 9, 3) := by decide +kernel
theorem dX5_dayDue_13 : decode cX5_dayDue 13 = .ok (.aload_n 0, 1) := by decide +kernel
theorem dX5_dayDue_14 : decode cX5_dayDue 14 = .ok (.iconst 1, 1) := by decide +kernel
theorem dX5_dayDue_15 : decode cX5_dayDue 15 = .ok (.invokevirtual 40, 3) := by decide +kernel
theorem dX5_dayDue_18 : decode cX5_dayDue 18 = .ok (.ireturn, 1) := by decide +kernel
theorem dX5_dayDue_19 : decode cX5_dayDue 19 = .ok (.iload_n 2, 1) := by decide +kernel
theorem dX5_dayDue_20 : decode cX5_dayDue 20 = .ok (.iconst 1, 1) := by decide +kernel
theorem dX5_dayDue_21 : decode cX5_dayDue 21 = .ok (.bipush 60, 2) := by decide +kernel
theorem dX5_dayDue_23 : decode cX5_dayDue 23 = .ok (.invokestatic 33, 3) := by decide +kernel
theorem dX5_dayDue_26 : decode cX5_dayDue 26 = .ok (.ifCond .eq 12, 3) := by decide +kernel
theorem dX5_dayDue_29 : decode cX5_dayDue 29 = .ok (.aload_n 0, 1) := by decide +kernel
theorem dX5_dayDue_30 : decode cX5_dayDue 30 = .ok (.iload_n 1, 1) := by decide +kernel
theorem dX5_dayDue_31 : decode cX5_dayDue 31 = .ok (.iload_n 2, 1) := by decide +kernel
theorem dX5_dayDue_32 : decode cX5_dayDue 32 = .ok (.invokevirtual 93, 3) := by decide +kernel
theorem dX5_dayDue_35 : decode cX5_dayDue 35 = .ok (.goto 8, 3) := by decide +kernel
theorem dX5_dayDue_38 : decode cX5_dayDue 38 = .ok (.aload_n 0, 1) := by decide +kernel
theorem dX5_dayDue_39 : decode cX5_dayDue 39 = .ok (.iconst 2, 1) := by decide +kernel
theorem dX5_dayDue_40 : decode cX5_dayDue 40 = .ok (.invokevirtual 40, 3) := by decide +kernel
theorem dX5_dayDue_43 : decode cX5_dayDue 43 = .ok (.ireturn, 1) := by decide +kernel
set_option maxRecDepth 20000 in
theorem ggX5_dayKept_X5_isFeast : GoodIn wsX5_dayKept wsX5_isFeast := goodIn_r _ [6, 7, 8, 9, 5, 10, 52, 53, 54, 55, 56, 57, 58, 59, 60, 61] (by decide +kernel) (by decide +kernel)
set_option maxRecDepth 20000 in
theorem gX5_dayKept_X5_isFeast : GoodIn wsX5_dayKept (wsV RX5 87 RX5 yX5_isFeast wsX5_isFeast) := goodIn_app (goodIn_of _ (by decide +kernel)) ggX5_dayKept_X5_isFeast
set_option maxRecDepth 20000 in
theorem ggX5_dayKept_X5_fails : GoodIn wsX5_dayKept wsX5_fails := goodIn_r _ [14, 1, 52, 53, 54, 55, 56, 57, 58, 59, 60, 61] (by decide +kernel) (by decide +kernel)
set_option maxRecDepth 20000 in
theorem gX5_dayKept_X5_fails : GoodIn wsX5_dayKept (wsV RX5 40 RX5 yX5_fails wsX5_fails) := goodIn_app (goodIn_of _ (by decide +kernel)) ggX5_dayKept_X5_fails
set_option maxRecDepth 20000 in
theorem ggX5_dayKept_X5_in : GoodIn wsX5_dayKept wsX5_in := goodIn_r _ [10] (by decide +kernel) (by decide +kernel)
set_option maxRecDepth 20000 in
theorem gX5_dayKept_X5_in : GoodIn wsX5_dayKept (va_wsS RX5 33 yX5_in wsX5_in) := goodIn_app (goodIn_of _ (by decide +kernel)) ggX5_dayKept_X5_in
set_option maxRecDepth 20000 in
theorem ggX5_dayKept_X5_kept : GoodIn wsX5_dayKept wsX5_kept := goodIn_r _ [18, 7, 19, 20, 21, 5, 22, 23, 24, 25, 26, 27, 28, 29, 30, 31, 32, 33, 34, 35, 36, 37, 38, 39, 40, 41, 42, 43, 44, 45, 46, 47, 48, 49, 50, 51, 52, 53, 54, 55, 56, 57, 58, 59, 60, 61] (by decide +kernel) (by decide +kernel)
set_option maxRecDepth 20000 in
theorem gX5_dayKept_X5_kept : GoodIn wsX5_dayKept (wsV RX5 96 RX5 yX5_kept wsX5_kept) := goodIn_app (goodIn_of _ (by decide +kernel)) ggX5_dayKept_X5_kept
theorem dX5_dayKept_0 : decode cX5_dayKept 0 = .ok (.aload_n 0, 1) := by decide +kernel
theorem dX5_dayKept_1 : decode cX5_dayKept 1 = .ok (.iconst 0, 1) := by decide +kernel
theorem dX5_dayKept_2 : decode cX5_dayKept 2 = .ok (.putfield 29, 3) := by decide +kernel
theorem dX5_dayKept_5 : decode cX5_dayKept 5 = .ok (.aload_n 0, 1) := by decide +kernel
theorem dX5_dayKept_6 : decode cX5_dayKept 6 = .ok (.iload_n 1, 1) := by decide +kernel
theorem dX5_dayKept_7 : decode cX5_dayKept 7 = .ok (.invokevirtual 87, 3) := by decide +kernel
theorem dX5_dayKept_10 : decode cX5_dayKept 10 = .ok (.ifCond .ne 9, 3) := by decide +kernel
theorem dX5_dayKept_13 : decode cX5_dayKept 13 = .ok (.aload_n 0, 1) := by decide +kernel
theorem dX5_dayKept_14 : decode cX5_dayKept 14 = .ok (.iconst 1, 1) := by decide +kernel
theorem dX5_dayKept_15 : decode cX5_dayKept 15 = .ok (.invokevirtual 40, 3) := by decide +kernel
theorem dX5_dayKept_18 : decode cX5_dayKept 18 = .ok (.ireturn, 1) := by decide +kernel
theorem dX5_dayKept_19 : decode cX5_dayKept 19 = .ok (.iload_n 2, 1) := by decide +kernel
theorem dX5_dayKept_20 : decode cX5_dayKept 20 = .ok (.iconst 1, 1) := by decide +kernel
theorem dX5_dayKept_21 : decode cX5_dayKept 21 = .ok (.bipush 60, 2) := by decide +kernel
theorem dX5_dayKept_23 : decode cX5_dayKept 23 = .ok (.invokestatic 33, 3) := by decide +kernel
theorem dX5_dayKept_26 : decode cX5_dayKept 26 = .ok (.ifCond .eq 12, 3) := by decide +kernel
theorem dX5_dayKept_29 : decode cX5_dayKept 29 = .ok (.aload_n 0, 1) := by decide +kernel
theorem dX5_dayKept_30 : decode cX5_dayKept 30 = .ok (.iload_n 1, 1) := by decide +kernel
theorem dX5_dayKept_31 : decode cX5_dayKept 31 = .ok (.iload_n 2, 1) := by decide +kernel
theorem dX5_dayKept_32 : decode cX5_dayKept 32 = .ok (.invokevirtual 96, 3) := by decide +kernel
theorem dX5_dayKept_35 : decode cX5_dayKept 35 = .ok (.goto 8, 3) := by decide +kernel
theorem dX5_dayKept_38 : decode cX5_dayKept 38 = .ok (.aload_n 0, 1) := by decide +kernel
theorem dX5_dayKept_39 : decode cX5_dayKept 39 = .ok (.iconst 2, 1) := by decide +kernel
theorem dX5_dayKept_40 : decode cX5_dayKept 40 = .ok (.invokevirtual 40, 3) := by decide +kernel
theorem dX5_dayKept_43 : decode cX5_dayKept 43 = .ok (.ireturn, 1) := by decide +kernel
set_option maxRecDepth 20000 in
theorem ggX5_isOn_X5_feast : GoodIn wsX5_isOn wsX5_feast := goodIn_r _ [5, 6, 44, 45, 46, 47, 48, 49, 50, 51, 52, 53] (by decide +kernel) (by decide +kernel)
set_option maxRecDepth 20000 in
theorem gX5_isOn_X5_feast : GoodIn wsX5_isOn (wsV RX5 90 RX5 yX5_feast wsX5_feast) := goodIn_app (goodIn_of _ (by decide +kernel)) ggX5_isOn_X5_feast
set_option maxRecDepth 20000 in
theorem ggX5_isOn_X5_yearAt : GoodIn wsX5_isOn wsX5_yearAt := goodIn_r _ [10, 11, 12, 13, 4, 14, 15, 16, 17, 18, 6, 19, 20, 21, 22, 23, 24, 25, 26, 27, 28, 29, 30, 31, 44, 45, 46, 47, 48, 49, 50, 51, 52, 53] (by decide +kernel) (by decide +kernel)
set_option maxRecDepth 20000 in
theorem gX5_isOn_X5_yearAt : GoodIn wsX5_isOn (wsV RX5 77 RX5 yX5_yearAt wsX5_yearAt) := goodIn_app (goodIn_of _ (by decide +kernel)) ggX5_isOn_X5_yearAt
set_option maxRecDepth 20000 in
theorem ggX5_isOn_X5_kept : GoodIn wsX5_isOn wsX5_kept := goodIn_r _ [35, 6, 36, 37, 38, 4, 39, 1, 2, 3, 5, 29, 30, 31, 23, 24, 25, 26, 27, 28, 40, 41, 42, 43, 15, 16, 17, 18, 19, 20, 21, 22, 11, 12, 13, 14, 44, 45, 46, 47, 48, 49, 50, 51, 52, 53] (by decide +kernel) (by decide +kernel)
set_option maxRecDepth 20000 in
theorem gX5_isOn_X5_kept : GoodIn wsX5_isOn (wsV RX5 96 RX5 yX5_kept wsX5_kept) := goodIn_app (goodIn_of _ (by decide +kernel)) ggX5_isOn_X5_kept
theorem dX5_isOn_0 : decode cX5_isOn 0 = .ok (.aload_n 0, 1) := by decide +kernel
theorem dX5_isOn_1 : decode cX5_isOn 1 = .ok (.aload_n 0, 1) := by decide +kernel
theorem dX5_isOn_2 : decode cX5_isOn 2 = .ok (.iload_n 1, 1) := by decide +kernel
theorem dX5_isOn_3 : decode cX5_isOn 3 = .ok (.iconst 0, 1) := by decide +kernel
theorem dX5_isOn_4 : decode cX5_isOn 4 = .ok (.invokevirtual 90, 3) := by decide +kernel
theorem dX5_isOn_7 : decode cX5_isOn 7 = .ok (.iload_n 2, 1) := by decide +kernel
theorem dX5_isOn_8 : decode cX5_isOn 8 = .ok (.invokevirtual 77, 3) := by decide +kernel
theorem dX5_isOn_11 : decode cX5_isOn 11 = .ok (.istore_n 3, 1) := by decide +kernel
theorem dX5_isOn_12 : decode cX5_isOn 12 = .ok (.aload_n 0, 1) := by decide +kernel
theorem dX5_isOn_13 : decode cX5_isOn 13 = .ok (.iload_n 1, 1) := by decide +kernel
theorem dX5_isOn_14 : decode cX5_isOn 14 = .ok (.iload_n 3, 1) := by decide +kernel
theorem dX5_isOn_15 : decode cX5_isOn 15 = .ok (.invokevirtual 96, 3) := by decide +kernel
theorem dX5_isOn_18 : decode cX5_isOn 18 = .ok (.iload_n 2, 1) := by decide +kernel
theorem dX5_isOn_19 : decode cX5_isOn 19 = .ok (.if_icmp .eq 20, 3) := by decide +kernel
theorem dX5_isOn_22 : decode cX5_isOn 22 = .ok (.iload_n 3, 1) := by decide +kernel
theorem dX5_isOn_23 : decode cX5_isOn 23 = .ok (.iconst 1, 1) := by decide +kernel
theorem dX5_isOn_24 : decode cX5_isOn 24 = .ok (.if_icmp .le 19, 3) := by decide +kernel
theorem dX5_isOn_27 : decode cX5_isOn 27 = .ok (.aload_n 0, 1) := by decide +kernel
theorem dX5_isOn_28 : decode cX5_isOn 28 = .ok (.iload_n 1, 1) := by decide +kernel
theorem dX5_isOn_29 : decode cX5_isOn 29 = .ok (.iload_n 3, 1) := by decide +kernel
theorem dX5_isOn_30 : decode cX5_isOn 30 = .ok (.iconst 1, 1) := by decide +kernel
theorem dX5_isOn_31 : decode cX5_isOn 31 = .ok (.isub, 1) := by decide +kernel
theorem dX5_isOn_32 : decode cX5_isOn 32 = .ok (.invokevirtual 96, 3) := by decide +kernel
theorem dX5_isOn_35 : decode cX5_isOn 35 = .ok (.iload_n 2, 1) := by decide +kernel
theorem dX5_isOn_36 : decode cX5_isOn 36 = .ok (.if_icmp .ne 7, 3) := by decide +kernel
theorem dX5_isOn_39 : decode cX5_isOn 39 = .ok (.iconst 1, 1) := by decide +kernel
theorem dX5_isOn_40 : decode cX5_isOn 40 = .ok (.goto 4, 3) := by decide +kernel
theorem dX5_isOn_43 : decode cX5_isOn 43 = .ok (.iconst 0, 1) := by decide +kernel
theorem dX5_isOn_44 : decode cX5_isOn 44 = .ok (.ireturn, 1) := by decide +kernel
set_option maxRecDepth 20000 in
theorem ggX5_isKept_X5_isFeast : GoodIn wsX5_isKept wsX5_isFeast := goodIn_r _ [6, 7, 8, 9, 5, 10, 60, 61, 62, 63, 64, 65, 66, 67, 68, 69] (by decide +kernel) (by decide +kernel)
set_option maxRecDepth 20000 in
theorem gX5_isKept_X5_isFeast : GoodIn wsX5_isKept (wsV RX5 87 RX5 yX5_isFeast wsX5_isFeast) := goodIn_app (goodIn_of _ (by decide +kernel)) ggX5_isKept_X5_isFeast
set_option maxRecDepth 20000 in
theorem ggX5_isKept_X5_fails : GoodIn wsX5_isKept wsX5_fails := goodIn_r _ [14, 1, 60, 61, 62, 63, 64, 65, 66, 67, 68, 69] (by decide +kernel) (by decide +kernel)
set_option maxRecDepth 20000 in
theorem gX5_isKept_X5_fails : GoodIn wsX5_isKept (wsV RX5 40 RX5 yX5_fails wsX5_fails) := goodIn_app (goodIn_of _ (by decide +kernel)) ggX5_isKept_X5_fails
set_option maxRecDepth 20000 in
theorem ggX5_isKept_X5_in : GoodIn wsX5_isKept wsX5_in := goodIn_r _ [10] (by decide +kernel) (by decide +kernel)
set_option maxRecDepth 20000 in
theorem gX5_isKept_X5_in : GoodIn wsX5_isKept (va_wsS RX5 33 yX5_in wsX5_in) := goodIn_app (goodIn_of _ (by decide +kernel)) ggX5_isKept_X5_in
set_option maxRecDepth 20000 in
theorem ggX5_isKept_X5_isOn : GoodIn wsX5_isKept wsX5_isOn := goodIn_r _ [18, 19, 20, 21, 5, 22, 7, 23, 24, 25, 26, 27, 28, 29, 30, 31, 32, 33, 34, 35, 36, 37, 38, 39, 40, 41, 42, 43, 44, 45, 46, 47, 48, 49, 50, 51, 52, 53, 54, 55, 56, 57, 58, 59, 60, 61, 62, 63, 64, 65, 66, 67, 68, 69] (by decide +kernel) (by decide +kernel)
set_option maxRecDepth 20000 in
theorem gX5_isKept_X5_isOn : GoodIn wsX5_isKept (wsV RX5 99 RX5 yX5_isOn wsX5_isOn) := goodIn_app (goodIn_of _ (by decide +kernel)) ggX5_isKept_X5_isOn
theorem dX5_isKept_0 : decode cX5_isKept 0 = .ok (.aload_n 0, 1) := by decide +kernel
theorem dX5_isKept_1 : decode cX5_isKept 1 = .ok (.iconst 0, 1) := by decide +kernel
theorem dX5_isKept_2 : decode cX5_isKept 2 = .ok (.putfield 29, 3) := by decide +kernel
theorem dX5_isKept_5 : decode cX5_isKept 5 = .ok (.aload_n 0, 1) := by decide +kernel
theorem dX5_isKept_6 : decode cX5_isKept 6 = .ok (.iload_n 1, 1) := by decide +kernel
theorem dX5_isKept_7 : decode cX5_isKept 7 = .ok (.invokevirtual 87, 3) := by decide +kernel
theorem dX5_isKept_10 : decode cX5_isKept 10 = .ok (.ifCond .ne 17, 3) := by decide +kernel
theorem dX5_isKept_13 : decode cX5_isKept 13 = .ok (.aload_n 0, 1) := by decide +kernel
theorem dX5_isKept_14 : decode cX5_isKept 14 = .ok (.iconst 1, 1) := by decide +kernel
theorem dX5_isKept_15 : decode cX5_isKept 15 = .ok (.invokevirtual 40, 3) := by decide +kernel
theorem dX5_isKept_18 : decode cX5_isKept 18 = .ok (.ifCond .eq 7, 3) := by decide +kernel
theorem dX5_isKept_21 : decode cX5_isKept 21 = .ok (.iconst 1, 1) := by decide +kernel
theorem dX5_isKept_22 : decode cX5_isKept 22 = .ok (.goto 4, 3) := by decide +kernel
theorem dX5_isKept_25 : decode cX5_isKept 25 = .ok (.iconst 0, 1) := by decide +kernel
theorem dX5_isKept_26 : decode cX5_isKept 26 = .ok (.ireturn, 1) := by decide +kernel
theorem dX5_isKept_27 : decode cX5_isKept 27 = .ok (.iload_n 2, 1) := by decide +kernel
theorem dX5_isKept_28 : decode cX5_isKept 28 = .ok (.iconst 0, 1) := by decide +kernel
theorem dX5_isKept_29 : decode cX5_isKept 29 = .ok (.sipush 20000, 3) := by decide +kernel
theorem dX5_isKept_32 : decode cX5_isKept 32 = .ok (.invokestatic 33, 3) := by decide +kernel
theorem dX5_isKept_35 : decode cX5_isKept 35 = .ok (.ifCond .eq 12, 3) := by decide +kernel
theorem dX5_isKept_38 : decode cX5_isKept 38 = .ok (.aload_n 0, 1) := by decide +kernel
theorem dX5_isKept_39 : decode cX5_isKept 39 = .ok (.iload_n 1, 1) := by decide +kernel
theorem dX5_isKept_40 : decode cX5_isKept 40 = .ok (.iload_n 2, 1) := by decide +kernel
theorem dX5_isKept_41 : decode cX5_isKept 41 = .ok (.invokevirtual 99, 3) := by decide +kernel
theorem dX5_isKept_44 : decode cX5_isKept 44 = .ok (.goto 16, 3) := by decide +kernel
theorem dX5_isKept_47 : decode cX5_isKept 47 = .ok (.aload_n 0, 1) := by decide +kernel
theorem dX5_isKept_48 : decode cX5_isKept 48 = .ok (.iconst 2, 1) := by decide +kernel
theorem dX5_isKept_49 : decode cX5_isKept 49 = .ok (.invokevirtual 40, 3) := by decide +kernel
theorem dX5_isKept_52 : decode cX5_isKept 52 = .ok (.ifCond .eq 7, 3) := by decide +kernel
theorem dX5_isKept_55 : decode cX5_isKept 55 = .ok (.iconst 1, 1) := by decide +kernel
theorem dX5_isKept_56 : decode cX5_isKept 56 = .ok (.goto 4, 3) := by decide +kernel
theorem dX5_isKept_59 : decode cX5_isKept 59 = .ok (.iconst 0, 1) := by decide +kernel
theorem dX5_isKept_60 : decode cX5_isKept 60 = .ok (.ireturn, 1) := by decide +kernel
set_option maxRecDepth 20000 in
theorem ggX5_setOn_X5_isOn : GoodIn wsX5_setOn wsX5_isOn := goodIn_r _ [6, 7, 8, 9, 5, 10, 1, 11, 12, 13, 14, 15, 16, 17, 18, 19, 20, 21, 22, 23, 24, 25, 26, 27, 28, 29, 30, 31, 32, 33, 34, 35, 36, 37, 38, 39, 40, 41, 42, 43, 44, 45, 46, 47, 48, 49, 50, 51, 52, 53, 54, 55, 56, 57] (by decide +kernel) (by decide +kernel)
set_option maxRecDepth 20000 in
theorem gX5_setOn_X5_isOn : GoodIn wsX5_setOn (wsV RX5 99 RX5 yX5_isOn wsX5_isOn) := goodIn_app (goodIn_of _ (by decide +kernel)) ggX5_setOn_X5_isOn
theorem dX5_setOn_0 : decode cX5_setOn 0 = .ok (.iconst 0, 1) := by decide +kernel
theorem dX5_setOn_1 : decode cX5_setOn 1 = .ok (.istore_n 2, 1) := by decide +kernel
theorem dX5_setOn_2 : decode cX5_setOn 2 = .ok (.iconst 0, 1) := by decide +kernel
theorem dX5_setOn_3 : decode cX5_setOn 3 = .ok (.istore_n 3, 1) := by decide +kernel
theorem dX5_setOn_4 : decode cX5_setOn 4 = .ok (.iload_n 3, 1) := by decide +kernel
theorem dX5_setOn_5 : decode cX5_setOn 5 = .ok (.aload_n 0, 1) := by decide +kernel
theorem dX5_setOn_6 : decode cX5_setOn 6 = .ok (.getfield 7, 3) := by decide +kernel
theorem dX5_setOn_9 : decode cX5_setOn 9 = .ok (.bipush 14, 2) := by decide +kernel
theorem dX5_setOn_11 : decode cX5_setOn 11 = .ok (.iaload, 1) := by decide +kernel
theorem dX5_setOn_12 : decode cX5_setOn 12 = .ok (.if_icmp .ge 28, 3) := by decide +kernel
theorem dX5_setOn_15 : decode cX5_setOn 15 = .ok (.iload_n 2, 1) := by decide +kernel
theorem dX5_setOn_16 : decode cX5_setOn 16 = .ok (.aload_n 0, 1) := by decide +kernel
theorem dX5_setOn_17 : decode cX5_setOn 17 = .ok (.iload_n 3, 1) := by decide +kernel
theorem dX5_setOn_18 : decode cX5_setOn 18 = .ok (.iload_n 1, 1) := by decide +kernel
theorem dX5_setOn_19 : decode cX5_setOn 19 = .ok (.invokevirtual 99, 3) := by decide +kernel
theorem dX5_setOn_22 : decode cX5_setOn 22 = .ok (.ifCond .eq 9, 3) := by decide +kernel
theorem dX5_setOn_25 : decode cX5_setOn 25 = .ok (.iconst 1, 1) := by decide +kernel
theorem dX5_setOn_26 : decode cX5_setOn 26 = .ok (.iload_n 3, 1) := by decide +kernel
theorem dX5_setOn_27 : decode cX5_setOn 27 = .ok (.ishl, 1) := by decide +kernel
theorem dX5_setOn_28 : decode cX5_setOn 28 = .ok (.goto 4, 3) := by decide +kernel
theorem dX5_setOn_31 : decode cX5_setOn 31 = .ok (.iconst 0, 1) := by decide +kernel
theorem dX5_setOn_32 : decode cX5_setOn 32 = .ok (.ior, 1) := by decide +kernel
theorem dX5_setOn_33 : decode cX5_setOn 33 = .ok (.istore_n 2, 1) := by decide +kernel
theorem dX5_setOn_34 : decode cX5_setOn 34 = .ok (.iinc 3 1, 3) := by decide +kernel
theorem dX5_setOn_37 : decode cX5_setOn 37 = .ok (.goto (-33), 3) := by decide +kernel
theorem dX5_setOn_40 : decode cX5_setOn 40 = .ok (.iload_n 2, 1) := by decide +kernel
theorem dX5_setOn_41 : decode cX5_setOn 41 = .ok (.ireturn, 1) := by decide +kernel
set_option maxRecDepth 20000 in
theorem ggX5_ofTown_X5_feast : GoodIn wsX5_ofTown wsX5_feast := goodIn_r _ [6, 1, 7, 8, 9, 10, 11, 12, 13, 14, 15, 16] (by decide +kernel) (by decide +kernel)
set_option maxRecDepth 20000 in
theorem gX5_ofTown_X5_feast : GoodIn wsX5_ofTown (wsV RX5 90 RX5 yX5_feast wsX5_feast) := goodIn_app (goodIn_of _ (by decide +kernel)) ggX5_ofTown_X5_feast
theorem dX5_ofTown_0 : decode cX5_ofTown 0 = .ok (.iconst 0, 1) := by decide +kernel
theorem dX5_ofTown_1 : decode cX5_ofTown 1 = .ok (.istore_n 3, 1) := by decide +kernel
theorem dX5_ofTown_2 : decode cX5_ofTown 2 = .ok (.iconst 0, 1) := by decide +kernel
theorem dX5_ofTown_3 : decode cX5_ofTown 3 = .ok (.istore 4, 2) := by decide +kernel
theorem dX5_ofTown_5 : decode cX5_ofTown 5 = .ok (.iload 4, 2) := by decide +kernel
theorem dX5_ofTown_7 : decode cX5_ofTown 7 = .ok (.aload_n 0, 1) := by decide +kernel
theorem dX5_ofTown_8 : decode cX5_ofTown 8 = .ok (.getfield 7, 3) := by decide +kernel
theorem dX5_ofTown_11 : decode cX5_ofTown 11 = .ok (.bipush 14, 2) := by decide +kernel
theorem dX5_ofTown_13 : decode cX5_ofTown 13 = .ok (.iaload, 1) := by decide +kernel
theorem dX5_ofTown_14 : decode cX5_ofTown 14 = .ok (.if_icmp .ge 38, 3) := by decide +kernel
theorem dX5_ofTown_17 : decode cX5_ofTown 17 = .ok (.iload_n 3, 1) := by decide +kernel
theorem dX5_ofTown_18 : decode cX5_ofTown 18 = .ok (.iload_n 1, 1) := by decide +kernel
theorem dX5_ofTown_19 : decode cX5_ofTown 19 = .ok (.iload 4, 2) := by decide +kernel
theorem dX5_ofTown_21 : decode cX5_ofTown 21 = .ok (.ishr, 1) := by decide +kernel
theorem dX5_ofTown_22 : decode cX5_ofTown 22 = .ok (.iconst 1, 1) := by decide +kernel
theorem dX5_ofTown_23 : decode cX5_ofTown 23 = .ok (.iand, 1) := by decide +kernel
theorem dX5_ofTown_24 : decode cX5_ofTown 24 = .ok (.iconst 1, 1) := by decide +kernel
theorem dX5_ofTown_25 : decode cX5_ofTown 25 = .ok (.if_icmp .ne 18, 3) := by decide +kernel
theorem dX5_ofTown_28 : decode cX5_ofTown 28 = .ok (.aload_n 0, 1) := by decide +kernel
theorem dX5_ofTown_29 : decode cX5_ofTown 29 = .ok (.iload 4, 2) := by decide +kernel
theorem dX5_ofTown_31 : decode cX5_ofTown 31 = .ok (.iconst 0, 1) := by decide +kernel
theorem dX5_ofTown_32 : decode cX5_ofTown 32 = .ok (.invokevirtual 90, 3) := by decide +kernel
theorem dX5_ofTown_35 : decode cX5_ofTown 35 = .ok (.iload_n 2, 1) := by decide +kernel
theorem dX5_ofTown_36 : decode cX5_ofTown 36 = .ok (.if_icmp .ne 7, 3) := by decide +kernel
theorem dX5_ofTown_39 : decode cX5_ofTown 39 = .ok (.iconst 1, 1) := by decide +kernel
theorem dX5_ofTown_40 : decode cX5_ofTown 40 = .ok (.goto 4, 3) := by decide +kernel
theorem dX5_ofTown_43 : decode cX5_ofTown 43 = .ok (.iconst 0, 1) := by decide +kernel
theorem dX5_ofTown_44 : decode cX5_ofTown 44 = .ok (.iadd, 1) := by decide +kernel
theorem dX5_ofTown_45 : decode cX5_ofTown 45 = .ok (.istore_n 3, 1) := by decide +kernel
theorem dX5_ofTown_46 : decode cX5_ofTown 46 = .ok (.iinc 4 1, 3) := by decide +kernel
theorem dX5_ofTown_49 : decode cX5_ofTown 49 = .ok (.goto (-44), 3) := by decide +kernel
theorem dX5_ofTown_52 : decode cX5_ofTown 52 = .ok (.iload_n 3, 1) := by decide +kernel
theorem dX5_ofTown_53 : decode cX5_ofTown 53 = .ok (.ireturn, 1) := by decide +kernel
set_option maxRecDepth 20000 in
theorem ggX5_quarrels_X5_setOn : GoodIn wsX5_quarrels wsX5_setOn := goodIn_r _ [5, 6, 7, 8, 9, 4, 10, 11, 12, 13, 14, 15, 16, 17, 18, 19, 20, 21, 22, 23, 24, 25, 26, 27, 28, 29, 30, 31, 32, 33, 34, 35, 36, 37, 38, 39, 40, 41, 42, 43, 44, 45, 46, 47, 48, 49, 50, 51, 56, 57, 58, 59, 60, 61, 62, 63, 64, 65] (by decide +kernel) (by decide +kernel)
set_option maxRecDepth 20000 in
theorem gX5_quarrels_X5_setOn : GoodIn wsX5_quarrels (wsV RX5 103 RX5 yX5_setOn wsX5_setOn) := goodIn_app (goodIn_of _ (by decide +kernel)) ggX5_quarrels_X5_setOn
set_option maxRecDepth 20000 in
theorem ggX5_quarrels_X5_ofTown : GoodIn wsX5_quarrels wsX5_ofTown := goodIn_r _ [55, 6, 11, 12, 13, 4, 14, 56, 57, 58, 59, 60, 61, 62, 63, 64, 65] (by decide +kernel) (by decide +kernel)
set_option maxRecDepth 20000 in
theorem gX5_quarrels_X5_ofTown : GoodIn wsX5_quarrels (wsV RX5 106 RX5 yX5_ofTown wsX5_ofTown) := goodIn_app (goodIn_of _ (by decide +kernel)) ggX5_quarrels_X5_ofTown
theorem dX5_quarrels_0 : decode cX5_quarrels 0 = .ok (.aload_n 0, 1) := by decide +kernel
theorem dX5_quarrels_1 : decode cX5_quarrels 1 = .ok (.iload_n 1, 1) := by decide +kernel
theorem dX5_quarrels_2 : decode cX5_quarrels 2 = .ok (.invokevirtual 103, 3) := by decide +kernel
theorem dX5_quarrels_5 : decode cX5_quarrels 5 = .ok (.istore_n 2, 1) := by decide +kernel
theorem dX5_quarrels_6 : decode cX5_quarrels 6 = .ok (.aload_n 0, 1) := by decide +kernel
theorem dX5_quarrels_7 : decode cX5_quarrels 7 = .ok (.iload_n 2, 1) := by decide +kernel
theorem dX5_quarrels_8 : decode cX5_quarrels 8 = .ok (.iconst 0, 1) := by decide +kernel
theorem dX5_quarrels_9 : decode cX5_quarrels 9 = .ok (.invokevirtual 106, 3) := by decide +kernel
theorem dX5_quarrels_12 : decode cX5_quarrels 12 = .ok (.ifCond .le 16, 3) := by decide +kernel
theorem dX5_quarrels_15 : decode cX5_quarrels 15 = .ok (.aload_n 0, 1) := by decide +kernel
theorem dX5_quarrels_16 : decode cX5_quarrels 16 = .ok (.iload_n 2, 1) := by decide +kernel
theorem dX5_quarrels_17 : decode cX5_quarrels 17 = .ok (.iconst 1, 1) := by decide +kernel
theorem dX5_quarrels_18 : decode cX5_quarrels 18 = .ok (.invokevirtual 106, 3) := by decide +kernel
theorem dX5_quarrels_21 : decode cX5_quarrels 21 = .ok (.ifCond .le 7, 3) := by decide +kernel
theorem dX5_quarrels_24 : decode cX5_quarrels 24 = .ok (.iconst 1, 1) := by decide +kernel
theorem dX5_quarrels_25 : decode cX5_quarrels 25 = .ok (.goto 4, 3) := by decide +kernel
theorem dX5_quarrels_28 : decode cX5_quarrels 28 = .ok (.iconst 0, 1) := by decide +kernel
theorem dX5_quarrels_29 : decode cX5_quarrels 29 = .ok (.ireturn, 1) := by decide +kernel
set_option maxRecDepth 20000 in
theorem ggX5_feastsOn_X5_in : GoodIn wsX5_feastsOn wsX5_in := goodIn_r _ [5] (by decide +kernel) (by decide +kernel)
set_option maxRecDepth 20000 in
theorem gX5_feastsOn_X5_in : GoodIn wsX5_feastsOn (va_wsS RX5 33 yX5_in wsX5_in) := goodIn_app (goodIn_of _ (by decide +kernel)) ggX5_feastsOn_X5_in
set_option maxRecDepth 20000 in
theorem ggX5_feastsOn_X5_setOn : GoodIn wsX5_feastsOn wsX5_setOn := goodIn_r _ [9, 10, 11, 12, 13, 4, 14, 15, 16, 17, 18, 19, 20, 21, 22, 23, 24, 25, 26, 27, 28, 29, 30, 31, 32, 33, 34, 35, 36, 37, 38, 39, 40, 41, 42, 43, 44, 45, 46, 47, 48, 49, 50, 51, 52, 53, 54, 55, 60, 61, 62, 63, 64, 65, 66, 67, 68, 69] (by decide +kernel) (by decide +kernel)
set_option maxRecDepth 20000 in
theorem gX5_feastsOn_X5_setOn : GoodIn wsX5_feastsOn (wsV RX5 103 RX5 yX5_setOn wsX5_setOn) := goodIn_app (goodIn_of _ (by decide +kernel)) ggX5_feastsOn_X5_setOn
set_option maxRecDepth 20000 in
theorem ggX5_feastsOn_X5_fails : GoodIn wsX5_feastsOn wsX5_fails := goodIn_r _ [59, 1, 60, 61, 62, 63, 64, 65, 66, 67, 68, 69] (by decide +kernel) (by decide +kernel)
set_option maxRecDepth 20000 in
theorem gX5_feastsOn_X5_fails : GoodIn wsX5_feastsOn (wsV RX5 40 RX5 yX5_fails wsX5_fails) := goodIn_app (goodIn_of _ (by decide +kernel)) ggX5_feastsOn_X5_fails
theorem dX5_feastsOn_0 : decode cX5_feastsOn 0 = .ok (.aload_n 0, 1) := by decide +kernel
theorem dX5_feastsOn_1 : decode cX5_feastsOn 1 = .ok (.iconst 0, 1) := by decide +kernel
theorem dX5_feastsOn_2 : decode cX5_feastsOn 2 = .ok (.putfield 29, 3) := by decide +kernel
theorem dX5_feastsOn_5 : decode cX5_feastsOn 5 = .ok (.iload_n 1, 1) := by decide +kernel
theorem dX5_feastsOn_6 : decode cX5_feastsOn 6 = .ok (.iconst 0, 1) := by decide +kernel
theorem dX5_feastsOn_7 : decode cX5_feastsOn 7 = .ok (.sipush 20000, 3) := by decide +kernel
theorem dX5_feastsOn_10 : decode cX5_feastsOn 10 = .ok (.invokestatic 33, 3) := by decide +kernel
theorem dX5_feastsOn_13 : decode cX5_feastsOn 13 = .ok (.ifCond .eq 11, 3) := by decide +kernel
theorem dX5_feastsOn_16 : decode cX5_feastsOn 16 = .ok (.aload_n 0, 1) := by decide +kernel
theorem dX5_feastsOn_17 : decode cX5_feastsOn 17 = .ok (.iload_n 1, 1) := by decide +kernel
theorem dX5_feastsOn_18 : decode cX5_feastsOn 18 = .ok (.invokevirtual 103, 3) := by decide +kernel
theorem dX5_feastsOn_21 : decode cX5_feastsOn 21 = .ok (.goto 8, 3) := by decide +kernel
theorem dX5_feastsOn_24 : decode cX5_feastsOn 24 = .ok (.aload_n 0, 1) := by decide +kernel
theorem dX5_feastsOn_25 : decode cX5_feastsOn 25 = .ok (.iconst 1, 1) := by decide +kernel
theorem dX5_feastsOn_26 : decode cX5_feastsOn 26 = .ok (.invokevirtual 40, 3) := by decide +kernel
theorem dX5_feastsOn_29 : decode cX5_feastsOn 29 = .ok (.ireturn, 1) := by decide +kernel
set_option maxRecDepth 20000 in
theorem ggX5_isQuarrel_X5_in : GoodIn wsX5_isQuarrel wsX5_in := goodIn_r _ [5] (by decide +kernel) (by decide +kernel)
set_option maxRecDepth 20000 in
theorem gX5_isQuarrel_X5_in : GoodIn wsX5_isQuarrel (va_wsS RX5 33 yX5_in wsX5_in) := goodIn_app (goodIn_of _ (by decide +kernel)) ggX5_isQuarrel_X5_in
set_option maxRecDepth 20000 in
theorem ggX5_isQuarrel_X5_quarrels : GoodIn wsX5_isQuarrel wsX5_quarrels := goodIn_r _ [9, 10, 11, 12, 4, 13, 14, 15, 16, 17, 18, 19, 20, 21, 22, 23, 24, 25, 26, 27, 28, 29, 30, 31, 32, 33, 34, 35, 36, 37, 38, 39, 40, 41, 42, 43, 44, 45, 46, 47, 48, 49, 50, 51, 52, 53, 54, 55, 56, 57, 58, 59, 60, 61, 62, 63, 68, 69, 70, 71, 72, 73, 74, 75, 76, 77] (by decide +kernel) (by decide +kernel)
set_option maxRecDepth 20000 in
theorem gX5_isQuarrel_X5_quarrels : GoodIn wsX5_isQuarrel (wsV RX5 109 RX5 yX5_quarrels wsX5_quarrels) := goodIn_app (goodIn_of _ (by decide +kernel)) ggX5_isQuarrel_X5_quarrels
set_option maxRecDepth 20000 in
theorem ggX5_isQuarrel_X5_fails : GoodIn wsX5_isQuarrel wsX5_fails := goodIn_r _ [67, 1, 68, 69, 70, 71, 72, 73, 74, 75, 76, 77] (by decide +kernel) (by decide +kernel)
set_option maxRecDepth 20000 in
theorem gX5_isQuarrel_X5_fails : GoodIn wsX5_isQuarrel (wsV RX5 40 RX5 yX5_fails wsX5_fails) := goodIn_app (goodIn_of _ (by decide +kernel)) ggX5_isQuarrel_X5_fails
theorem dX5_isQuarrel_0 : decode cX5_isQuarrel 0 = .ok (.aload_n 0, 1) := by decide +kernel
theorem dX5_isQuarrel_1 : decode cX5_isQuarrel 1 = .ok (.iconst 0, 1) := by decide +kernel
theorem dX5_isQuarrel_2 : decode cX5_isQuarrel 2 = .ok (.putfield 29, 3) := by decide +kernel
theorem dX5_isQuarrel_5 : decode cX5_isQuarrel 5 = .ok (.iload_n 1, 1) := by decide +kernel
theorem dX5_isQuarrel_6 : decode cX5_isQuarrel 6 = .ok (.iconst 0, 1) := by decide +kernel
theorem dX5_isQuarrel_7 : decode cX5_isQuarrel 7 = .ok (.sipush 20000, 3) := by decide +kernel
theorem dX5_isQuarrel_10 : decode cX5_isQuarrel 10 = .ok (.invokestatic 33, 3) := by decide +kernel
theorem dX5_isQuarrel_13 : decode cX5_isQuarrel 13 = .ok (.ifCond .eq 11, 3) := by decide +kernel
theorem dX5_isQuarrel_16 : decode cX5_isQuarrel 16 = .ok (.aload_n 0, 1) := by decide +kernel
theorem dX5_isQuarrel_17 : decode cX5_isQuarrel 17 = .ok (.iload_n 1, 1) := by decide +kernel
theorem dX5_isQuarrel_18 : decode cX5_isQuarrel 18 = .ok (.invokevirtual 109, 3) := by decide +kernel
theorem dX5_isQuarrel_21 : decode cX5_isQuarrel 21 = .ok (.goto 16, 3) := by decide +kernel
theorem dX5_isQuarrel_24 : decode cX5_isQuarrel 24 = .ok (.aload_n 0, 1) := by decide +kernel
theorem dX5_isQuarrel_25 : decode cX5_isQuarrel 25 = .ok (.iconst 1, 1) := by decide +kernel
theorem dX5_isQuarrel_26 : decode cX5_isQuarrel 26 = .ok (.invokevirtual 40, 3) := by decide +kernel
theorem dX5_isQuarrel_29 : decode cX5_isQuarrel 29 = .ok (.ifCond .eq 7, 3) := by decide +kernel
theorem dX5_isQuarrel_32 : decode cX5_isQuarrel 32 = .ok (.iconst 1, 1) := by decide +kernel
theorem dX5_isQuarrel_33 : decode cX5_isQuarrel 33 = .ok (.goto 4, 3) := by decide +kernel
theorem dX5_isQuarrel_36 : decode cX5_isQuarrel 36 = .ok (.iconst 0, 1) := by decide +kernel
theorem dX5_isQuarrel_37 : decode cX5_isQuarrel 37 = .ok (.ireturn, 1) := by decide +kernel
set_option maxRecDepth 20000 in
theorem ggX5_setShift_X5_in : GoodIn wsX5_setShift wsX5_in := goodIn_r _ [6] (by decide +kernel) (by decide +kernel)
set_option maxRecDepth 20000 in
theorem gX5_setShift_X5_in : GoodIn wsX5_setShift (va_wsS RX5 33 yX5_in wsX5_in) := goodIn_app (goodIn_of _ (by decide +kernel)) ggX5_setShift_X5_in
set_option maxRecDepth 20000 in
theorem ggX5_setShift_X5_fails : GoodIn wsX5_setShift wsX5_fails := goodIn_r _ [10, 1, 17, 18, 19, 20, 21, 22, 23, 24, 25, 26] (by decide +kernel) (by decide +kernel)
set_option maxRecDepth 20000 in
theorem gX5_setShift_X5_fails : GoodIn wsX5_setShift (wsV RX5 40 RX5 yX5_fails wsX5_fails) := goodIn_app (goodIn_of _ (by decide +kernel)) ggX5_setShift_X5_fails
set_option maxRecDepth 20000 in
theorem ggX5_setShift_X5_record : GoodIn wsX5_setShift wsX5_record := goodIn_r _ [14, 15, 16, 2, 17, 18, 19, 20, 21, 22, 23, 24, 25, 26] (by decide +kernel) (by decide +kernel)
set_option maxRecDepth 20000 in
theorem gX5_setShift_X5_record : GoodIn wsX5_setShift (wsV RX5 44 RX5 yX5_record wsX5_record) := goodIn_app (goodIn_of _ (by decide +kernel)) ggX5_setShift_X5_record
theorem dX5_setShift_0 : decode cX5_setShift 0 = .ok (.aload_n 0, 1) := by decide +kernel
theorem dX5_setShift_1 : decode cX5_setShift 1 = .ok (.iconst 0, 1) := by decide +kernel
theorem dX5_setShift_2 : decode cX5_setShift 2 = .ok (.putfield 29, 3) := by decide +kernel
theorem dX5_setShift_5 : decode cX5_setShift 5 = .ok (.iload_n 1, 1) := by decide +kernel
theorem dX5_setShift_6 : decode cX5_setShift 6 = .ok (.iconst 1, 1) := by decide +kernel
theorem dX5_setShift_7 : decode cX5_setShift 7 = .ok (.bipush 9, 2) := by decide +kernel
theorem dX5_setShift_9 : decode cX5_setShift 9 = .ok (.invokestatic 33, 3) := by decide +kernel
theorem dX5_setShift_12 : decode cX5_setShift 12 = .ok (.ifCond .ne 9, 3) := by decide +kernel
theorem dX5_setShift_15 : decode cX5_setShift 15 = .ok (.aload_n 0, 1) := by decide +kernel
theorem dX5_setShift_16 : decode cX5_setShift 16 = .ok (.iconst 1, 1) := by decide +kernel
theorem dX5_setShift_17 : decode cX5_setShift 17 = .ok (.invokevirtual 40, 3) := by decide +kernel
theorem dX5_setShift_20 : decode cX5_setShift 20 = .ok (.ireturn, 1) := by decide +kernel
theorem dX5_setShift_21 : decode cX5_setShift 21 = .ok (.aload_n 0, 1) := by decide +kernel
theorem dX5_setShift_22 : decode cX5_setShift 22 = .ok (.invokevirtual 44, 3) := by decide +kernel
theorem dX5_setShift_25 : decode cX5_setShift 25 = .ok (.aload_n 0, 1) := by decide +kernel
theorem dX5_setShift_26 : decode cX5_setShift 26 = .ok (.getfield 7, 3) := by decide +kernel
theorem dX5_setShift_29 : decode cX5_setShift 29 = .ok (.bipush 55, 2) := by decide +kernel
theorem dX5_setShift_31 : decode cX5_setShift 31 = .ok (.iaload, 1) := by decide +kernel
theorem dX5_setShift_32 : decode cX5_setShift 32 = .ok (.istore_n 2, 1) := by decide +kernel
theorem dX5_setShift_33 : decode cX5_setShift 33 = .ok (.aload_n 0, 1) := by decide +kernel
theorem dX5_setShift_34 : decode cX5_setShift 34 = .ok (.getfield 7, 3) := by decide +kernel
theorem dX5_setShift_37 : decode cX5_setShift 37 = .ok (.bipush 55, 2) := by decide +kernel
theorem dX5_setShift_39 : decode cX5_setShift 39 = .ok (.iload_n 1, 1) := by decide +kernel
theorem dX5_setShift_40 : decode cX5_setShift 40 = .ok (.iastore, 1) := by decide +kernel
theorem dX5_setShift_41 : decode cX5_setShift 41 = .ok (.iload_n 2, 1) := by decide +kernel
theorem dX5_setShift_42 : decode cX5_setShift 42 = .ok (.ireturn, 1) := by decide +kernel
theorem dX5_shift_0 : decode cX5_shift 0 = .ok (.aload_n 0, 1) := by decide +kernel
theorem dX5_shift_1 : decode cX5_shift 1 = .ok (.iconst 0, 1) := by decide +kernel
theorem dX5_shift_2 : decode cX5_shift 2 = .ok (.putfield 29, 3) := by decide +kernel
theorem dX5_shift_5 : decode cX5_shift 5 = .ok (.aload_n 0, 1) := by decide +kernel
theorem dX5_shift_6 : decode cX5_shift 6 = .ok (.getfield 7, 3) := by decide +kernel
theorem dX5_shift_9 : decode cX5_shift 9 = .ok (.bipush 55, 2) := by decide +kernel
theorem dX5_shift_11 : decode cX5_shift 11 = .ok (.iaload, 1) := by decide +kernel
theorem dX5_shift_12 : decode cX5_shift 12 = .ok (.ireturn, 1) := by decide +kernel
set_option maxRecDepth 20000 in
theorem ggX5_setCopiesPerDay_X5_in : GoodIn wsX5_setCopiesPerDay wsX5_in := goodIn_r _ [6] (by decide +kernel) (by decide +kernel)
set_option maxRecDepth 20000 in
theorem gX5_setCopiesPerDay_X5_in : GoodIn wsX5_setCopiesPerDay (va_wsS RX5 33 yX5_in wsX5_in) := goodIn_app (goodIn_of _ (by decide +kernel)) ggX5_setCopiesPerDay_X5_in
set_option maxRecDepth 20000 in
theorem ggX5_setCopiesPerDay_X5_fails : GoodIn wsX5_setCopiesPerDay wsX5_fails := goodIn_r _ [10, 1, 17, 18, 19, 20, 21, 22, 23, 24, 25, 26] (by decide +kernel) (by decide +kernel)
set_option maxRecDepth 20000 in
theorem gX5_setCopiesPerDay_X5_fails : GoodIn wsX5_setCopiesPerDay (wsV RX5 40 RX5 yX5_fails wsX5_fails) := goodIn_app (goodIn_of _ (by decide +kernel)) ggX5_setCopiesPerDay_X5_fails
set_option maxRecDepth 20000 in
theorem ggX5_setCopiesPerDay_X5_record : GoodIn wsX5_setCopiesPerDay wsX5_record := goodIn_r _ [14, 15, 16, 2, 17, 18, 19, 20, 21, 22, 23, 24, 25, 26] (by decide +kernel) (by decide +kernel)
set_option maxRecDepth 20000 in
theorem gX5_setCopiesPerDay_X5_record : GoodIn wsX5_setCopiesPerDay (wsV RX5 44 RX5 yX5_record wsX5_record) := goodIn_app (goodIn_of _ (by decide +kernel)) ggX5_setCopiesPerDay_X5_record
theorem dX5_setCopiesPerDay_0 : decode cX5_setCopiesPerDay 0 = .ok (.aload_n 0, 1) := by decide +kernel
theorem dX5_setCopiesPerDay_1 : decode cX5_setCopiesPerDay 1 = .ok (.iconst 0, 1) := by decide +kernel
theorem dX5_setCopiesPerDay_2 : decode cX5_setCopiesPerDay 2 = .ok (.putfield 29, 3) := by decide +kernel
theorem dX5_setCopiesPerDay_5 : decode cX5_setCopiesPerDay 5 = .ok (.iload_n 1, 1) := by decide +kernel
theorem dX5_setCopiesPerDay_6 : decode cX5_setCopiesPerDay 6 = .ok (.iconst 0, 1) := by decide +kernel
theorem dX5_setCopiesPerDay_7 : decode cX5_setCopiesPerDay 7 = .ok (.bipush 9, 2) := by decide +kernel
theorem dX5_setCopiesPerDay_9 : decode cX5_setCopiesPerDay 9 = .ok (.invokestatic 33, 3) := by decide +kernel
theorem dX5_setCopiesPerDay_12 : decode cX5_setCopiesPerDay 12 = .ok (.ifCond .ne 9, 3) := by decide +kernel
theorem dX5_setCopiesPerDay_15 : decode cX5_setCopiesPerDay 15 = .ok (.aload_n 0, 1) := by decide +kernel
theorem dX5_setCopiesPerDay_16 : decode cX5_setCopiesPerDay 16 = .ok (.iconst 1, 1) := by decide +kernel
theorem dX5_setCopiesPerDay_17 : decode cX5_setCopiesPerDay 17 = .ok (.invokevirtual 40, 3) := by decide +kernel
theorem dX5_setCopiesPerDay_20 : decode cX5_setCopiesPerDay 20 = .ok (.ireturn, 1) := by decide +kernel
theorem dX5_setCopiesPerDay_21 : decode cX5_setCopiesPerDay 21 = .ok (.aload_n 0, 1) := by decide +kernel
theorem dX5_setCopiesPerDay_22 : decode cX5_setCopiesPerDay 22 = .ok (.invokevirtual 44, 3) := by decide +kernel
theorem dX5_setCopiesPerDay_25 : decode cX5_setCopiesPerDay 25 = .ok (.aload_n 0, 1) := by decide +kernel
theorem dX5_setCopiesPerDay_26 : decode cX5_setCopiesPerDay 26 = .ok (.getfield 7, 3) := by decide +kernel
theorem dX5_setCopiesPerDay_29 : decode cX5_setCopiesPerDay 29 = .ok (.bipush 56, 2) := by decide +kernel
theorem dX5_setCopiesPerDay_31 : decode cX5_setCopiesPerDay 31 = .ok (.iaload, 1) := by decide +kernel
theorem dX5_setCopiesPerDay_32 : decode cX5_setCopiesPerDay 32 = .ok (.istore_n 2, 1) := by decide +kernel
theorem dX5_setCopiesPerDay_33 : decode cX5_setCopiesPerDay 33 = .ok (.aload_n 0, 1) := by decide +kernel
theorem dX5_setCopiesPerDay_34 : decode cX5_setCopiesPerDay 34 = .ok (.getfield 7, 3) := by decide +kernel
theorem dX5_setCopiesPerDay_37 : decode cX5_setCopiesPerDay 37 = .ok (.bipush 56, 2) := by decide +kernel
theorem dX5_setCopiesPerDay_39 : decode cX5_setCopiesPerDay 39 = .ok (.iload_n 1, 1) := by decide +kernel
theorem dX5_setCopiesPerDay_40 : decode cX5_setCopiesPerDay 40 = .ok (.iastore, 1) := by decide +kernel
theorem dX5_setCopiesPerDay_41 : decode cX5_setCopiesPerDay 41 = .ok (.iload_n 2, 1) := by decide +kernel
theorem dX5_setCopiesPerDay_42 : decode cX5_setCopiesPerDay 42 = .ok (.ireturn, 1) := by decide +kernel
theorem dX5_copiesPerDay_0 : decode cX5_copiesPerDay 0 = .ok (.aload_n 0, 1) := by decide +kernel
theorem dX5_copiesPerDay_1 : decode cX5_copiesPerDay 1 = .ok (.iconst 0, 1) := by decide +kernel
theorem dX5_copiesPerDay_2 : decode cX5_copiesPerDay 2 = .ok (.putfield 29, 3) := by decide +kernel
theorem dX5_copiesPerDay_5 : decode cX5_copiesPerDay 5 = .ok (.aload_n 0, 1) := by decide +kernel
theorem dX5_copiesPerDay_6 : decode cX5_copiesPerDay 6 = .ok (.getfield 7, 3) := by decide +kernel
theorem dX5_copiesPerDay_9 : decode cX5_copiesPerDay 9 = .ok (.bipush 56, 2) := by decide +kernel
theorem dX5_copiesPerDay_11 : decode cX5_copiesPerDay 11 = .ok (.iaload, 1) := by decide +kernel
theorem dX5_copiesPerDay_12 : decode cX5_copiesPerDay 12 = .ok (.ireturn, 1) := by decide +kernel
set_option maxRecDepth 20000 in
theorem ggX5_passDays_X5_in : GoodIn wsX5_passDays wsX5_in := goodIn_r _ [6] (by decide +kernel) (by decide +kernel)
set_option maxRecDepth 20000 in
theorem gX5_passDays_X5_in : GoodIn wsX5_passDays (va_wsS RX5 33 yX5_in wsX5_in) := goodIn_app (goodIn_of _ (by decide +kernel)) ggX5_passDays_X5_in
set_option maxRecDepth 20000 in
theorem ggX5_passDays_X5_fails : GoodIn wsX5_passDays wsX5_fails := goodIn_r _ [10, 1, 70, 71, 72, 73, 74, 75, 76, 77, 78, 79] (by decide +kernel) (by decide +kernel)
set_option maxRecDepth 20000 in
theorem gX5_passDays_X5_fails : GoodIn wsX5_passDays (wsV RX5 40 RX5 yX5_fails wsX5_fails) := goodIn_app (goodIn_of _ (by decide +kernel)) ggX5_passDays_X5_fails
set_option maxRecDepth 20000 in
theorem ggX5_passDays_X5_record : GoodIn wsX5_passDays wsX5_record := goodIn_r _ [14, 15, 16, 2, 70, 71, 72, 73, 74, 75, 76, 77, 78, 79] (by decide +kernel) (by decide +kernel)
set_option maxRecDepth 20000 in
theorem gX5_passDays_X5_record : GoodIn wsX5_passDays (wsV RX5 44 RX5 yX5_record wsX5_record) := goodIn_app (goodIn_of _ (by decide +kernel)) ggX5_passDays_X5_record
set_option maxRecDepth 20000 in
theorem ggX5_passDays_X5_setOn : GoodIn wsX5_passDays wsX5_setOn := goodIn_r _ [20, 2, 21, 22, 23, 5, 24, 25, 26, 27, 28, 29, 30, 31, 32, 33, 34, 35, 36, 37, 38, 39, 40, 41, 42, 43, 44, 45, 46, 47, 48, 49, 50, 51, 52, 53, 54, 55, 56, 57, 58, 59, 60, 61, 62, 63, 64, 65, 70, 71, 72, 73, 74, 75, 76, 77, 78, 79] (by decide +kernel) (by decide +kernel)
set_option maxRecDepth 20000 in
theorem gX5_passDays_X5_setOn : GoodIn wsX5_passDays (wsV RX5 103 RX5 yX5_setOn wsX5_setOn) := goodIn_app (goodIn_of _ (by decide +kernel)) ggX5_passDays_X5_setOn
set_option maxRecDepth 20000 in
theorem ggX5_passDays_X5_ofTown : GoodIn wsX5_passDays wsX5_ofTown := goodIn_r _ [69, 2, 25, 26, 27, 5, 28, 70, 71, 72, 73, 74, 75, 76, 77, 78, 79] (by decide +kernel) (by decide +kernel)
set_option maxRecDepth 20000 in
theorem gX5_passDays_X5_ofTown : GoodIn wsX5_passDays (wsV RX5 106 RX5 yX5_ofTown wsX5_ofTown) := goodIn_app (goodIn_of _ (by decide +kernel)) ggX5_passDays_X5_ofTown
theorem dX5_passDays_0 : decode cX5_passDays 0 = .ok (.aload_n 0, 1) := by decide +kernel
theorem dX5_passDays_1 : decode cX5_passDays 1 = .ok (.iconst 0, 1) := by decide +kernel
theorem dX5_passDays_2 : decode cX5_passDays 2 = .ok (.putfield 29, 3) := by decide +kernel
theorem dX5_passDays_5 : decode cX5_passDays 5 = .ok (.iload_n 1, 1) := by decide +kernel
theorem dX5_passDays_6 : decode cX5_passDays 6 = .ok (.iconst 1, 1) := by decide +kernel
theorem dX5_passDays_7 : decode cX5_passDays 7 = .ok (.sipush 400, 3) := by decide +kernel
theorem dX5_passDays_10 : decode cX5_passDays 10 = .ok (.invokestatic 33, 3) := by decide +kernel
theorem dX5_passDays_13 : decode cX5_passDays 13 = .ok (.ifCond .ne 9, 3) := by decide +kernel
theorem dX5_passDays_16 : decode cX5_passDays 16 = .ok (.aload_n 0, 1) := by decide +kernel
theorem dX5_passDays_17 : decode cX5_passDays 17 = .ok (.iconst 1, 1) := by decide +kernel
theorem dX5_passDays_18 : decode cX5_passDays 18 = .ok (.invokevirtual 40, 3) := by decide +kernel
theorem dX5_passDays_21 : decode cX5_passDays 21 = .ok (.ireturn, 1) := by decide +kernel
theorem dX5_passDays_22 : decode cX5_passDays 22 = .ok (.aload_n 0, 1) := by decide +kernel
theorem dX5_passDays_23 : decode cX5_passDays 23 = .ok (.getfield 7, 3) := by decide +kernel
theorem dX5_passDays_26 : decode cX5_passDays 26 = .ok (.bipush 57, 2) := by decide +kernel
theorem dX5_passDays_28 : decode cX5_passDays 28 = .ok (.iaload, 1) := by decide +kernel
theorem dX5_passDays_29 : decode cX5_passDays 29 = .ok (.iload_n 1, 1) := by decide +kernel
theorem dX5_passDays_30 : decode cX5_passDays 30 = .ok (.iadd, 1) := by decide +kernel
theorem dX5_passDays_31 : decode cX5_passDays 31 = .ok (.sipush 9999, 3) := by decide +kernel
theorem dX5_passDays_34 : decode cX5_passDays 34 = .ok (.if_icmp .le 9, 3) := by decide +kernel
theorem dX5_passDays_37 : decode cX5_passDays 37 = .ok (.aload_n 0, 1) := by decide +kernel
theorem dX5_passDays_38 : decode cX5_passDays 38 = .ok (.iconst 2, 1) := by decide +kernel
theorem dX5_passDays_39 : decode cX5_passDays 39 = .ok (.invokevirtual 40, 3) := by decide +kernel
theorem dX5_passDays_42 : decode cX5_passDays 42 = .ok (.ireturn, 1) := by decide +kernel
theorem dX5_passDays_43 : decode cX5_passDays 43 = .ok (.aload_n 0, 1) := by decide +kernel
theorem dX5_passDays_44 : decode cX5_passDays 44 = .ok (.invokevirtual 44, 3) := by decide +kernel
theorem dX5_passDays_47 : decode cX5_passDays 47 = .ok (.aload_n 0, 1) := by decide +kernel
theorem dX5_passDays_48 : decode cX5_passDays 48 = .ok (.getfield 7, 3) := by decide +kernel
theorem dX5_passDays_51 : decode cX5_passDays 51 = .ok (.bipush 60, 2) := by decide +kernel
theorem dX5_passDays_53 : decode cX5_passDays 53 = .ok (.iaload, 1) := by decide +kernel
theorem dX5_passDays_54 : decode cX5_passDays 54 = .ok (.istore_n 2, 1) := by decide +kernel
theorem dX5_passDays_55 : decode cX5_passDays 55 = .ok (.iconst 0, 1) := by decide +kernel
theorem dX5_passDays_56 : decode cX5_passDays 56 = .ok (.istore_n 3, 1) := by decide +kernel
theorem dX5_passDays_57 : decode cX5_passDays 57 = .ok (.iload_n 3, 1) := by decide +kernel
theorem dX5_passDays_58 : decode cX5_passDays 58 = .ok (.iload_n 1, 1) := by decide +kernel
theorem dX5_passDays_59 : decode cX5_passDays 59 = .ok (.if_icmp .ge 126, 3) := by decide +kernel
theorem dX5_passDays_62 : decode cX5_passDays 62 = .ok (.aload_n 0, 1) := by decide +kernel
theorem dX5_passDays_63 : decode cX5_passDays 63 = .ok (.aload_n 0, 1) := by decide +kernel
theorem dX5_passDays_64 : decode cX5_passDays 64 = .ok (.getfield 7, 3) := by decide +kernel
theorem dX5_passDays_67 : decode cX5_passDays 67 = .ok (.bipush 57, 2) := by decide +kernel
theorem dX5_passDays_69 : decode cX5_passDays 69 = .ok (.iaload, 1) := by decide +kernel
theorem dX5_passDays_70 : decode cX5_passDays 70 = .ok (.invokevirtual 103, 3) := by decide +kernel
theorem dX5_passDays_73 : decode cX5_passDays 73 = .ok (.istore 4, 2) := by decide +kernel
theorem dX5_passDays_75 : decode cX5_passDays 75 = .ok (.aload_n 0, 1) := by decide +kernel
theorem dX5_passDays_76 : decode cX5_passDays 76 = .ok (.iload 4, 2) := by decide +kernel
theorem dX5_passDays_78 : decode cX5_passDays 78 = .ok (.iconst 0, 1) := by decide +kernel
theorem dX5_passDays_79 : decode cX5_passDays 79 = .ok (.invokevirtual 106, 3) := by decide +kernel
theorem dX5_passDays_82 : decode cX5_passDays 82 = .ok (.istore 5, 2) := by decide +kernel
theorem dX5_passDays_84 : decode cX5_passDays 84 = .ok (.aload_n 0, 1) := by decide +kernel
theorem dX5_passDays_85 : decode cX5_passDays 85 = .ok (.iload 4, 2) := by decide +kernel
theorem dX5_passDays_87 : decode cX5_passDays 87 = .ok (.iconst 1, 1) := by decide +kernel
theorem dX5_passDays_88 : decode cX5_passDays 88 = .ok (.invokevirtual 106, 3) := by decide +kernel
theorem dX5_passDays_91 : decode cX5_passDays 91 = .ok (.istore 6, 2) := by decide +kernel
theorem dX5_passDays_93 : decode cX5_passDays 93 = .ok (.aload_n 0, 1) := by decide +kernel
theorem dX5_passDays_94 : decode cX5_passDays 94 = .ok (.getfield 7, 3) := by decide +kernel
theorem dX5_passDays_97 : decode cX5_passDays 97 = .ok (.bipush 58, 2) := by decide +kernel
theorem dX5_passDays_99 : decode cX5_passDays 99 = .ok (.dup2, 1) := by decide +kernel
theorem dX5_passDays_100 : decode cX5_passDays 100 = .ok (.iaload, 1) := by decide +kernel
theorem dX5_passDays_101 : decode cX5_passDays 101 = .ok (.iload 5, 2) := by decide +kernel
theorem dX5_passDays_103 : decode cX5_passDays 103 = .ok (.iadd, 1) := by decide +kernel
theorem dX5_passDays_104 : decode cX5_passDays 104 = .ok (.iastore, 1) := by decide +kernel
theorem dX5_passDays_105 : decode cX5_passDays 105 = .ok (.aload_n 0, 1) := by decide +kernel
theorem dX5_passDays_106 : decode cX5_passDays 106 = .ok (.getfield 7, 3) := by decide +kernel
theorem dX5_passDays_109 : decode cX5_passDays 109 = .ok (.bipush 59, 2) := by decide +kernel
theorem dX5_passDays_111 : decode cX5_passDays 111 = .ok (.dup2, 1) := by decide +kernel
theorem dX5_passDays_112 : decode cX5_passDays 112 = .ok (.iaload, 1) := by decide +kernel
theorem dX5_passDays_113 : decode cX5_passDays 113 = .ok (.iload 6, 2) := by decide +kernel
theorem dX5_passDays_115 : decode cX5_passDays 115 = .ok (.iadd, 1) := by decide +kernel
theorem dX5_passDays_116 : decode cX5_passDays 116 = .ok (.iastore, 1) := by decide +kernel
theorem dX5_passDays_117 : decode cX5_passDays 117 = .ok (.aload_n 0, 1) := by decide +kernel
theorem dX5_passDays_118 : decode cX5_passDays 118 = .ok (.getfield 7, 3) := by decide +kernel
theorem dX5_passDays_121 : decode cX5_passDays 121 = .ok (.bipush 60, 2) := by decide +kernel
theorem dX5_passDays_123 : decode cX5_passDays 123 = .ok (.dup2, 1) := by decide +kernel
theorem dX5_passDays_124 : decode cX5_passDays 124 = .ok (.iaload, 1) := by decide +kernel
theorem dX5_passDays_125 : decode cX5_passDays 125 = .ok (.iload 5, 2) := by decide +kernel
theorem dX5_passDays_127 : decode cX5_passDays 127 = .ok (.ifCond .le 12, 3) := by decide +kernel
theorem dX5_passDays_130 : decode cX5_passDays 130 = .ok (.iload 6, 2) := by decide +kernel
theorem dX5_passDays_132 : decode cX5_passDays 132 = .ok (.ifCond .le 7, 3) := by decide +kernel
theorem dX5_passDays_135 : decode cX5_passDays 135 = .ok (.iconst 1, 1) := by decide +kernel
theorem dX5_passDays_136 : decode cX5_passDays 136 = .ok (.goto 4, 3) := by decide +kernel
theorem dX5_passDays_139 : decode cX5_passDays 139 = .ok (.iconst 0, 1) := by decide +kernel
theorem dX5_passDays_140 : decode cX5_passDays 140 = .ok (.iadd, 1) := by decide +kernel
theorem dX5_passDays_141 : decode cX5_passDays 141 = .ok (.iastore, 1) := by decide +kernel
theorem dX5_passDays_142 : decode cX5_passDays 142 = .ok (.aload_n 0, 1) := by decide +kernel
theorem dX5_passDays_143 : decode cX5_passDays 143 = .ok (.getfield 7, 3) := by decide +kernel
theorem dX5_passDays_146 : decode cX5_passDays 146 = .ok (.bipush 61, 2) := by decide +kernel
theorem dX5_passDays_148 : decode cX5_passDays 148 = .ok (.dup2, 1) := by decide +kernel
theorem dX5_passDays_149 : decode cX5_passDays 149 = .ok (.iaload, 1) := by decide +kernel
theorem dX5_passDays_150 : decode cX5_passDays 150 = .ok (.iload 4, 2) := by decide +kernel
theorem dX5_passDays_152 : decode cX5_passDays 152 = .ok (.ifCond .ne 13, 3) := by decide +kernel
theorem dX5_passDays_155 : decode cX5_passDays 155 = .ok (.aload_n 0, 1) := by decide +kernel
theorem dX5_passDays_156 : decode cX5_passDays 156 = .ok (.getfield 7, 3) := by decide +kernel
theorem dX5_passDays_159 : decode cX5_passDays 159 = .ok (.bipush 56, 2) := by decide +kernel
theorem dX5_passDays_161 : decode cX5_passDays 161 = .ok (.iaload, 1) := by decide +kernel
theorem dX5_passDays_162 : decode cX5_passDays 162 = .ok (.goto 4, 3) := by decide +kernel
theorem dX5_passDays_165 : decode cX5_passDays 165 = .ok (.iconst 0, 1) := by decide +kernel
theorem dX5_passDays_166 : decode cX5_passDays 166 = .ok (.iadd, 1) := by decide +kernel
theorem dX5_passDays_167 : decode cX5_passDays 167 = .ok (.iastore, 1) := by decide +kernel
theorem dX5_passDays_168 : decode cX5_passDays 168 = .ok (.aload_n 0, 1) := by decide +kernel
theorem dX5_passDays_169 : decode cX5_passDays 169 = .ok (.getfield 7, 3) := by decide +kernel
theorem dX5_passDays_172 : decode cX5_passDays 172 = .ok (.bipush 57, 2) := by decide +kernel
theorem dX5_passDays_174 : decode cX5_passDays 174 = .ok (.dup2, 1) := by decide +kernel
theorem dX5_passDays_175 : decode cX5_passDays 175 = .ok (.iaload, 1) := by decide +kernel
theorem dX5_passDays_176 : decode cX5_passDays 176 = .ok (.iconst 1, 1) := by decide +kernel
theorem dX5_passDays_177 : decode cX5_passDays 177 = .ok (.iadd, 1) := by decide +kernel
theorem dX5_passDays_178 : decode cX5_passDays 178 = .ok (.iastore, 1) := by decide +kernel
theorem dX5_passDays_179 : decode cX5_passDays 179 = .ok (.iinc 3 1, 3) := by decide +kernel
theorem dX5_passDays_182 : decode cX5_passDays 182 = .ok (.goto (-125), 3) := by decide +kernel
theorem dX5_passDays_185 : decode cX5_passDays 185 = .ok (.aload_n 0, 1) := by decide +kernel
theorem dX5_passDays_186 : decode cX5_passDays 186 = .ok (.getfield 7, 3) := by decide +kernel
theorem dX5_passDays_189 : decode cX5_passDays 189 = .ok (.bipush 60, 2) := by decide +kernel
theorem dX5_passDays_191 : decode cX5_passDays 191 = .ok (.iaload, 1) := by decide +kernel
theorem dX5_passDays_192 : decode cX5_passDays 192 = .ok (.iload_n 2, 1) := by decide +kernel
theorem dX5_passDays_193 : decode cX5_passDays 193 = .ok (.isub, 1) := by decide +kernel
theorem dX5_passDays_194 : decode cX5_passDays 194 = .ok (.ireturn, 1) := by decide +kernel
theorem dX5_today_0 : decode cX5_today 0 = .ok (.aload_n 0, 1) := by decide +kernel
theorem dX5_today_1 : decode cX5_today 1 = .ok (.iconst 0, 1) := by decide +kernel
theorem dX5_today_2 : decode cX5_today 2 = .ok (.putfield 29, 3) := by decide +kernel
theorem dX5_today_5 : decode cX5_today 5 = .ok (.aload_n 0, 1) := by decide +kernel
theorem dX5_today_6 : decode cX5_today 6 = .ok (.getfield 7, 3) := by decide +kernel
theorem dX5_today_9 : decode cX5_today 9 = .ok (.bipush 57, 2) := by decide +kernel
theorem dX5_today_11 : decode cX5_today 11 = .ok (.iaload, 1) := by decide +kernel
theorem dX5_today_12 : decode cX5_today 12 = .ok (.ireturn, 1) := by decide +kernel
set_option maxRecDepth 20000 in
theorem ggX5_feastsKept_X5_isTown : GoodIn wsX5_feastsKept wsX5_isTown := goodIn_r _ [6, 7, 8, 5, 9] (by decide +kernel) (by decide +kernel)
set_option maxRecDepth 20000 in
theorem gX5_feastsKept_X5_isTown : GoodIn wsX5_feastsKept (va_wsS RX5 47 yX5_isTown wsX5_isTown) := goodIn_app (goodIn_of _ (by decide +kernel)) ggX5_feastsKept_X5_isTown
set_option maxRecDepth 20000 in
theorem ggX5_feastsKept_X5_fails : GoodIn wsX5_feastsKept wsX5_fails := goodIn_r _ [13, 1, 14, 15, 16, 17, 18, 19, 20, 21, 22, 23] (by decide +kernel) (by decide +kernel)
set_option maxRecDepth 20000 in
theorem gX5_feastsKept_X5_fails : GoodIn wsX5_feastsKept (wsV RX5 40 RX5 yX5_fails wsX5_fails) := goodIn_app (goodIn_of _ (by decide +kernel)) ggX5_feastsKept_X5_fails
theorem dX5_feastsKept_0 : decode cX5_feastsKept 0 = .ok (.aload_n 0, 1) := by decide +kernel
theorem dX5_feastsKept_1 : decode cX5_feastsKept 1 = .ok (.iconst 0, 1) := by decide +kernel
theorem dX5_feastsKept_2 : decode cX5_feastsKept 2 = .ok (.putfield 29, 3) := by decide +kernel
theorem dX5_feastsKept_5 : decode cX5_feastsKept 5 = .ok (.iload_n 1, 1) := by decide +kernel
theorem dX5_feastsKept_6 : decode cX5_feastsKept 6 = .ok (.invokestatic 47, 3) := by decide +kernel
theorem dX5_feastsKept_9 : decode cX5_feastsKept 9 = .ok (.ifCond .eq 15, 3) := by decide +kernel
theorem dX5_feastsKept_12 : decode cX5_feastsKept 12 = .ok (.aload_n 0, 1) := by decide +kernel
theorem dX5_feastsKept_13 : decode cX5_feastsKept 13 = .ok (.getfield 7, 3) := by decide +kernel
theorem dX5_feastsKept_16 : decode cX5_feastsKept 16 = .ok (.bipush 58, 2) := by decide +kernel
theorem dX5_feastsKept_18 : decode cX5_feastsKept 18 = .ok (.iload_n 1, 1) := by decide +kernel
theorem dX5_feastsKept_19 : decode cX5_feastsKept 19 = .ok (.iadd, 1) := by decide +kernel
theorem dX5_feastsKept_20 : decode cX5_feastsKept 20 = .ok (.iaload, 1) := by decide +kernel
theorem dX5_feastsKept_21 : decode cX5_feastsKept 21 = .ok (.goto 8, 3) := by decide +kernel
theorem dX5_feastsKept_24 : decode cX5_feastsKept 24 = .ok (.aload_n 0, 1) := by decide +kernel
theorem dX5_feastsKept_25 : decode cX5_feastsKept 25 = .ok (.iconst 1, 1) := by decide +kernel
theorem dX5_feastsKept_26 : decode cX5_feastsKept 26 = .ok (.invokevirtual 40, 3) := by decide +kernel
theorem dX5_feastsKept_29 : decode cX5_feastsKept 29 = .ok (.ireturn, 1) := by decide +kernel
theorem dX5_quarrelCount_0 : decode cX5_quarrelCount 0 = .ok (.aload_n 0, 1) := by decide +kernel
theorem dX5_quarrelCount_1 : decode cX5_quarrelCount 1 = .ok (.iconst 0, 1) := by decide +kernel
theorem dX5_quarrelCount_2 : decode cX5_quarrelCount 2 = .ok (.putfield 29, 3) := by decide +kernel
theorem dX5_quarrelCount_5 : decode cX5_quarrelCount 5 = .ok (.aload_n 0, 1) := by decide +kernel
theorem dX5_quarrelCount_6 : decode cX5_quarrelCount 6 = .ok (.getfield 7, 3) := by decide +kernel
theorem dX5_quarrelCount_9 : decode cX5_quarrelCount 9 = .ok (.bipush 60, 2) := by decide +kernel
theorem dX5_quarrelCount_11 : decode cX5_quarrelCount 11 = .ok (.iaload, 1) := by decide +kernel
theorem dX5_quarrelCount_12 : decode cX5_quarrelCount 12 = .ok (.ireturn, 1) := by decide +kernel
theorem dX5_copiesMade_0 : decode cX5_copiesMade 0 = .ok (.aload_n 0, 1) := by decide +kernel
theorem dX5_copiesMade_1 : decode cX5_copiesMade 1 = .ok (.iconst 0, 1) := by decide +kernel
theorem dX5_copiesMade_2 : decode cX5_copiesMade 2 = .ok (.putfield 29, 3) := by decide +kernel
theorem dX5_copiesMade_5 : decode cX5_copiesMade 5 = .ok (.aload_n 0, 1) := by decide +kernel
theorem dX5_copiesMade_6 : decode cX5_copiesMade 6 = .ok (.getfield 7, 3) := by decide +kernel
theorem dX5_copiesMade_9 : decode cX5_copiesMade 9 = .ok (.bipush 61, 2) := by decide +kernel
theorem dX5_copiesMade_11 : decode cX5_copiesMade 11 = .ok (.iaload, 1) := by decide +kernel
theorem dX5_copiesMade_12 : decode cX5_copiesMade 12 = .ok (.ireturn, 1) := by decide +kernel
set_option maxRecDepth 20000 in
theorem ggX5_nextDay_X5_isFeast : GoodIn wsX5_nextDay wsX5_isFeast := goodIn_r _ [7, 2, 8, 9, 6, 10, 60, 61, 62, 63, 64, 65, 66, 67, 68, 69] (by decide +kernel) (by decide +kernel)
set_option maxRecDepth 20000 in
theorem gX5_nextDay_X5_isFeast : GoodIn wsX5_nextDay (wsV RX5 87 RX5 yX5_isFeast wsX5_isFeast) := goodIn_app (goodIn_of _ (by decide +kernel)) ggX5_nextDay_X5_isFeast
set_option maxRecDepth 20000 in
theorem ggX5_nextDay_X5_fails : GoodIn wsX5_nextDay wsX5_fails := goodIn_r _ [14, 1, 60, 61, 62, 63, 64, 65, 66, 67, 68, 69] (by decide +kernel) (by decide +kernel)
set_option maxRecDepth 20000 in
theorem gX5_nextDay_X5_fails : GoodIn wsX5_nextDay (wsV RX5 40 RX5 yX5_fails wsX5_fails) := goodIn_app (goodIn_of _ (by decide +kernel)) ggX5_nextDay_X5_fails
set_option maxRecDepth 20000 in
theorem ggX5_nextDay_X5_isOn : GoodIn wsX5_nextDay wsX5_isOn := goodIn_r _ [18, 19, 20, 21, 6, 22, 2, 23, 24, 25, 26, 27, 28, 29, 30, 31, 32, 33, 34, 35, 36, 37, 38, 39, 40, 41, 42, 43, 44, 45, 46, 47, 48, 49, 50, 51, 52, 53, 54, 55, 56, 57, 58, 59, 60, 61, 62, 63, 64, 65, 66, 67, 68, 69] (by decide +kernel) (by decide +kernel)
set_option maxRecDepth 20000 in
theorem gX5_nextDay_X5_isOn : GoodIn wsX5_nextDay (wsV RX5 99 RX5 yX5_isOn wsX5_isOn) := goodIn_app (goodIn_of _ (by decide +kernel)) ggX5_nextDay_X5_isOn
theorem dX5_nextDay_0 : decode cX5_nextDay 0 = .ok (.aload_n 0, 1) := by decide +kernel
theorem dX5_nextDay_1 : decode cX5_nextDay 1 = .ok (.iconst 0, 1) := by decide +kernel
theorem dX5_nextDay_2 : decode cX5_nextDay 2 = .ok (.putfield 29, 3) := by decide +kernel
theorem dX5_nextDay_5 : decode cX5_nextDay 5 = .ok (.aload_n 0, 1) := by decide +kernel
theorem dX5_nextDay_6 : decode cX5_nextDay 6 = .ok (.iload_n 1, 1) := by decide +kernel
theorem dX5_nextDay_7 : decode cX5_nextDay 7 = .ok (.invokevirtual 87, 3) := by decide +kernel
theorem dX5_nextDay_10 : decode cX5_nextDay 10 = .ok (.ifCond .ne 9, 3) := by decide +kernel
theorem dX5_nextDay_13 : decode cX5_nextDay 13 = .ok (.aload_n 0, 1) := by decide +kernel
theorem dX5_nextDay_14 : decode cX5_nextDay 14 = .ok (.iconst 1, 1) := by decide +kernel
theorem dX5_nextDay_15 : decode cX5_nextDay 15 = .ok (.invokevirtual 40, 3) := by decide +kernel
theorem dX5_nextDay_18 : decode cX5_nextDay 18 = .ok (.ireturn, 1) := by decide +kernel
theorem dX5_nextDay_19 : decode cX5_nextDay 19 = .ok (.aload_n 0, 1) := by decide +kernel
theorem dX5_nextDay_20 : decode cX5_nextDay 20 = .ok (.getfield 7, 3) := by decide +kernel
theorem dX5_nextDay_23 : decode cX5_nextDay 23 = .ok (.bipush 57, 2) := by decide +kernel
theorem dX5_nextDay_25 : decode cX5_nextDay 25 = .ok (.iaload, 1) := by decide +kernel
theorem dX5_nextDay_26 : decode cX5_nextDay 26 = .ok (.istore_n 2, 1) := by decide +kernel
theorem dX5_nextDay_27 : decode cX5_nextDay 27 = .ok (.iload_n 2, 1) := by decide +kernel
theorem dX5_nextDay_28 : decode cX5_nextDay 28 = .ok (.aload_n 0, 1) := by decide +kernel
theorem dX5_nextDay_29 : decode cX5_nextDay 29 = .ok (.getfield 7, 3) := by decide +kernel
theorem dX5_nextDay_32 : decode cX5_nextDay 32 = .ok (.bipush 57, 2) := by decide +kernel
theorem dX5_nextDay_34 : decode cX5_nextDay 34 = .ok (.iaload, 1) := by decide +kernel
theorem dX5_nextDay_35 : decode cX5_nextDay 35 = .ok (.sipush 800, 3) := by decide +kernel
theorem dX5_nextDay_38 : decode cX5_nextDay 38 = .ok (.iadd, 1) := by decide +kernel
theorem dX5_nextDay_39 : decode cX5_nextDay 39 = .ok (.if_icmp .ge 20, 3) := by decide +kernel
theorem dX5_nextDay_42 : decode cX5_nextDay 42 = .ok (.aload_n 0, 1) := by decide +kernel
theorem dX5_nextDay_43 : decode cX5_nextDay 43 = .ok (.iload_n 1, 1) := by decide +kernel
theorem dX5_nextDay_44 : decode cX5_nextDay 44 = .ok (.iload_n 2, 1) := by decide +kernel
theorem dX5_nextDay_45 : decode cX5_nextDay 45 = .ok (.invokevirtual 99, 3) := by decide +kernel
theorem dX5_nextDay_48 : decode cX5_nextDay 48 = .ok (.ifCond .eq 5, 3) := by decide +kernel
theorem dX5_nextDay_51 : decode cX5_nextDay 51 = .ok (.iload_n 2, 1) := by decide +kernel
theorem dX5_nextDay_52 : decode cX5_nextDay 52 = .ok (.ireturn, 1) := by decide +kernel
theorem dX5_nextDay_53 : decode cX5_nextDay 53 = .ok (.iinc 2 1, 3) := by decide +kernel
theorem dX5_nextDay_56 : decode cX5_nextDay 56 = .ok (.goto (-29), 3) := by decide +kernel
theorem dX5_nextDay_59 : decode cX5_nextDay 59 = .ok (.iconst (-1), 1) := by decide +kernel
theorem dX5_nextDay_60 : decode cX5_nextDay 60 = .ok (.ireturn, 1) := by decide +kernel
set_option maxRecDepth 20000 in
theorem ggX5_daysUntilMeeting_X5_isFeast : GoodIn wsX5_daysUntilMeeting wsX5_isFeast := goodIn_r _ [7, 2, 8, 9, 6, 10, 60, 61, 62, 63, 64, 65, 66, 67, 68, 69] (by decide +kernel) (by decide +kernel)
set_option maxRecDepth 20000 in
theorem gX5_daysUntilMeeting_X5_isFeast : GoodIn wsX5_daysUntilMeeting (wsV RX5 87 RX5 yX5_isFeast wsX5_isFeast) := goodIn_app (goodIn_of _ (by decide +kernel)) ggX5_daysUntilMeeting_X5_isFeast
set_option maxRecDepth 20000 in
theorem ggX5_daysUntilMeeting_X5_fails : GoodIn wsX5_daysUntilMeeting wsX5_fails := goodIn_r _ [14, 1, 60, 61, 62, 63, 64, 65, 66, 67, 68, 69] (by decide +kernel) (by decide +kernel)
set_option maxRecDepth 20000 in
theorem gX5_daysUntilMeeting_X5_fails : GoodIn wsX5_daysUntilMeeting (wsV RX5 40 RX5 yX5_fails wsX5_fails) := goodIn_app (goodIn_of _ (by decide +kernel)) ggX5_daysUntilMeeting_X5_fails
set_option maxRecDepth 20000 in
theorem ggX5_daysUntilMeeting_X5_isOn : GoodIn wsX5_daysUntilMeeting wsX5_isOn := goodIn_r _ [18, 19, 20, 21, 6, 22, 2, 23, 24, 25, 26, 27, 28, 29, 30, 31, 32, 33, 34, 35, 36, 37, 38, 39, 40, 41, 42, 43, 44, 45, 46, 47, 48, 49, 50, 51, 52, 53, 54, 55, 56, 57, 58, 59, 60, 61, 62, 63, 64, 65, 66, 67, 68, 69] (by decide +kernel) (by decide +kernel)
set_option maxRecDepth 20000 in
theorem gX5_daysUntilMeeting_X5_isOn : GoodIn wsX5_daysUntilMeeting (wsV RX5 99 RX5 yX5_isOn wsX5_isOn) := goodIn_app (goodIn_of _ (by decide +kernel)) ggX5_daysUntilMeeting_X5_isOn
theorem dX5_daysUntilMeeting_0 : decode cX5_daysUntilMeeting 0 = .ok (.aload_n 0, 1) := by decide +kernel
theorem dX5_daysUntilMeeting_1 : decode cX5_daysUntilMeeting 1 = .ok (.iconst 0, 1) := by decide +kernel
theorem dX5_daysUntilMeeting_2 : decode cX5_daysUntilMeeting 2 = .ok (.putfield 29, 3) := by decide +kernel
theorem dX5_daysUntilMeeting_5 : decode cX5_daysUntilMeeting 5 = .ok (.aload_n 0, 1) := by decide +kernel
theorem dX5_daysUntilMeeting_6 : decode cX5_daysUntilMeeting 6 = .ok (.iload_n 1, 1) := by decide +kernel
theorem dX5_daysUntilMeeting_7 : decode cX5_daysUntilMeeting 7 = .ok (.invokevirtual 87, 3) := by decide +kernel
theorem dX5_daysUntilMeeting_10 : decode cX5_daysUntilMeeting 10 = .ok (.ifCond .eq 11, 3) := by decide +kernel
theorem dX5_daysUntilMeeting_13 : decode cX5_daysUntilMeeting 13 = .ok (.aload_n 0, 1) := by decide +kernel
theorem dX5_daysUntilMeeting_14 : decode cX5_daysUntilMeeting 14 = .ok (.iload_n 2, 1) := by decide +kernel
theorem dX5_daysUntilMeeting_15 : decode cX5_daysUntilMeeting 15 = .ok (.invokevirtual 87, 3) := by decide +kernel
theorem dX5_daysUntilMeeting_18 : decode cX5_daysUntilMeeting 18 = .ok (.ifCond .ne 9, 3) := by decide +kernel
theorem dX5_daysUntilMeeting_21 : decode cX5_daysUntilMeeting 21 = .ok (.aload_n 0, 1) := by decide +kernel
theorem dX5_daysUntilMeeting_22 : decode cX5_daysUntilMeeting 22 = .ok (.iconst 1, 1) := by decide +kernel
theorem dX5_daysUntilMeeting_23 : decode cX5_daysUntilMeeting 23 = .ok (.invokevirtual 40, 3) := by decide +kernel
theorem dX5_daysUntilMeeting_26 : decode cX5_daysUntilMeeting 26 = .ok (.ireturn, 1) := by decide +kernel
theorem dX5_daysUntilMeeting_27 : decode cX5_daysUntilMeeting 27 = .ok (.iload_n 1, 1) := by decide +kernel
theorem dX5_daysUntilMeeting_28 : decode cX5_daysUntilMeeting 28 = .ok (.iload_n 2, 1) := by decide +kernel
theorem dX5_daysUntilMeeting_29 : decode cX5_daysUntilMeeting 29 = .ok (.if_icmp .ne 9, 3) := by decide +kernel
theorem dX5_daysUntilMeeting_32 : decode cX5_daysUntilMeeting 32 = .ok (.aload_n 0, 1) := by decide +kernel
theorem dX5_daysUntilMeeting_33 : decode cX5_daysUntilMeeting 33 = .ok (.iconst 2, 1) := by decide +kernel
theorem dX5_daysUntilMeeting_34 : decode cX5_daysUntilMeeting 34 = .ok (.invokevirtual 40, 3) := by decide +kernel
theorem dX5_daysUntilMeeting_37 : decode cX5_daysUntilMeeting 37 = .ok (.ireturn, 1) := by decide +kernel
theorem dX5_daysUntilMeeting_38 : decode cX5_daysUntilMeeting 38 = .ok (.iconst 0, 1) := by decide +kernel
theorem dX5_daysUntilMeeting_39 : decode cX5_daysUntilMeeting 39 = .ok (.istore_n 3, 1) := by decide +kernel
theorem dX5_daysUntilMeeting_40 : decode cX5_daysUntilMeeting 40 = .ok (.iload_n 3, 1) := by decide +kernel
theorem dX5_daysUntilMeeting_41 : decode cX5_daysUntilMeeting 41 = .ok (.sipush 2000, 3) := by decide +kernel
theorem dX5_daysUntilMeeting_44 : decode cX5_daysUntilMeeting 44 = .ok (.if_icmp .gt 45, 3) := by decide +kernel
theorem dX5_daysUntilMeeting_47 : decode cX5_daysUntilMeeting 47 = .ok (.aload_n 0, 1) := by decide +kernel
theorem dX5_daysUntilMeeting_48 : decode cX5_daysUntilMeeting 48 = .ok (.iload_n 1, 1) := by decide +kernel
theorem dX5_daysUntilMeeting_49 : decode cX5_daysUntilMeeting 49 = .ok (.aload_n 0, 1) := by decide +kernel
theorem dX5_daysUntilMeeting_50 : decode cX5_daysUntilMeeting 50 = .ok (.getfield 7, 3) := by decide +kernel
theorem dX5_daysUntilMeeting_53 : decode cX5_daysUntilMeeting 53 = .ok (.bipush 57, 2) := by decide +kernel
theorem dX5_daysUntilMeeting_55 : decode cX5_daysUntilMeeting 55 = .ok (.iaload, 1) := by decide +kernel
theorem dX5_daysUntilMeeting_56 : decode cX5_daysUntilMeeting 56 = .ok (.iload_n 3, 1) := by decide +kernel
theorem dX5_daysUntilMeeting_57 : decode cX5_daysUntilMeeting 57 = .ok (.iadd, 1) := by decide +kernel
theorem dX5_daysUntilMeeting_58 : decode cX5_daysUntilMeeting 58 = .ok (.invokevirtual 99, 3) := by decide +kernel
theorem dX5_daysUntilMeeting_61 : decode cX5_daysUntilMeeting 61 = .ok (.ifCond .eq 22, 3) := by decide +kernel
theorem dX5_daysUntilMeeting_64 : decode cX5_daysUntilMeeting 64 = .ok (.aload_n 0, 1) := by decide +kernel
theorem dX5_daysUntilMeeting_65 : decode cX5_daysUntilMeeting 65 = .ok (.iload_n 2, 1) := by decide +kernel
theorem dX5_daysUntilMeeting_66 : decode cX5_daysUntilMeeting 66 = .ok (.aload_n 0, 1) := by decide +kernel
theorem dX5_daysUntilMeeting_67 : decode cX5_daysUntilMeeting 67 = .ok (.getfield 7, 3) := by decide +kernel
theorem dX5_daysUntilMeeting_70 : decode cX5_daysUntilMeeting 70 = .ok (.bipush 57, 2) := by decide +kernel
theorem dX5_daysUntilMeeting_72 : decode cX5_daysUntilMeeting 72 = .ok (.iaload, 1) := by decide +kernel
theorem dX5_daysUntilMeeting_73 : decode cX5_daysUntilMeeting 73 = .ok (.iload_n 3, 1) := by decide +kernel
theorem dX5_daysUntilMeeting_74 : decode cX5_daysUntilMeeting 74 = .ok (.iadd, 1) := by decide +kernel
theorem dX5_daysUntilMeeting_75 : decode cX5_daysUntilMeeting 75 = .ok (.invokevirtual 99, 3) := by decide +kernel
theorem dX5_daysUntilMeeting_78 : decode cX5_daysUntilMeeting 78 = .ok (.ifCond .eq 5, 3) := by decide +kernel
theorem dX5_daysUntilMeeting_81 : decode cX5_daysUntilMeeting 81 = .ok (.iload_n 3, 1) := by decide +kernel
theorem dX5_daysUntilMeeting_82 : decode cX5_daysUntilMeeting 82 = .ok (.ireturn, 1) := by decide +kernel
theorem dX5_daysUntilMeeting_83 : decode cX5_daysUntilMeeting 83 = .ok (.iinc 3 1, 3) := by decide +kernel
theorem dX5_daysUntilMeeting_86 : decode cX5_daysUntilMeeting 86 = .ok (.goto (-46), 3) := by decide +kernel
theorem dX5_daysUntilMeeting_89 : decode cX5_daysUntilMeeting 89 = .ok (.iconst (-1), 1) := by decide +kernel
theorem dX5_daysUntilMeeting_90 : decode cX5_daysUntilMeeting 90 = .ok (.ireturn, 1) := by decide +kernel
set_option maxRecDepth 20000 in
theorem ggX5_quarrelsIn_X5_quarrels : GoodIn wsX5_quarrelsIn wsX5_quarrels := goodIn_r _ [6, 7, 8, 9, 5, 10, 1, 11, 12, 13, 14, 15, 16, 17, 18, 19, 20, 21, 22, 23, 24, 25, 26, 27, 28, 29, 30, 31, 32, 33, 34, 35, 36, 37, 38, 39, 40, 41, 42, 43, 44, 45, 46, 47, 48, 49, 50, 51, 52, 53, 54, 55, 56, 57, 58, 59, 60, 61, 62, 63, 64, 65, 66, 67, 68, 69] (by decide +kernel) (by decide +kernel)
set_option maxRecDepth 20000 in
theorem gX5_quarrelsIn_X5_quarrels : GoodIn wsX5_quarrelsIn (wsV RX5 109 RX5 yX5_quarrels wsX5_quarrels) := goodIn_app (goodIn_of _ (by decide +kernel)) ggX5_quarrelsIn_X5_quarrels
theorem dX5_quarrelsIn_0 : decode cX5_quarrelsIn 0 = .ok (.iconst 0, 1) := by decide +kernel
theorem dX5_quarrelsIn_1 : decode cX5_quarrelsIn 1 = .ok (.istore_n 2, 1) := by decide +kernel
theorem dX5_quarrelsIn_2 : decode cX5_quarrelsIn 2 = .ok (.aload_n 0, 1) := by decide +kernel
theorem dX5_quarrelsIn_3 : decode cX5_quarrelsIn 3 = .ok (.getfield 7, 3) := by decide +kernel
theorem dX5_quarrelsIn_6 : decode cX5_quarrelsIn 6 = .ok (.bipush 57, 2) := by decide +kernel
theorem dX5_quarrelsIn_8 : decode cX5_quarrelsIn 8 = .ok (.iaload, 1) := by decide +kernel
theorem dX5_quarrelsIn_9 : decode cX5_quarrelsIn 9 = .ok (.istore_n 3, 1) := by decide +kernel
theorem dX5_quarrelsIn_10 : decode cX5_quarrelsIn 10 = .ok (.iload_n 3, 1) := by decide +kernel
theorem dX5_quarrelsIn_11 : decode cX5_quarrelsIn 11 = .ok (.aload_n 0, 1) := by decide +kernel
theorem dX5_quarrelsIn_12 : decode cX5_quarrelsIn 12 = .ok (.getfield 7, 3) := by decide +kernel
theorem dX5_quarrelsIn_15 : decode cX5_quarrelsIn 15 = .ok (.bipush 57, 2) := by decide +kernel
theorem dX5_quarrelsIn_17 : decode cX5_quarrelsIn 17 = .ok (.iaload, 1) := by decide +kernel
theorem dX5_quarrelsIn_18 : decode cX5_quarrelsIn 18 = .ok (.iload_n 1, 1) := by decide +kernel
theorem dX5_quarrelsIn_19 : decode cX5_quarrelsIn 19 = .ok (.iadd, 1) := by decide +kernel
theorem dX5_quarrelsIn_20 : decode cX5_quarrelsIn 20 = .ok (.if_icmp .ge 25, 3) := by decide +kernel
theorem dX5_quarrelsIn_23 : decode cX5_quarrelsIn 23 = .ok (.iload_n 2, 1) := by decide +kernel
theorem dX5_quarrelsIn_24 : decode cX5_quarrelsIn 24 = .ok (.aload_n 0, 1) := by decide +kernel
theorem dX5_quarrelsIn_25 : decode cX5_quarrelsIn 25 = .ok (.iload_n 3, 1) := by decide +kernel
theorem dX5_quarrelsIn_26 : decode cX5_quarrelsIn 26 = .ok (.invokevirtual 109, 3) := by decide +kernel
theorem dX5_quarrelsIn_29 : decode cX5_quarrelsIn 29 = .ok (.ifCond .eq 7, 3) := by decide +kernel
theorem dX5_quarrelsIn_32 : decode cX5_quarrelsIn 32 = .ok (.iconst 1, 1) := by decide +kernel
theorem dX5_quarrelsIn_33 : decode cX5_quarrelsIn 33 = .ok (.goto 4, 3) := by decide +kernel
theorem dX5_quarrelsIn_36 : decode cX5_quarrelsIn 36 = .ok (.iconst 0, 1) := by decide +kernel
theorem dX5_quarrelsIn_37 : decode cX5_quarrelsIn 37 = .ok (.iadd, 1) := by decide +kernel
theorem dX5_quarrelsIn_38 : decode cX5_quarrelsIn 38 = .ok (.istore_n 2, 1) := by decide +kernel
theorem dX5_quarrelsIn_39 : decode cX5_quarrelsIn 39 = .ok (.iinc 3 1, 3) := by decide +kernel
theorem dX5_quarrelsIn_42 : decode cX5_quarrelsIn 42 = .ok (.goto (-32), 3) := by decide +kernel
theorem dX5_quarrelsIn_45 : decode cX5_quarrelsIn 45 = .ok (.iload_n 2, 1) := by decide +kernel
theorem dX5_quarrelsIn_46 : decode cX5_quarrelsIn 46 = .ok (.ireturn, 1) := by decide +kernel
set_option maxRecDepth 20000 in
theorem ggX5_quarrelsWithin_X5_in : GoodIn wsX5_quarrelsWithin wsX5_in := goodIn_r _ [5] (by decide +kernel) (by decide +kernel)
set_option maxRecDepth 20000 in
theorem gX5_quarrelsWithin_X5_in : GoodIn wsX5_quarrelsWithin (va_wsS RX5 33 yX5_in wsX5_in) := goodIn_app (goodIn_of _ (by decide +kernel)) ggX5_quarrelsWithin_X5_in
set_option maxRecDepth 20000 in
theorem ggX5_quarrelsWithin_X5_quarrelsIn : GoodIn wsX5_quarrelsWithin wsX5_quarrelsIn := goodIn_r _ [9, 10, 11, 12, 13, 4, 14, 15, 16, 17, 18, 19, 20, 21, 22, 23, 24, 25, 26, 27, 28, 29, 30, 31, 32, 33, 34, 35, 36, 37, 38, 39, 40, 41, 42, 43, 44, 45, 46, 47, 48, 49, 50, 51, 52, 53, 54, 55, 56, 57, 58, 59, 60, 61, 62, 63, 64, 65, 66, 67, 72, 73, 74, 75, 76, 77, 78, 79, 80, 81] (by decide +kernel) (by decide +kernel)
set_option maxRecDepth 20000 in
theorem gX5_quarrelsWithin_X5_quarrelsIn : GoodIn wsX5_quarrelsWithin (wsV RX5 112 RX5 yX5_quarrelsIn wsX5_quarrelsIn) := goodIn_app (goodIn_of _ (by decide +kernel)) ggX5_quarrelsWithin_X5_quarrelsIn
set_option maxRecDepth 20000 in
theorem ggX5_quarrelsWithin_X5_fails : GoodIn wsX5_quarrelsWithin wsX5_fails := goodIn_r _ [71, 1, 72, 73, 74, 75, 76, 77, 78, 79, 80, 81] (by decide +kernel) (by decide +kernel)
set_option maxRecDepth 20000 in
theorem gX5_quarrelsWithin_X5_fails : GoodIn wsX5_quarrelsWithin (wsV RX5 40 RX5 yX5_fails wsX5_fails) := goodIn_app (goodIn_of _ (by decide +kernel)) ggX5_quarrelsWithin_X5_fails
theorem dX5_quarrelsWithin_0 : decode cX5_quarrelsWithin 0 = .ok (.aload_n 0, 1) := by decide +kernel
theorem dX5_quarrelsWithin_1 : decode cX5_quarrelsWithin 1 = .ok (.iconst 0, 1) := by decide +kernel
theorem dX5_quarrelsWithin_2 : decode cX5_quarrelsWithin 2 = .ok (.putfield 29, 3) := by decide +kernel
theorem dX5_quarrelsWithin_5 : decode cX5_quarrelsWithin 5 = .ok (.iload_n 1, 1) := by decide +kernel
theorem dX5_quarrelsWithin_6 : decode cX5_quarrelsWithin 6 = .ok (.iconst 1, 1) := by decide +kernel
theorem dX5_quarrelsWithin_7 : decode cX5_quarrelsWithin 7 = .ok (.sipush 400, 3) := by decide +kernel
theorem dX5_quarrelsWithin_10 : decode cX5_quarrelsWithin 10 = .ok (.invokestatic 33, 3) := by decide +kernel
theorem dX5_quarrelsWithin_13 : decode cX5_quarrelsWithin 13 = .ok (.ifCond .eq 11, 3) := by decide +kernel
theorem dX5_quarrelsWithin_16 : decode cX5_quarrelsWithin 16 = .ok (.aload_n 0, 1) := by decide +kernel
theorem dX5_quarrelsWithin_17 : decode cX5_quarrelsWithin 17 = .ok (.iload_n 1, 1) := by decide +kernel
theorem dX5_quarrelsWithin_18 : decode cX5_quarrelsWithin 18 = .ok (.invokevirtual 112, 3) := by decide +kernel
theorem dX5_quarrelsWithin_21 : decode cX5_quarrelsWithin 21 = .ok (.goto 8, 3) := by decide +kernel
theorem dX5_quarrelsWithin_24 : decode cX5_quarrelsWithin 24 = .ok (.aload_n 0, 1) := by decide +kernel
theorem dX5_quarrelsWithin_25 : decode cX5_quarrelsWithin 25 = .ok (.iconst 1, 1) := by decide +kernel
theorem dX5_quarrelsWithin_26 : decode cX5_quarrelsWithin 26 = .ok (.invokevirtual 40, 3) := by decide +kernel
theorem dX5_quarrelsWithin_29 : decode cX5_quarrelsWithin 29 = .ok (.ireturn, 1) := by decide +kernel
set_option maxRecDepth 20000 in
theorem ggX5_bestBarredWeekday_X5_isFeast : GoodIn wsX5_bestBarredWeekday wsX5_isFeast := goodIn_r _ [7, 2, 8, 9, 6, 10, 76, 77, 78, 79, 80, 81, 82, 83, 84, 85] (by decide +kernel) (by decide +kernel)
set_option maxRecDepth 20000 in
theorem gX5_bestBarredWeekday_X5_isFeast : GoodIn wsX5_bestBarredWeekday (wsV RX5 87 RX5 yX5_isFeast wsX5_isFeast) := goodIn_app (goodIn_of _ (by decide +kernel)) ggX5_bestBarredWeekday_X5_isFeast
set_option maxRecDepth 20000 in
theorem ggX5_bestBarredWeekday_X5_fails : GoodIn wsX5_bestBarredWeekday wsX5_fails := goodIn_r _ [14, 1, 76, 77, 78, 79, 80, 81, 82, 83, 84, 85] (by decide +kernel) (by decide +kernel)
set_option maxRecDepth 20000 in
theorem gX5_bestBarredWeekday_X5_fails : GoodIn wsX5_bestBarredWeekday (wsV RX5 40 RX5 yX5_fails wsX5_fails) := goodIn_app (goodIn_of _ (by decide +kernel)) ggX5_bestBarredWeekday_X5_fails
set_option maxRecDepth 20000 in
theorem ggX5_bestBarredWeekday_X5_quarrelsIn : GoodIn wsX5_bestBarredWeekday wsX5_quarrelsIn := goodIn_r _ [18, 2, 19, 20, 21, 6, 22, 23, 24, 25, 26, 27, 28, 29, 30, 31, 32, 33, 34, 35, 36, 37, 38, 39, 40, 41, 42, 43, 44, 45, 46, 47, 48, 49, 50, 51, 52, 53, 54, 55, 56, 57, 58, 59, 60, 61, 62, 63, 64, 65, 66, 67, 68, 69, 70, 71, 72, 73, 74, 75, 76, 77, 78, 79, 80, 81, 82, 83, 84, 85] (by decide +kernel) (by decide +kernel)
set_option maxRecDepth 20000 in
theorem gX5_bestBarredWeekday_X5_quarrelsIn : GoodIn wsX5_bestBarredWeekday (wsV RX5 112 RX5 yX5_quarrelsIn wsX5_quarrelsIn) := goodIn_app (goodIn_of _ (by decide +kernel)) ggX5_bestBarredWeekday_X5_quarrelsIn
theorem dX5_bestBarredWeekday_0 : decode cX5_bestBarredWeekday 0 = .ok (.aload_n 0, 1) := by decide +kernel
theorem dX5_bestBarredWeekday_1 : decode cX5_bestBarredWeekday 1 = .ok (.iconst 0, 1) := by decide +kernel
theorem dX5_bestBarredWeekday_2 : decode cX5_bestBarredWeekday 2 = .ok (.putfield 29, 3) := by decide +kernel
theorem dX5_bestBarredWeekday_5 : decode cX5_bestBarredWeekday 5 = .ok (.aload_n 0, 1) := by decide +kernel
theorem dX5_bestBarredWeekday_6 : decode cX5_bestBarredWeekday 6 = .ok (.iload_n 1, 1) := by decide +kernel
theorem dX5_bestBarredWeekday_7 : decode cX5_bestBarredWeekday 7 = .ok (.invokevirtual 87, 3) := by decide +kernel
theorem dX5_bestBarredWeekday_10 : decode cX5_bestBarredWeekday 10 = .ok (.ifCond .ne 9, 3) := by decide +kernel
theorem dX5_bestBarredWeekday_13 : decode cX5_bestBarredWeekday 13 = .ok (.aload_n 0, 1) := by decide +kernel
theorem dX5_bestBarredWeekday_14 : decode cX5_bestBarredWeekday 14 = .ok (.iconst 1, 1) := by decide +kernel
theorem dX5_bestBarredWeekday_15 : decode cX5_bestBarredWeekday 15 = .ok (.invokevirtual 40, 3) := by decide +kernel
theorem dX5_bestBarredWeekday_18 : decode cX5_bestBarredWeekday 18 = .ok (.ireturn, 1) := by decide +kernel
theorem dX5_bestBarredWeekday_19 : decode cX5_bestBarredWeekday 19 = .ok (.bipush 15, 2) := by decide +kernel
theorem dX5_bestBarredWeekday_21 : decode cX5_bestBarredWeekday 21 = .ok (.iconst 4, 1) := by decide +kernel
theorem dX5_bestBarredWeekday_22 : decode cX5_bestBarredWeekday 22 = .ok (.iload_n 1, 1) := by decide +kernel
theorem dX5_bestBarredWeekday_23 : decode cX5_bestBarredWeekday 23 = .ok (.imul, 1) := by decide +kernel
theorem dX5_bestBarredWeekday_24 : decode cX5_bestBarredWeekday 24 = .ok (.iadd, 1) := by decide +kernel
theorem dX5_bestBarredWeekday_25 : decode cX5_bestBarredWeekday 25 = .ok (.iconst 3, 1) := by decide +kernel
theorem dX5_bestBarredWeekday_26 : decode cX5_bestBarredWeekday 26 = .ok (.iadd, 1) := by decide +kernel
theorem dX5_bestBarredWeekday_27 : decode cX5_bestBarredWeekday 27 = .ok (.istore_n 2, 1) := by decide +kernel
theorem dX5_bestBarredWeekday_28 : decode cX5_bestBarredWeekday 28 = .ok (.aload_n 0, 1) := by decide +kernel
theorem dX5_bestBarredWeekday_29 : decode cX5_bestBarredWeekday 29 = .ok (.getfield 7, 3) := by decide +kernel
theorem dX5_bestBarredWeekday_32 : decode cX5_bestBarredWeekday 32 = .ok (.iload_n 2, 1) := by decide +kernel
theorem dX5_bestBarredWeekday_33 : decode cX5_bestBarredWeekday 33 = .ok (.iaload, 1) := by decide +kernel
theorem dX5_bestBarredWeekday_34 : decode cX5_bestBarredWeekday 34 = .ok (.istore_n 3, 1) := by decide +kernel
theorem dX5_bestBarredWeekday_35 : decode cX5_bestBarredWeekday 35 = .ok (.iconst 0, 1) := by decide +kernel
theorem dX5_bestBarredWeekday_36 : decode cX5_bestBarredWeekday 36 = .ok (.istore 4, 2) := by decide +kernel
theorem dX5_bestBarredWeekday_38 : decode cX5_bestBarredWeekday 38 = .ok (.iconst 0, 1) := by decide +kernel
theorem dX5_bestBarredWeekday_39 : decode cX5_bestBarredWeekday 39 = .ok (.istore 5, 2) := by decide +kernel
theorem dX5_bestBarredWeekday_41 : decode cX5_bestBarredWeekday 41 = .ok (.iconst 0, 1) := by decide +kernel
theorem dX5_bestBarredWeekday_42 : decode cX5_bestBarredWeekday 42 = .ok (.istore 6, 2) := by decide +kernel
theorem dX5_bestBarredWeekday_44 : decode cX5_bestBarredWeekday 44 = .ok (.iload 6, 2) := by decide +kernel
theorem dX5_bestBarredWeekday_46 : decode cX5_bestBarredWeekday 46 = .ok (.bipush 7, 2) := by decide +kernel
theorem dX5_bestBarredWeekday_48 : decode cX5_bestBarredWeekday 48 = .ok (.if_icmp .ge 68, 3) := by decide +kernel
theorem dX5_bestBarredWeekday_51 : decode cX5_bestBarredWeekday 51 = .ok (.aload_n 0, 1) := by decide +kernel
theorem dX5_bestBarredWeekday_52 : decode cX5_bestBarredWeekday 52 = .ok (.getfield 7, 3) := by decide +kernel
theorem dX5_bestBarredWeekday_55 : decode cX5_bestBarredWeekday 55 = .ok (.iload_n 2, 1) := by decide +kernel
theorem dX5_bestBarredWeekday_56 : decode cX5_bestBarredWeekday 56 = .ok (.iload 6, 2) := by decide +kernel
theorem dX5_bestBarredWeekday_58 : decode cX5_bestBarredWeekday 58 = .ok (.iastore, 1) := by decide +kernel
theorem dX5_bestBarredWeekday_59 : decode cX5_bestBarredWeekday 59 = .ok (.aload_n 0, 1) := by decide +kernel
theorem dX5_bestBarredWeekday_60 : decode cX5_bestBarredWeekday 60 = .ok (.sipush 400, 3) := by decide +kernel
theorem dX5_bestBarredWeekday_63 : decode cX5_bestBarredWeekday 63 = .ok (.invokevirtual 112, 3) := by decide +kernel
theorem dX5_bestBarredWeekday_66 : decode cX5_bestBarredWeekday 66 = .ok (.istore 7, 2) := by decide +kernel
theorem dX5_bestBarredWeekday_68 : decode cX5_bestBarredWeekday 68 = .ok (.iload 6, 2) := by decide +kernel
theorem dX5_bestBarredWeekday_70 : decode cX5_bestBarredWeekday 70 = .ok (.ifCond .eq 10, 3) := by decide +kernel
theorem dX5_bestBarredWeekday_73 : decode cX5_bestBarredWeekday 73 = .ok (.iload 7, 2) := by decide +kernel
theorem dX5_bestBarredWeekday_75 : decode cX5_bestBarredWeekday 75 = .ok (.iload 5, 2) := by decide +kernel
theorem dX5_bestBarredWeekday_77 : decode cX5_bestBarredWeekday 77 = .ok (.if_icmp .ge 8, 3) := by decide +kernel
theorem dX5_bestBarredWeekday_80 : decode cX5_bestBarredWeekday 80 = .ok (.iload 6, 2) := by decide +kernel
theorem dX5_bestBarredWeekday_82 : decode cX5_bestBarredWeekday 82 = .ok (.goto 5, 3) := by decide +kernel
theorem dX5_bestBarredWeekday_85 : decode cX5_bestBarredWeekday 85 = .ok (.iload 4, 2) := by decide +kernel
theorem dX5_bestBarredWeekday_87 : decode cX5_bestBarredWeekday 87 = .ok (.istore 4, 2) := by decide +kernel
theorem dX5_bestBarredWeekday_89 : decode cX5_bestBarredWeekday 89 = .ok (.iload 6, 2) := by decide +kernel
theorem dX5_bestBarredWeekday_91 : decode cX5_bestBarredWeekday 91 = .ok (.ifCond .eq 10, 3) := by decide +kernel
theorem dX5_bestBarredWeekday_94 : decode cX5_bestBarredWeekday 94 = .ok (.iload 7, 2) := by decide +kernel
theorem dX5_bestBarredWeekday_96 : decode cX5_bestBarredWeekday 96 = .ok (.iload 5, 2) := by decide +kernel
theorem dX5_bestBarredWeekday_98 : decode cX5_bestBarredWeekday 98 = .ok (.if_icmp .ge 8, 3) := by decide +kernel
theorem dX5_bestBarredWeekday_101 : decode cX5_bestBarredWeekday 101 = .ok (.iload 7, 2) := by decide +kernel
theorem dX5_bestBarredWeekday_103 : decode cX5_bestBarredWeekday 103 = .ok (.goto 5, 3) := by decide +kernel
theorem dX5_bestBarredWeekday_106 : decode cX5_bestBarredWeekday 106 = .ok (.iload 5, 2) := by decide +kernel
theorem dX5_bestBarredWeekday_108 : decode cX5_bestBarredWeekday 108 = .ok (.istore 5, 2) := by decide +kernel
theorem dX5_bestBarredWeekday_110 : decode cX5_bestBarredWeekday 110 = .ok (.iinc 6 1, 3) := by decide +kernel
theorem dX5_bestBarredWeekday_113 : decode cX5_bestBarredWeekday 113 = .ok (.goto (-69), 3) := by decide +kernel
theorem dX5_bestBarredWeekday_116 : decode cX5_bestBarredWeekday 116 = .ok (.aload_n 0, 1) := by decide +kernel
theorem dX5_bestBarredWeekday_117 : decode cX5_bestBarredWeekday 117 = .ok (.getfield 7, 3) := by decide +kernel
theorem dX5_bestBarredWeekday_120 : decode cX5_bestBarredWeekday 120 = .ok (.iload_n 2, 1) := by decide +kernel
theorem dX5_bestBarredWeekday_121 : decode cX5_bestBarredWeekday 121 = .ok (.iload_n 3, 1) := by decide +kernel
theorem dX5_bestBarredWeekday_122 : decode cX5_bestBarredWeekday 122 = .ok (.iastore, 1) := by decide +kernel
theorem dX5_bestBarredWeekday_123 : decode cX5_bestBarredWeekday 123 = .ok (.iload 4, 2) := by decide +kernel
theorem dX5_bestBarredWeekday_125 : decode cX5_bestBarredWeekday 125 = .ok (.ireturn, 1) := by decide +kernel
set_option maxRecDepth 20000 in
theorem ggX5_appendText_X5_in : GoodIn wsX5_appendText wsX5_in := goodIn_r _ [8] (by decide +kernel) (by decide +kernel)
set_option maxRecDepth 20000 in
theorem gX5_appendText_X5_in : GoodIn wsX5_appendText (va_wsS RX5 33 yX5_in wsX5_in) := goodIn_app (goodIn_of _ (by decide +kernel)) ggX5_appendText_X5_in
set_option maxRecDepth 20000 in
theorem ggX5_appendText_X5_fails : GoodIn wsX5_appendText wsX5_fails := goodIn_r _ [12, 1, 13, 14, 15, 16, 17, 18, 19, 20, 21, 22] (by decide +kernel) (by decide +kernel)
set_option maxRecDepth 20000 in
theorem gX5_appendText_X5_fails : GoodIn wsX5_appendText (wsV RX5 40 RX5 yX5_fails wsX5_fails) := goodIn_app (goodIn_of _ (by decide +kernel)) ggX5_appendText_X5_fails
theorem dX5_appendText_0 : decode cX5_appendText 0 = .ok (.aload_n 0, 1) := by decide +kernel
theorem dX5_appendText_1 : decode cX5_appendText 1 = .ok (.iconst 0, 1) := by decide +kernel
theorem dX5_appendText_2 : decode cX5_appendText 2 = .ok (.putfield 29, 3) := by decide +kernel
theorem dX5_appendText_5 : decode cX5_appendText 5 = .ok (.iconst 0, 1) := by decide +kernel
theorem dX5_appendText_6 : decode cX5_appendText 6 = .ok (.istore_n 3, 1) := by decide +kernel
theorem dX5_appendText_7 : decode cX5_appendText 7 = .ok (.lload_n 1, 1) := by decide +kernel
theorem dX5_appendText_8 : decode cX5_appendText 8 = .ok (.lstore 4, 2) := by decide +kernel
theorem dX5_appendText_10 : decode cX5_appendText 10 = .ok (.iconst 1, 1) := by decide +kernel
theorem dX5_appendText_11 : decode cX5_appendText 11 = .ok (.istore 6, 2) := by decide +kernel
theorem dX5_appendText_13 : decode cX5_appendText 13 = .ok (.iload_n 3, 1) := by decide +kernel
theorem dX5_appendText_14 : decode cX5_appendText 14 = .ok (.bipush 8, 2) := by decide +kernel
theorem dX5_appendText_16 : decode cX5_appendText 16 = .ok (.if_icmp .ge 56, 3) := by decide +kernel
theorem dX5_appendText_19 : decode cX5_appendText 19 = .ok (.lload 4, 2) := by decide +kernel
theorem dX5_appendText_21 : decode cX5_appendText 21 = .ok (.ldc2_w 115, 3) := by decide +kernel
theorem dX5_appendText_24 : decode cX5_appendText 24 = .ok (.land, 1) := by decide +kernel
theorem dX5_appendText_25 : decode cX5_appendText 25 = .ok (.lconst 0, 1) := by decide +kernel
theorem dX5_appendText_26 : decode cX5_appendText 26 = .ok (.lcmp, 1) := by decide +kernel
theorem dX5_appendText_27 : decode cX5_appendText 27 = .ok (.ifCond .eq 45, 3) := by decide +kernel
theorem dX5_appendText_30 : decode cX5_appendText 30 = .ok (.iload 6, 2) := by decide +kernel
theorem dX5_appendText_32 : decode cX5_appendText 32 = .ok (.ifCond .eq 24, 3) := by decide +kernel
theorem dX5_appendText_35 : decode cX5_appendText 35 = .ok (.lload 4, 2) := by decide +kernel
theorem dX5_appendText_37 : decode cX5_appendText 37 = .ok (.ldc2_w 115, 3) := by decide +kernel
theorem dX5_appendText_40 : decode cX5_appendText 40 = .ok (.land, 1) := by decide +kernel
theorem dX5_appendText_41 : decode cX5_appendText 41 = .ok (.l2i, 1) := by decide +kernel
theorem dX5_appendText_42 : decode cX5_appendText 42 = .ok (.bipush 33, 2) := by decide +kernel
theorem dX5_appendText_44 : decode cX5_appendText 44 = .ok (.bipush 126, 2) := by decide +kernel
theorem dX5_appendText_46 : decode cX5_appendText 46 = .ok (.invokestatic 33, 3) := by decide +kernel
theorem dX5_appendText_49 : decode cX5_appendText 49 = .ok (.ifCond .eq 7, 3) := by decide +kernel
theorem dX5_appendText_52 : decode cX5_appendText 52 = .ok (.iconst 1, 1) := by decide +kernel
theorem dX5_appendText_53 : decode cX5_appendText 53 = .ok (.goto 4, 3) := by decide +kernel
theorem dX5_appendText_56 : decode cX5_appendText 56 = .ok (.iconst 0, 1) := by decide +kernel
theorem dX5_appendText_57 : decode cX5_appendText 57 = .ok (.istore 6, 2) := by decide +kernel
theorem dX5_appendText_59 : decode cX5_appendText 59 = .ok (.lload 4, 2) := by decide +kernel
theorem dX5_appendText_61 : decode cX5_appendText 61 = .ok (.bipush 8, 2) := by decide +kernel
theorem dX5_appendText_63 : decode cX5_appendText 63 = .ok (.lushr, 1) := by decide +kernel
theorem dX5_appendText_64 : decode cX5_appendText 64 = .ok (.lstore 4, 2) := by decide +kernel
theorem dX5_appendText_66 : decode cX5_appendText 66 = .ok (.iinc 3 1, 3) := by decide +kernel
theorem dX5_appendText_69 : decode cX5_appendText 69 = .ok (.goto (-56), 3) := by decide +kernel
theorem dX5_appendText_72 : decode cX5_appendText 72 = .ok (.iload_n 3, 1) := by decide +kernel
theorem dX5_appendText_73 : decode cX5_appendText 73 = .ok (.ifCond .eq 15, 3) := by decide +kernel
theorem dX5_appendText_76 : decode cX5_appendText 76 = .ok (.lload 4, 2) := by decide +kernel
theorem dX5_appendText_78 : decode cX5_appendText 78 = .ok (.lconst 0, 1) := by decide +kernel
theorem dX5_appendText_79 : decode cX5_appendText 79 = .ok (.lcmp, 1) := by decide +kernel
theorem dX5_appendText_80 : decode cX5_appendText 80 = .ok (.ifCond .ne 8, 3) := by decide +kernel
theorem dX5_appendText_83 : decode cX5_appendText 83 = .ok (.iload 6, 2) := by decide +kernel
theorem dX5_appendText_85 : decode cX5_appendText 85 = .ok (.ifCond .ne 9, 3) := by decide +kernel
theorem dX5_appendText_88 : decode cX5_appendText 88 = .ok (.aload_n 0, 1) := by decide +kernel
theorem dX5_appendText_89 : decode cX5_appendText 89 = .ok (.iconst 1, 1) := by decide +kernel
theorem dX5_appendText_90 : decode cX5_appendText 90 = .ok (.invokevirtual 40, 3) := by decide +kernel
theorem dX5_appendText_93 : decode cX5_appendText 93 = .ok (.ireturn, 1) := by decide +kernel
theorem dX5_appendText_94 : decode cX5_appendText 94 = .ok (.aload_n 0, 1) := by decide +kernel
theorem dX5_appendText_95 : decode cX5_appendText 95 = .ok (.getfield 117, 3) := by decide +kernel
theorem dX5_appendText_98 : decode cX5_appendText 98 = .ok (.iload_n 3, 1) := by decide +kernel
theorem dX5_appendText_99 : decode cX5_appendText 99 = .ok (.iadd, 1) := by decide +kernel
theorem dX5_appendText_100 : decode cX5_appendText 100 = .ok (.bipush 80, 2) := by decide +kernel
theorem dX5_appendText_102 : decode cX5_appendText 102 = .ok (.if_icmp .le 9, 3) := by decide +kernel
theorem dX5_appendText_105 : decode cX5_appendText 105 = .ok (.aload_n 0, 1) := by decide +kernel
theorem dX5_appendText_106 : decode cX5_appendText 106 = .ok (.iconst 2, 1) := by decide +kernel
theorem dX5_appendText_107 : decode cX5_appendText 107 = .ok (.invokevirtual 40, 3) := by decide +kernel
theorem dX5_appendText_110 : decode cX5_appendText 110 = .ok (.ireturn, 1) := by decide +kernel
theorem dX5_appendText_111 : decode cX5_appendText 111 = .ok (.iload_n 3, 1) := by decide +kernel
theorem dX5_appendText_112 : decode cX5_appendText 112 = .ok (.iconst 1, 1) := by decide +kernel
theorem dX5_appendText_113 : decode cX5_appendText 113 = .ok (.isub, 1) := by decide +kernel
theorem dX5_appendText_114 : decode cX5_appendText 114 = .ok (.istore 7, 2) := by decide +kernel
theorem dX5_appendText_116 : decode cX5_appendText 116 = .ok (.iload 7, 2) := by decide +kernel
theorem dX5_appendText_118 : decode cX5_appendText 118 = .ok (.ifCond .lt 40, 3) := by decide +kernel
theorem dX5_appendText_121 : decode cX5_appendText 121 = .ok (.aload_n 0, 1) := by decide +kernel
theorem dX5_appendText_122 : decode cX5_appendText 122 = .ok (.getfield 23, 3) := by decide +kernel
theorem dX5_appendText_125 : decode cX5_appendText 125 = .ok (.aload_n 0, 1) := by decide +kernel
theorem dX5_appendText_126 : decode cX5_appendText 126 = .ok (.getfield 117, 3) := by decide +kernel
theorem dX5_appendText_129 : decode cX5_appendText 129 = .ok (.lload_n 1, 1) := by decide +kernel
theorem dX5_appendText_130 : decode cX5_appendText 130 = .ok (.bipush 8, 2) := by decide +kernel
theorem dX5_appendText_132 : decode cX5_appendText 132 = .ok (.iload 7, 2) := by decide +kernel
theorem dX5_appendText_134 : decode cX5_appendText 134 = .ok (.imul, 1) := by decide +kernel
theorem dX5_appendText_135 : decode cX5_appendText 135 = .ok (.lushr, 1) := by decide +kernel
theorem dX5_appendText_136 : decode cX5_appendText 136 = .ok (.ldc2_w 115, 3) := by decide +kernel
theorem dX5_appendText_139 : decode cX5_appendText 139 = .ok (.land, 1) := by decide +kernel
theorem dX5_appendText_140 : decode cX5_appendText 140 = .ok (.l2i, 1) := by decide +kernel
theorem dX5_appendText_141 : decode cX5_appendText 141 = .ok (.iastore, 1) := by decide +kernel
theorem dX5_appendText_142 : decode cX5_appendText 142 = .ok (.aload_n 0, 1) := by decide +kernel
theorem dX5_appendText_143 : decode cX5_appendText 143 = .ok (.dup, 1) := by decide +kernel
theorem dX5_appendText_144 : decode cX5_appendText 144 = .ok (.getfield 117, 3) := by decide +kernel
theorem dX5_appendText_147 : decode cX5_appendText 147 = .ok (.iconst 1, 1) := by decide +kernel
theorem dX5_appendText_148 : decode cX5_appendText 148 = .ok (.iadd, 1) := by decide +kernel
theorem dX5_appendText_149 : decode cX5_appendText 149 = .ok (.putfield 117, 3) := by decide +kernel
theorem dX5_appendText_152 : decode cX5_appendText 152 = .ok (.iinc 7 (-1), 3) := by decide +kernel
theorem dX5_appendText_155 : decode cX5_appendText 155 = .ok (.goto (-39), 3) := by decide +kernel
theorem dX5_appendText_158 : decode cX5_appendText 158 = .ok (.aload_n 0, 1) := by decide +kernel
theorem dX5_appendText_159 : decode cX5_appendText 159 = .ok (.getfield 117, 3) := by decide +kernel
theorem dX5_appendText_162 : decode cX5_appendText 162 = .ok (.ireturn, 1) := by decide +kernel
theorem dX5_clearText_0 : decode cX5_clearText 0 = .ok (.aload_n 0, 1) := by decide +kernel
theorem dX5_clearText_1 : decode cX5_clearText 1 = .ok (.iconst 0, 1) := by decide +kernel
theorem dX5_clearText_2 : decode cX5_clearText 2 = .ok (.putfield 29, 3) := by decide +kernel
theorem dX5_clearText_5 : decode cX5_clearText 5 = .ok (.aload_n 0, 1) := by decide +kernel
theorem dX5_clearText_6 : decode cX5_clearText 6 = .ok (.getfield 117, 3) := by decide +kernel
theorem dX5_clearText_9 : decode cX5_clearText 9 = .ok (.istore_n 1, 1) := by decide +kernel
theorem dX5_clearText_10 : decode cX5_clearText 10 = .ok (.aload_n 0, 1) := by decide +kernel
theorem dX5_clearText_11 : decode cX5_clearText 11 = .ok (.iconst 0, 1) := by decide +kernel
theorem dX5_clearText_12 : decode cX5_clearText 12 = .ok (.putfield 117, 3) := by decide +kernel
theorem dX5_clearText_15 : decode cX5_clearText 15 = .ok (.iload_n 1, 1) := by decide +kernel
theorem dX5_clearText_16 : decode cX5_clearText 16 = .ok (.ireturn, 1) := by decide +kernel
theorem dX5_textLength_0 : decode cX5_textLength 0 = .ok (.aload_n 0, 1) := by decide +kernel
theorem dX5_textLength_1 : decode cX5_textLength 1 = .ok (.iconst 0, 1) := by decide +kernel
theorem dX5_textLength_2 : decode cX5_textLength 2 = .ok (.putfield 29, 3) := by decide +kernel
theorem dX5_textLength_5 : decode cX5_textLength 5 = .ok (.aload_n 0, 1) := by decide +kernel
theorem dX5_textLength_6 : decode cX5_textLength 6 = .ok (.getfield 117, 3) := by decide +kernel
theorem dX5_textLength_9 : decode cX5_textLength 9 = .ok (.ireturn, 1) := by decide +kernel
set_option maxRecDepth 20000 in
theorem ggX5_takes_X5_in : GoodIn wsX5_takes wsX5_in := goodIn_r _ [7] (by decide +kernel) (by decide +kernel)
set_option maxRecDepth 20000 in
theorem gX5_takes_X5_in : GoodIn wsX5_takes (va_wsS RX5 33 yX5_in wsX5_in) := goodIn_app (goodIn_of _ (by decide +kernel)) ggX5_takes_X5_in
theorem dX5_takes_0 : decode cX5_takes 0 = .ok (.aload_n 0, 1) := by decide +kernel
theorem dX5_takes_1 : decode cX5_takes 1 = .ok (.getfield 120, 3) := by decide +kernel
theorem dX5_takes_4 : decode cX5_takes 4 = .ok (.aload_n 0, 1) := by decide +kernel
theorem dX5_takes_5 : decode cX5_takes 5 = .ok (.getfield 117, 3) := by decide +kernel
theorem dX5_takes_8 : decode cX5_takes 8 = .ok (.if_icmp .ge 24, 3) := by decide +kernel
theorem dX5_takes_11 : decode cX5_takes 11 = .ok (.aload_n 0, 1) := by decide +kernel
theorem dX5_takes_12 : decode cX5_takes 12 = .ok (.getfield 23, 3) := by decide +kernel
theorem dX5_takes_15 : decode cX5_takes 15 = .ok (.aload_n 0, 1) := by decide +kernel
theorem dX5_takes_16 : decode cX5_takes 16 = .ok (.getfield 120, 3) := by decide +kernel
theorem dX5_takes_19 : decode cX5_takes 19 = .ok (.iaload, 1) := by decide +kernel
theorem dX5_takes_20 : decode cX5_takes 20 = .ok (.iload_n 1, 1) := by decide +kernel
theorem dX5_takes_21 : decode cX5_takes 21 = .ok (.iload_n 2, 1) := by decide +kernel
theorem dX5_takes_22 : decode cX5_takes 22 = .ok (.invokestatic 33, 3) := by decide +kernel
theorem dX5_takes_25 : decode cX5_takes 25 = .ok (.ifCond .eq 7, 3) := by decide +kernel
theorem dX5_takes_28 : decode cX5_takes 28 = .ok (.iconst 1, 1) := by decide +kernel
theorem dX5_takes_29 : decode cX5_takes 29 = .ok (.goto 4, 3) := by decide +kernel
theorem dX5_takes_32 : decode cX5_takes 32 = .ok (.iconst 0, 1) := by decide +kernel
theorem dX5_takes_33 : decode cX5_takes 33 = .ok (.istore_n 3, 1) := by decide +kernel
theorem dX5_takes_34 : decode cX5_takes 34 = .ok (.aload_n 0, 1) := by decide +kernel
theorem dX5_takes_35 : decode cX5_takes 35 = .ok (.dup, 1) := by decide +kernel
theorem dX5_takes_36 : decode cX5_takes 36 = .ok (.getfield 120, 3) := by decide +kernel
theorem dX5_takes_39 : decode cX5_takes 39 = .ok (.iload_n 3, 1) := by decide +kernel
theorem dX5_takes_40 : decode cX5_takes 40 = .ok (.ifCond .eq 7, 3) := by decide +kernel
theorem dX5_takes_43 : decode cX5_takes 43 = .ok (.iconst 1, 1) := by decide +kernel
theorem dX5_takes_44 : decode cX5_takes 44 = .ok (.goto 4, 3) := by decide +kernel
theorem dX5_takes_47 : decode cX5_takes 47 = .ok (.iconst 0, 1) := by decide +kernel
theorem dX5_takes_48 : decode cX5_takes 48 = .ok (.iadd, 1) := by decide +kernel
theorem dX5_takes_49 : decode cX5_takes 49 = .ok (.putfield 120, 3) := by decide +kernel
theorem dX5_takes_52 : decode cX5_takes 52 = .ok (.iload_n 3, 1) := by decide +kernel
theorem dX5_takes_53 : decode cX5_takes 53 = .ok (.ireturn, 1) := by decide +kernel
set_option maxRecDepth 20000 in
theorem ggX5_readsNumber_X5_takes : GoodIn wsX5_readsNumber wsX5_takes := goodIn_r _ [8, 1, 9, 3, 10, 11, 7, 12, 13, 14, 15, 16, 17, 18, 19, 20, 21, 22] (by decide +kernel) (by decide +kernel)
set_option maxRecDepth 20000 in
theorem gX5_readsNumber_X5_takes : GoodIn wsX5_readsNumber (wsV RX5 123 RX5 yX5_takes wsX5_takes) := goodIn_app (goodIn_of _ (by decide +kernel)) ggX5_readsNumber_X5_takes
theorem dX5_readsNumber_0 : decode cX5_readsNumber 0 = .ok (.aload_n 0, 1) := by decide +kernel
theorem dX5_readsNumber_1 : decode cX5_readsNumber 1 = .ok (.getfield 120, 3) := by decide +kernel
theorem dX5_readsNumber_4 : decode cX5_readsNumber 4 = .ok (.iload_n 2, 1) := by decide +kernel
theorem dX5_readsNumber_5 : decode cX5_readsNumber 5 = .ok (.iadd, 1) := by decide +kernel
theorem dX5_readsNumber_6 : decode cX5_readsNumber 6 = .ok (.istore_n 3, 1) := by decide +kernel
theorem dX5_readsNumber_7 : decode cX5_readsNumber 7 = .ok (.aload_n 0, 1) := by decide +kernel
theorem dX5_readsNumber_8 : decode cX5_readsNumber 8 = .ok (.getfield 26, 3) := by decide +kernel
theorem dX5_readsNumber_11 : decode cX5_readsNumber 11 = .ok (.iload_n 1, 1) := by decide +kernel
theorem dX5_readsNumber_12 : decode cX5_readsNumber 12 = .ok (.iconst 0, 1) := by decide +kernel
theorem dX5_readsNumber_13 : decode cX5_readsNumber 13 = .ok (.iastore, 1) := by decide +kernel
theorem dX5_readsNumber_14 : decode cX5_readsNumber 14 = .ok (.aload_n 0, 1) := by decide +kernel
theorem dX5_readsNumber_15 : decode cX5_readsNumber 15 = .ok (.getfield 120, 3) := by decide +kernel
theorem dX5_readsNumber_18 : decode cX5_readsNumber 18 = .ok (.iload_n 3, 1) := by decide +kernel
theorem dX5_readsNumber_19 : decode cX5_readsNumber 19 = .ok (.if_icmp .ge 61, 3) := by decide +kernel
theorem dX5_readsNumber_22 : decode cX5_readsNumber 22 = .ok (.aload_n 0, 1) := by decide +kernel
theorem dX5_readsNumber_23 : decode cX5_readsNumber 23 = .ok (.aload_n 0, 1) := by decide +kernel
theorem dX5_readsNumber_24 : decode cX5_readsNumber 24 = .ok (.getfield 26, 3) := by decide +kernel
theorem dX5_readsNumber_27 : decode cX5_readsNumber 27 = .ok (.iload_n 1, 1) := by decide +kernel
theorem dX5_readsNumber_28 : decode cX5_readsNumber 28 = .ok (.iaload, 1) := by decide +kernel
theorem dX5_readsNumber_29 : decode cX5_readsNumber 29 = .ok (.ifCond .ne 8, 3) := by decide +kernel
theorem dX5_readsNumber_32 : decode cX5_readsNumber 32 = .ok (.bipush 49, 2) := by decide +kernel
theorem dX5_readsNumber_34 : decode cX5_readsNumber 34 = .ok (.goto 5, 3) := by decide +kernel
theorem dX5_readsNumber_37 : decode cX5_readsNumber 37 = .ok (.bipush 48, 2) := by decide +kernel
theorem dX5_readsNumber_39 : decode cX5_readsNumber 39 = .ok (.bipush 57, 2) := by decide +kernel
theorem dX5_readsNumber_41 : decode cX5_readsNumber 41 = .ok (.invokevirtual 123, 3) := by decide +kernel
theorem dX5_readsNumber_44 : decode cX5_readsNumber 44 = .ok (.ifCond .eq 36, 3) := by decide +kernel
theorem dX5_readsNumber_47 : decode cX5_readsNumber 47 = .ok (.aload_n 0, 1) := by decide +kernel
theorem dX5_readsNumber_48 : decode cX5_readsNumber 48 = .ok (.getfield 26, 3) := by decide +kernel
theorem dX5_readsNumber_51 : decode cX5_readsNumber 51 = .ok (.iload_n 1, 1) := by decide +kernel
theorem dX5_readsNumber_52 : decode cX5_readsNumber 52 = .ok (.bipush 10, 2) := by decide +kernel
theorem dX5_readsNumber_54 : decode cX5_readsNumber 54 = .ok (.aload_n 0, 1) := by decide +kernel
theorem dX5_readsNumber_55 : decode cX5_readsNumber 55 = .ok (.getfield 26, 3) := by decide +kernel
theorem dX5_readsNumber_58 : decode cX5_readsNumber 58 = .ok (.iload_n 1, 1) := by decide +kernel
theorem dX5_readsNumber_59 : decode cX5_readsNumber 59 = .ok (.iaload, 1) := by decide +kernel
theorem dX5_readsNumber_60 : decode cX5_readsNumber 60 = .ok (.imul, 1) := by decide +kernel
theorem dX5_readsNumber_61 : decode cX5_readsNumber 61 = .ok (.aload_n 0, 1) := by decide +kernel
theorem dX5_readsNumber_62 : decode cX5_readsNumber 62 = .ok (.getfield 23, 3) := by decide +kernel
theorem dX5_readsNumber_65 : decode cX5_readsNumber 65 = .ok (.aload_n 0, 1) := by decide +kernel
theorem dX5_readsNumber_66 : decode cX5_readsNumber 66 = .ok (.getfield 120, 3) := by decide +kernel
theorem dX5_readsNumber_69 : decode cX5_readsNumber 69 = .ok (.iconst 1, 1) := by decide +kernel
theorem dX5_readsNumber_70 : decode cX5_readsNumber 70 = .ok (.isub, 1) := by decide +kernel
theorem dX5_readsNumber_71 : decode cX5_readsNumber 71 = .ok (.iaload, 1) := by decide +kernel
theorem dX5_readsNumber_72 : decode cX5_readsNumber 72 = .ok (.iadd, 1) := by decide +kernel
theorem dX5_readsNumber_73 : decode cX5_readsNumber 73 = .ok (.bipush 48, 2) := by decide +kernel
theorem dX5_readsNumber_75 : decode cX5_readsNumber 75 = .ok (.isub, 1) := by decide +kernel
theorem dX5_readsNumber_76 : decode cX5_readsNumber 76 = .ok (.iastore, 1) := by decide +kernel
theorem dX5_readsNumber_77 : decode cX5_readsNumber 77 = .ok (.goto (-63), 3) := by decide +kernel
theorem dX5_readsNumber_80 : decode cX5_readsNumber 80 = .ok (.aload_n 0, 1) := by decide +kernel
theorem dX5_readsNumber_81 : decode cX5_readsNumber 81 = .ok (.getfield 26, 3) := by decide +kernel
theorem dX5_readsNumber_84 : decode cX5_readsNumber 84 = .ok (.iload_n 1, 1) := by decide +kernel
theorem dX5_readsNumber_85 : decode cX5_readsNumber 85 = .ok (.iaload, 1) := by decide +kernel
theorem dX5_readsNumber_86 : decode cX5_readsNumber 86 = .ok (.ifCond .le 7, 3) := by decide +kernel
theorem dX5_readsNumber_89 : decode cX5_readsNumber 89 = .ok (.iconst 1, 1) := by decide +kernel
theorem dX5_readsNumber_90 : decode cX5_readsNumber 90 = .ok (.goto 4, 3) := by decide +kernel
theorem dX5_readsNumber_93 : decode cX5_readsNumber 93 = .ok (.iconst 0, 1) := by decide +kernel
theorem dX5_readsNumber_94 : decode cX5_readsNumber 94 = .ok (.ireturn, 1) := by decide +kernel
set_option maxRecDepth 20000 in
theorem ggX5_isDate_X5_takes : GoodIn wsX5_isDate wsX5_takes := goodIn_r _ [9, 1, 4, 3, 10, 11, 8, 12, 17, 18, 19, 20, 21, 22, 23, 24, 25, 26] (by decide +kernel) (by decide +kernel)
set_option maxRecDepth 20000 in
theorem gX5_isDate_X5_takes : GoodIn wsX5_isDate (wsV RX5 123 RX5 yX5_takes wsX5_takes) := goodIn_app (goodIn_of _ (by decide +kernel)) ggX5_isDate_X5_takes
set_option maxRecDepth 20000 in
theorem ggX5_isDate_X5_readsNumber : GoodIn wsX5_isDate wsX5_readsNumber := goodIn_r _ [16, 1, 2, 3, 5, 6, 7, 8, 9, 4, 10, 11, 12, 17, 18, 19, 20, 21, 22, 23, 24, 25, 26] (by decide +kernel) (by decide +kernel)
set_option maxRecDepth 20000 in
theorem gX5_isDate_X5_readsNumber : GoodIn wsX5_isDate (wsV RX5 126 RX5 yX5_readsNumber wsX5_readsNumber) := goodIn_app (goodIn_of _ (by decide +kernel)) ggX5_isDate_X5_readsNumber
theorem dX5_isDate_0 : decode cX5_isDate 0 = .ok (.aload_n 0, 1) := by decide +kernel
theorem dX5_isDate_1 : decode cX5_isDate 1 = .ok (.iconst 0, 1) := by decide +kernel
theorem dX5_isDate_2 : decode cX5_isDate 2 = .ok (.putfield 120, 3) := by decide +kernel
theorem dX5_isDate_5 : decode cX5_isDate 5 = .ok (.aload_n 0, 1) := by decide +kernel
theorem dX5_isDate_6 : decode cX5_isDate 6 = .ok (.bipush 65, 2) := by decide +kernel
theorem dX5_isDate_8 : decode cX5_isDate 8 = .ok (.bipush 66, 2) := by decide +kernel
theorem dX5_isDate_10 : decode cX5_isDate 10 = .ok (.invokevirtual 123, 3) := by decide +kernel
theorem dX5_isDate_13 : decode cX5_isDate 13 = .ok (.ifCond .ne 5, 3) := by decide +kernel
theorem dX5_isDate_16 : decode cX5_isDate 16 = .ok (.iconst 0, 1) := by decide +kernel
theorem dX5_isDate_17 : decode cX5_isDate 17 = .ok (.ireturn, 1) := by decide +kernel
theorem dX5_isDate_18 : decode cX5_isDate 18 = .ok (.aload_n 0, 1) := by decide +kernel
theorem dX5_isDate_19 : decode cX5_isDate 19 = .ok (.getfield 26, 3) := by decide +kernel
theorem dX5_isDate_22 : decode cX5_isDate 22 = .ok (.iconst 0, 1) := by decide +kernel
theorem dX5_isDate_23 : decode cX5_isDate 23 = .ok (.aload_n 0, 1) := by decide +kernel
theorem dX5_isDate_24 : decode cX5_isDate 24 = .ok (.getfield 23, 3) := by decide +kernel
theorem dX5_isDate_27 : decode cX5_isDate 27 = .ok (.iconst 0, 1) := by decide +kernel
theorem dX5_isDate_28 : decode cX5_isDate 28 = .ok (.iaload, 1) := by decide +kernel
theorem dX5_isDate_29 : decode cX5_isDate 29 = .ok (.bipush 65, 2) := by decide +kernel
theorem dX5_isDate_31 : decode cX5_isDate 31 = .ok (.isub, 1) := by decide +kernel
theorem dX5_isDate_32 : decode cX5_isDate 32 = .ok (.iastore, 1) := by decide +kernel
theorem dX5_isDate_33 : decode cX5_isDate 33 = .ok (.aload_n 0, 1) := by decide +kernel
theorem dX5_isDate_34 : decode cX5_isDate 34 = .ok (.iconst 1, 1) := by decide +kernel
theorem dX5_isDate_35 : decode cX5_isDate 35 = .ok (.iconst 2, 1) := by decide +kernel
theorem dX5_isDate_36 : decode cX5_isDate 36 = .ok (.invokevirtual 126, 3) := by decide +kernel
theorem dX5_isDate_39 : decode cX5_isDate 39 = .ok (.ifCond .eq 58, 3) := by decide +kernel
theorem dX5_isDate_42 : decode cX5_isDate 42 = .ok (.aload_n 0, 1) := by decide +kernel
theorem dX5_isDate_43 : decode cX5_isDate 43 = .ok (.bipush 46, 2) := by decide +kernel
theorem dX5_isDate_45 : decode cX5_isDate 45 = .ok (.bipush 46, 2) := by decide +kernel
theorem dX5_isDate_47 : decode cX5_isDate 47 = .ok (.invokevirtual 123, 3) := by decide +kernel
theorem dX5_isDate_50 : decode cX5_isDate 50 = .ok (.ifCond .eq 47, 3) := by decide +kernel
theorem dX5_isDate_53 : decode cX5_isDate 53 = .ok (.aload_n 0, 1) := by decide +kernel
theorem dX5_isDate_54 : decode cX5_isDate 54 = .ok (.iconst 2, 1) := by decide +kernel
theorem dX5_isDate_55 : decode cX5_isDate 55 = .ok (.iconst 2, 1) := by decide +kernel
theorem dX5_isDate_56 : decode cX5_isDate 56 = .ok (.invokevirtual 126, 3) := by decide +kernel
theorem dX5_isDate_59 : decode cX5_isDate 59 = .ok (.ifCond .eq 38, 3) := by decide +kernel
theorem dX5_isDate_62 : decode cX5_isDate 62 = .ok (.aload_n 0, 1) := by decide +kernel
theorem dX5_isDate_63 : decode cX5_isDate 63 = .ok (.bipush 46, 2) := by decide +kernel
theorem dX5_isDate_65 : decode cX5_isDate 65 = .ok (.bipush 46, 2) := by decide +kernel
theorem dX5_isDate_67 : decode cX5_isDate 67 = .ok (.invokevirtual 123, 3) := by decide +kernel
theorem dX5_isDate_70 : decode cX5_isDate 70 = .ok (.ifCond .eq 27, 3) := by decide +kernel
theorem dX5_isDate_73 : decode cX5_isDate 73 = .ok (.aload_n 0, 1) := by decide +kernel
theorem dX5_isDate_74 : decode cX5_isDate 74 = .ok (.iconst 3, 1) := by decide +kernel
theorem dX5_isDate_75 : decode cX5_isDate 75 = .ok (.iconst 3, 1) := by decide +kernel
theorem dX5_isDate_76 : decode cX5_isDate 76 = .ok (.invokevirtual 126, 3) := by decide +kernel
theorem dX5_isDate_79 : decode cX5_isDate 79 = .ok (.ifCond .eq 18, 3) := by decide +kernel
theorem dX5_isDate_82 : decode cX5_isDate 82 = .ok (.aload_n 0, 1) := by decide +kernel
theorem dX5_isDate_83 : decode cX5_isDate 83 = .ok (.getfield 120, 3) := by decide +kernel
theorem dX5_isDate_86 : decode cX5_isDate 86 = .ok (.aload_n 0, 1) := by decide +kernel
theorem dX5_isDate_87 : decode cX5_isDate 87 = .ok (.getfield 117, 3) := by decide +kernel
theorem dX5_isDate_90 : decode cX5_isDate 90 = .ok (.if_icmp .ne 7, 3) := by decide +kernel
theorem dX5_isDate_93 : decode cX5_isDate 93 = .ok (.iconst 1, 1) := by decide +kernel
theorem dX5_isDate_94 : decode cX5_isDate 94 = .ok (.goto 4, 3) := by decide +kernel
theorem dX5_isDate_97 : decode cX5_isDate 97 = .ok (.iconst 0, 1) := by decide +kernel
theorem dX5_isDate_98 : decode cX5_isDate 98 = .ok (.ireturn, 1) := by decide +kernel
set_option maxRecDepth 20000 in
theorem ggX5_textError_X5_isDate : GoodIn wsX5_textError wsX5_isDate := goodIn_r _ [7, 2, 8, 9, 10, 11, 12, 13, 6, 14, 15, 16, 17, 18, 19, 20, 21, 22, 23, 24, 25, 26, 27, 28, 29, 30, 31] (by decide +kernel) (by decide +kernel)
set_option maxRecDepth 20000 in
theorem gX5_textError_X5_isDate : GoodIn wsX5_textError (wsV RX5 129 RX5 yX5_isDate wsX5_isDate) := goodIn_app (goodIn_of _ (by decide +kernel)) ggX5_textError_X5_isDate
theorem dX5_textError_0 : decode cX5_textError 0 = .ok (.aload_n 0, 1) := by decide +kernel
theorem dX5_textError_1 : decode cX5_textError 1 = .ok (.iconst 0, 1) := by decide +kernel
theorem dX5_textError_2 : decode cX5_textError 2 = .ok (.putfield 29, 3) := by decide +kernel
theorem dX5_textError_5 : decode cX5_textError 5 = .ok (.aload_n 0, 1) := by decide +kernel
theorem dX5_textError_6 : decode cX5_textError 6 = .ok (.invokevirtual 129, 3) := by decide +kernel
theorem dX5_textError_9 : decode cX5_textError 9 = .ok (.ifCond .eq 7, 3) := by decide +kernel
theorem dX5_textError_12 : decode cX5_textError 12 = .ok (.iconst (-1), 1) := by decide +kernel
theorem dX5_textError_13 : decode cX5_textError 13 = .ok (.goto 7, 3) := by decide +kernel
theorem dX5_textError_16 : decode cX5_textError 16 = .ok (.aload_n 0, 1) := by decide +kernel
theorem dX5_textError_17 : decode cX5_textError 17 = .ok (.getfield 120, 3) := by decide +kernel
theorem dX5_textError_20 : decode cX5_textError 20 = .ok (.ireturn, 1) := by decide +kernel
set_option maxRecDepth 20000 in
theorem ggX5_textCharacter_X5_in : GoodIn wsX5_textCharacter wsX5_in := goodIn_r _ [7] (by decide +kernel) (by decide +kernel)
set_option maxRecDepth 20000 in
theorem gX5_textCharacter_X5_in : GoodIn wsX5_textCharacter (va_wsS RX5 33 yX5_in wsX5_in) := goodIn_app (goodIn_of _ (by decide +kernel)) ggX5_textCharacter_X5_in
set_option maxRecDepth 20000 in
theorem ggX5_textCharacter_X5_fails : GoodIn wsX5_textCharacter wsX5_fails := goodIn_r _ [11, 1, 12, 13, 14, 15, 16, 17, 18, 19, 20, 21] (by decide +kernel) (by decide +kernel)
set_option maxRecDepth 20000 in
theorem gX5_textCharacter_X5_fails : GoodIn wsX5_textCharacter (wsV RX5 40 RX5 yX5_fails wsX5_fails) := goodIn_app (goodIn_of _ (by decide +kernel)) ggX5_textCharacter_X5_fails
theorem dX5_textCharacter_0 : decode cX5_textCharacter 0 = .ok (.aload_n 0, 1) := by decide +kernel
theorem dX5_textCharacter_1 : decode cX5_textCharacter 1 = .ok (.iconst 0, 1) := by decide +kernel
theorem dX5_textCharacter_2 : decode cX5_textCharacter 2 = .ok (.putfield 29, 3) := by decide +kernel
theorem dX5_textCharacter_5 : decode cX5_textCharacter 5 = .ok (.iload_n 1, 1) := by decide +kernel
theorem dX5_textCharacter_6 : decode cX5_textCharacter 6 = .ok (.iconst 0, 1) := by decide +kernel
theorem dX5_textCharacter_7 : decode cX5_textCharacter 7 = .ok (.aload_n 0, 1) := by decide +kernel
theorem dX5_textCharacter_8 : decode cX5_textCharacter 8 = .ok (.getfield 117, 3) := by decide +kernel
theorem dX5_textCharacter_11 : decode cX5_textCharacter 11 = .ok (.iconst 1, 1) := by decide +kernel
theorem dX5_textCharacter_12 : decode cX5_textCharacter 12 = .ok (.isub, 1) := by decide +kernel
theorem dX5_textCharacter_13 : decode cX5_textCharacter 13 = .ok (.invokestatic 33, 3) := by decide +kernel
theorem dX5_textCharacter_16 : decode cX5_textCharacter 16 = .ok (.ifCond .eq 12, 3) := by decide +kernel
theorem dX5_textCharacter_19 : decode cX5_textCharacter 19 = .ok (.aload_n 0, 1) := by decide +kernel
theorem dX5_textCharacter_20 : decode cX5_textCharacter 20 = .ok (.getfield 23, 3) := by decide +kernel
theorem dX5_textCharacter_23 : decode cX5_textCharacter 23 = .ok (.iload_n 1, 1) := by decide +kernel
theorem dX5_textCharacter_24 : decode cX5_textCharacter 24 = .ok (.iaload, 1) := by decide +kernel
theorem dX5_textCharacter_25 : decode cX5_textCharacter 25 = .ok (.goto 8, 3) := by decide +kernel
theorem dX5_textCharacter_28 : decode cX5_textCharacter 28 = .ok (.aload_n 0, 1) := by decide +kernel
theorem dX5_textCharacter_29 : decode cX5_textCharacter 29 = .ok (.iconst 1, 1) := by decide +kernel
theorem dX5_textCharacter_30 : decode cX5_textCharacter 30 = .ok (.invokevirtual 40, 3) := by decide +kernel
theorem dX5_textCharacter_33 : decode cX5_textCharacter 33 = .ok (.ireturn, 1) := by decide +kernel
set_option maxRecDepth 20000 in
theorem ggX5_dayOfText_X5_isDate : GoodIn wsX5_dayOfText wsX5_isDate := goodIn_r _ [7, 8, 2, 9, 10, 11, 12, 13, 6, 14, 15, 16, 17, 18, 19, 20, 21, 56, 57, 58, 59, 60, 61, 62, 63, 64, 65] (by decide +kernel) (by decide +kernel)
set_option maxRecDepth 20000 in
theorem gX5_dayOfText_X5_isDate : GoodIn wsX5_dayOfText (wsV RX5 129 RX5 yX5_isDate wsX5_isDate) := goodIn_app (goodIn_of _ (by decide +kernel)) ggX5_dayOfText_X5_isDate
set_option maxRecDepth 20000 in
theorem ggX5_dayOfText_X5_dayWith : GoodIn wsX5_dayOfText wsX5_dayWith := goodIn_r _ [25, 15, 16, 6, 17, 26, 27, 28, 29, 30, 31, 32, 33, 34, 35, 36, 37, 38, 39, 40, 41, 42, 43, 44, 45, 46, 47, 48, 49, 50, 51, 56, 57, 58, 59, 60, 61, 62, 63, 64, 65] (by decide +kernel) (by decide +kernel)
set_option maxRecDepth 20000 in
theorem gX5_dayOfText_X5_dayWith : GoodIn wsX5_dayOfText (wsV RX5 83 RX5 yX5_dayWith wsX5_dayWith) := goodIn_app (goodIn_of _ (by decide +kernel)) ggX5_dayOfText_X5_dayWith
set_option maxRecDepth 20000 in
theorem ggX5_dayOfText_X5_fails : GoodIn wsX5_dayOfText wsX5_fails := goodIn_r _ [55, 1, 56, 57, 58, 59, 60, 61, 62, 63, 64, 65] (by decide +kernel) (by decide +kernel)
set_option maxRecDepth 20000 in
theorem gX5_dayOfText_X5_fails : GoodIn wsX5_dayOfText (wsV RX5 40 RX5 yX5_fails wsX5_fails) := goodIn_app (goodIn_of _ (by decide +kernel)) ggX5_dayOfText_X5_fails
theorem dX5_dayOfText_0 : decode cX5_dayOfText 0 = .ok (.aload_n 0, 1) := by decide +kernel
theorem dX5_dayOfText_1 : decode cX5_dayOfText 1 = .ok (.iconst 0, 1) := by decide +kernel
theorem dX5_dayOfText_2 : decode cX5_dayOfText 2 = .ok (.putfield 29, 3) := by decide +kernel
theorem dX5_dayOfText_5 : decode cX5_dayOfText 5 = .ok (.aload_n 0, 1) := by decide +kernel
theorem dX5_dayOfText_6 : decode cX5_dayOfText 6 = .ok (.invokevirtual 129, 3) := by decide +kernel
theorem dX5_dayOfText_9 : decode cX5_dayOfText 9 = .ok (.ifCond .eq 34, 3) := by decide +kernel
theorem dX5_dayOfText_12 : decode cX5_dayOfText 12 = .ok (.aload_n 0, 1) := by decide +kernel
theorem dX5_dayOfText_13 : decode cX5_dayOfText 13 = .ok (.aload_n 0, 1) := by decide +kernel
theorem dX5_dayOfText_14 : decode cX5_dayOfText 14 = .ok (.getfield 26, 3) := by decide +kernel
theorem dX5_dayOfText_17 : decode cX5_dayOfText 17 = .ok (.iconst 0, 1) := by decide +kernel
theorem dX5_dayOfText_18 : decode cX5_dayOfText 18 = .ok (.iaload, 1) := by decide +kernel
theorem dX5_dayOfText_19 : decode cX5_dayOfText 19 = .ok (.aload_n 0, 1) := by decide +kernel
theorem dX5_dayOfText_20 : decode cX5_dayOfText 20 = .ok (.getfield 26, 3) := by decide +kernel
theorem dX5_dayOfText_23 : decode cX5_dayOfText 23 = .ok (.iconst 3, 1) := by decide +kernel
theorem dX5_dayOfText_24 : decode cX5_dayOfText 24 = .ok (.iaload, 1) := by decide +kernel
theorem dX5_dayOfText_25 : decode cX5_dayOfText 25 = .ok (.aload_n 0, 1) := by decide +kernel
theorem dX5_dayOfText_26 : decode cX5_dayOfText 26 = .ok (.getfield 26, 3) := by decide +kernel
theorem dX5_dayOfText_29 : decode cX5_dayOfText 29 = .ok (.iconst 2, 1) := by decide +kernel
theorem dX5_dayOfText_30 : decode cX5_dayOfText 30 = .ok (.iaload, 1) := by decide +kernel
theorem dX5_dayOfText_31 : decode cX5_dayOfText 31 = .ok (.aload_n 0, 1) := by decide +kernel
theorem dX5_dayOfText_32 : decode cX5_dayOfText 32 = .ok (.getfield 26, 3) := by decide +kernel
theorem dX5_dayOfText_35 : decode cX5_dayOfText 35 = .ok (.iconst 1, 1) := by decide +kernel
theorem dX5_dayOfText_36 : decode cX5_dayOfText 36 = .ok (.iaload, 1) := by decide +kernel
theorem dX5_dayOfText_37 : decode cX5_dayOfText 37 = .ok (.invokevirtual 83, 3) := by decide +kernel
theorem dX5_dayOfText_40 : decode cX5_dayOfText 40 = .ok (.goto 8, 3) := by decide +kernel
theorem dX5_dayOfText_43 : decode cX5_dayOfText 43 = .ok (.aload_n 0, 1) := by decide +kernel
theorem dX5_dayOfText_44 : decode cX5_dayOfText 44 = .ok (.iconst 1, 1) := by decide +kernel
theorem dX5_dayOfText_45 : decode cX5_dayOfText 45 = .ok (.invokevirtual 40, 3) := by decide +kernel
theorem dX5_dayOfText_48 : decode cX5_dayOfText 48 = .ok (.ireturn, 1) := by decide +kernel
theorem dX5_write_0 : decode cX5_write 0 = .ok (.aload_n 0, 1) := by decide +kernel
theorem dX5_write_1 : decode cX5_write 1 = .ok (.getfield 23, 3) := by decide +kernel
theorem dX5_write_4 : decode cX5_write 4 = .ok (.aload_n 0, 1) := by decide +kernel
theorem dX5_write_5 : decode cX5_write 5 = .ok (.getfield 117, 3) := by decide +kernel
theorem dX5_write_8 : decode cX5_write 8 = .ok (.iload_n 1, 1) := by decide +kernel
theorem dX5_write_9 : decode cX5_write 9 = .ok (.iastore, 1) := by decide +kernel
theorem dX5_write_10 : decode cX5_write 10 = .ok (.aload_n 0, 1) := by decide +kernel
theorem dX5_write_11 : decode cX5_write 11 = .ok (.dup, 1) := by decide +kernel
theorem dX5_write_12 : decode cX5_write 12 = .ok (.getfield 117, 3) := by decide +kernel
theorem dX5_write_15 : decode cX5_write 15 = .ok (.iconst 1, 1) := by decide +kernel
theorem dX5_write_16 : decode cX5_write 16 = .ok (.iadd, 1) := by decide +kernel
theorem dX5_write_17 : decode cX5_write 17 = .ok (.putfield 117, 3) := by decide +kernel
theorem dX5_write_20 : decode cX5_write 20 = .ok (.return_, 1) := by decide +kernel
set_option maxRecDepth 20000 in
theorem ggX5_writeNumber_X5_write : GoodIn wsX5_writeNumber wsX5_write := goodIn_r _ [5, 6, 7, 8, 9, 10, 11, 12, 13, 14, 15, 16, 17] (by decide +kernel) (by decide +kernel)
set_option maxRecDepth 20000 in
theorem gX5_writeNumber_X5_write : GoodIn wsX5_writeNumber (wsV RX5 133 RX5 yX5_write wsX5_write) := goodIn_app (goodIn_of _ (by decide +kernel)) ggX5_writeNumber_X5_write
theorem dX5_writeNumber_0 : decode cX5_writeNumber 0 = .ok (.iload_n 1, 1) := by decide +kernel
theorem dX5_writeNumber_1 : decode cX5_writeNumber 1 = .ok (.bipush 99, 2) := by decide +kernel
theorem dX5_writeNumber_3 : decode cX5_writeNumber 3 = .ok (.if_icmp .le 14, 3) := by decide +kernel
theorem dX5_writeNumber_6 : decode cX5_writeNumber 6 = .ok (.aload_n 0, 1) := by decide +kernel
theorem dX5_writeNumber_7 : decode cX5_writeNumber 7 = .ok (.bipush 48, 2) := by decide +kernel
theorem dX5_writeNumber_9 : decode cX5_writeNumber 9 = .ok (.iload_n 1, 1) := by decide +kernel
theorem dX5_writeNumber_10 : decode cX5_writeNumber 10 = .ok (.bipush 100, 2) := by decide +kernel
theorem dX5_writeNumber_12 : decode cX5_writeNumber 12 = .ok (.idiv, 1) := by decide +kernel
theorem dX5_writeNumber_13 : decode cX5_writeNumber 13 = .ok (.iadd, 1) := by decide +kernel
theorem dX5_writeNumber_14 : decode cX5_writeNumber 14 = .ok (.invokevirtual 133, 3) := by decide +kernel
theorem dX5_writeNumber_17 : decode cX5_writeNumber 17 = .ok (.iload_n 1, 1) := by decide +kernel
theorem dX5_writeNumber_18 : decode cX5_writeNumber 18 = .ok (.bipush 9, 2) := by decide +kernel
theorem dX5_writeNumber_20 : decode cX5_writeNumber 20 = .ok (.if_icmp .le 17, 3) := by decide +kernel
theorem dX5_writeNumber_23 : decode cX5_writeNumber 23 = .ok (.aload_n 0, 1) := by decide +kernel
theorem dX5_writeNumber_24 : decode cX5_writeNumber 24 = .ok (.bipush 48, 2) := by decide +kernel
theorem dX5_writeNumber_26 : decode cX5_writeNumber 26 = .ok (.iload_n 1, 1) := by decide +kernel
theorem dX5_writeNumber_27 : decode cX5_writeNumber 27 = .ok (.bipush 10, 2) := by decide +kernel
theorem dX5_writeNumber_29 : decode cX5_writeNumber 29 = .ok (.idiv, 1) := by decide +kernel
theorem dX5_writeNumber_30 : decode cX5_writeNumber 30 = .ok (.bipush 10, 2) := by decide +kernel
theorem dX5_writeNumber_32 : decode cX5_writeNumber 32 = .ok (.irem, 1) := by decide +kernel
theorem dX5_writeNumber_33 : decode cX5_writeNumber 33 = .ok (.iadd, 1) := by decide +kernel
theorem dX5_writeNumber_34 : decode cX5_writeNumber 34 = .ok (.invokevirtual 133, 3) := by decide +kernel
theorem dX5_writeNumber_37 : decode cX5_writeNumber 37 = .ok (.aload_n 0, 1) := by decide +kernel
theorem dX5_writeNumber_38 : decode cX5_writeNumber 38 = .ok (.bipush 48, 2) := by decide +kernel
theorem dX5_writeNumber_40 : decode cX5_writeNumber 40 = .ok (.iload_n 1, 1) := by decide +kernel
theorem dX5_writeNumber_41 : decode cX5_writeNumber 41 = .ok (.bipush 10, 2) := by decide +kernel
theorem dX5_writeNumber_43 : decode cX5_writeNumber 43 = .ok (.irem, 1) := by decide +kernel
theorem dX5_writeNumber_44 : decode cX5_writeNumber 44 = .ok (.iadd, 1) := by decide +kernel
theorem dX5_writeNumber_45 : decode cX5_writeNumber 45 = .ok (.invokevirtual 133, 3) := by decide +kernel
theorem dX5_writeNumber_48 : decode cX5_writeNumber 48 = .ok (.return_, 1) := by decide +kernel
set_option maxRecDepth 20000 in
theorem ggX5_writeDate_X5_isTown : GoodIn wsX5_writeDate wsX5_isTown := goodIn_r _ [6, 7, 8, 5, 9] (by decide +kernel) (by decide +kernel)
set_option maxRecDepth 20000 in
theorem gX5_writeDate_X5_isTown : GoodIn wsX5_writeDate (va_wsS RX5 47 yX5_isTown wsX5_isTown) := goodIn_app (goodIn_of _ (by decide +kernel)) ggX5_writeDate_X5_isTown
set_option maxRecDepth 20000 in
theorem ggX5_writeDate_X5_fails : GoodIn wsX5_writeDate wsX5_fails := goodIn_r _ [13, 1, 57, 58, 59, 60, 61, 62, 63, 64, 65, 66] (by decide +kernel) (by decide +kernel)
set_option maxRecDepth 20000 in
theorem gX5_writeDate_X5_fails : GoodIn wsX5_writeDate (wsV RX5 40 RX5 yX5_fails wsX5_fails) := goodIn_app (goodIn_of _ (by decide +kernel)) ggX5_writeDate_X5_fails
set_option maxRecDepth 20000 in
theorem ggX5_writeDate_X5_in : GoodIn wsX5_writeDate wsX5_in := goodIn_r _ [9] (by decide +kernel) (by decide +kernel)
set_option maxRecDepth 20000 in
theorem gX5_writeDate_X5_in : GoodIn wsX5_writeDate (va_wsS RX5 33 yX5_in wsX5_in) := goodIn_app (goodIn_of _ (by decide +kernel)) ggX5_writeDate_X5_in
set_option maxRecDepth 20000 in
theorem ggX5_writeDate_X5_write : GoodIn wsX5_writeDate wsX5_write := goodIn_r _ [17, 18, 2, 57, 58, 59, 60, 61, 62, 63, 64, 65, 66] (by decide +kernel) (by decide +kernel)
set_option maxRecDepth 20000 in
theorem gX5_writeDate_X5_write : GoodIn wsX5_writeDate (wsV RX5 133 RX5 yX5_write wsX5_write) := goodIn_app (goodIn_of _ (by decide +kernel)) ggX5_writeDate_X5_write
set_option maxRecDepth 20000 in
theorem ggX5_writeDate_X5_dayAt : GoodIn wsX5_writeDate wsX5_dayAt := goodIn_r _ [22, 23, 24, 25, 5, 26, 27, 28, 29, 30, 31, 32, 33, 34, 35, 36, 37, 38, 39, 40, 41, 42, 43, 44, 45, 46, 47, 48, 57, 58, 59, 60, 61, 62, 63, 64, 65, 66] (by decide +kernel) (by decide +kernel)
set_option maxRecDepth 20000 in
theorem gX5_writeDate_X5_dayAt : GoodIn wsX5_writeDate (wsV RX5 74 RX5 yX5_dayAt wsX5_dayAt) := goodIn_app (goodIn_of _ (by decide +kernel)) ggX5_writeDate_X5_dayAt
set_option maxRecDepth 20000 in
theorem ggX5_writeDate_X5_writeNumber : GoodIn wsX5_writeDate wsX5_writeNumber := goodIn_r _ [52, 14, 15, 16, 5, 17, 18, 2, 57, 58, 59, 60, 61, 62, 63, 64, 65, 66] (by decide +kernel) (by decide +kernel)
set_option maxRecDepth 20000 in
theorem gX5_writeDate_X5_writeNumber : GoodIn wsX5_writeDate (wsV RX5 137 RX5 yX5_writeNumber wsX5_writeNumber) := goodIn_app (goodIn_of _ (by decide +kernel)) ggX5_writeDate_X5_writeNumber
set_option maxRecDepth 20000 in
theorem ggX5_writeDate_X5_monthAt : GoodIn wsX5_writeDate wsX5_monthAt := goodIn_r _ [48, 23, 24, 25, 5, 26, 27, 28, 29, 30, 31, 32, 33, 34, 35, 36, 37, 38, 39, 40, 41, 42, 43, 44, 57, 58, 59, 60, 61, 62, 63, 64, 65, 66] (by decide +kernel) (by decide +kernel)
set_option maxRecDepth 20000 in
theorem gX5_writeDate_X5_monthAt : GoodIn wsX5_writeDate (wsV RX5 71 RX5 yX5_monthAt wsX5_monthAt) := goodIn_app (goodIn_of _ (by decide +kernel)) ggX5_writeDate_X5_monthAt
set_option maxRecDepth 20000 in
theorem ggX5_writeDate_X5_yearAt : GoodIn wsX5_writeDate wsX5_yearAt := goodIn_r _ [56, 23, 24, 25, 5, 26, 27, 28, 29, 30, 31, 32, 33, 34, 35, 36, 37, 38, 39, 40, 41, 42, 43, 44, 57, 58, 59, 60, 61, 62, 63, 64, 65, 66] (by decide +kernel) (by decide +kernel)
set_option maxRecDepth 20000 in
theorem gX5_writeDate_X5_yearAt : GoodIn wsX5_writeDate (wsV RX5 77 RX5 yX5_yearAt wsX5_yearAt) := goodIn_app (goodIn_of _ (by decide +kernel)) ggX5_writeDate_X5_yearAt
theorem dX5_writeDate_0 : decode cX5_writeDate 0 = .ok (.aload_n 0, 1) := by decide +kernel
theorem dX5_writeDate_1 : decode cX5_writeDate 1 = .ok (.iconst 0, 1) := by decide +kernel
theorem dX5_writeDate_2 : decode cX5_writeDate 2 = .ok (.putfield 29, 3) := by decide +kernel
theorem dX5_writeDate_5 : decode cX5_writeDate 5 = .ok (.iload_n 1, 1) := by decide +kernel
theorem dX5_writeDate_6 : decode cX5_writeDate 6 = .ok (.invokestatic 47, 3) := by decide +kernel
theorem dX5_writeDate_9 : decode cX5_writeDate 9 = .ok (.ifCond .ne 9, 3) := by decide +kernel
theorem dX5_writeDate_12 : decode cX5_writeDate 12 = .ok (.aload_n 0, 1) := by decide +kernel
theorem dX5_writeDate_13 : decode cX5_writeDate 13 = .ok (.iconst 1, 1) := by decide +kernel
theorem dX5_writeDate_14 : decode cX5_writeDate 14 = .ok (.invokevirtual 40, 3) := by decide +kernel
theorem dX5_writeDate_17 : decode cX5_writeDate 17 = .ok (.ireturn, 1) := by decide +kernel
theorem dX5_writeDate_18 : decode cX5_writeDate 18 = .ok (.iload_n 2, 1) := by decide +kernel
theorem dX5_writeDate_19 : decode cX5_writeDate 19 = .ok (.iconst 0, 1) := by decide +kernel
theorem dX5_writeDate_20 : decode cX5_writeDate 20 = .ok (.sipush 20000, 3) := by decide +kernel
theorem dX5_writeDate_23 : decode cX5_writeDate 23 = .ok (.invokestatic 33, 3) := by decide +kernel
theorem dX5_writeDate_26 : decode cX5_writeDate 26 = .ok (.ifCond .ne 9, 3) := by decide +kernel
theorem dX5_writeDate_29 : decode cX5_writeDate 29 = .ok (.aload_n 0, 1) := by decide +kernel
theorem dX5_writeDate_30 : decode cX5_writeDate 30 = .ok (.iconst 2, 1) := by decide +kernel
theorem dX5_writeDate_31 : decode cX5_writeDate 31 = .ok (.invokevirtual 40, 3) := by decide +kernel
theorem dX5_writeDate_34 : decode cX5_writeDate 34 = .ok (.ireturn, 1) := by decide +kernel
theorem dX5_writeDate_35 : decode cX5_writeDate 35 = .ok (.aload_n 0, 1) := by decide +kernel
theorem dX5_writeDate_36 : decode cX5_writeDate 36 = .ok (.iconst 0, 1) := by decide +kernel
theorem dX5_writeDate_37 : decode cX5_writeDate 37 = .ok (.putfield 117, 3) := by decide +kernel
theorem dX5_writeDate_40 : decode cX5_writeDate 40 = .ok (.aload_n 0, 1) := by decide +kernel
theorem dX5_writeDate_41 : decode cX5_writeDate 41 = .ok (.bipush 65, 2) := by decide +kernel
theorem dX5_writeDate_43 : decode cX5_writeDate 43 = .ok (.iload_n 1, 1) := by decide +kernel
theorem dX5_writeDate_44 : decode cX5_writeDate 44 = .ok (.iadd, 1) := by decide +kernel
theorem dX5_writeDate_45 : decode cX5_writeDate 45 = .ok (.invokevirtual 133, 3) := by decide +kernel
theorem dX5_writeDate_48 : decode cX5_writeDate 48 = .ok (.aload_n 0, 1) := by decide +kernel
theorem dX5_writeDate_49 : decode cX5_writeDate 49 = .ok (.aload_n 0, 1) := by decide +kernel
theorem dX5_writeDate_50 : decode cX5_writeDate 50 = .ok (.iload_n 1, 1) := by decide +kernel
theorem dX5_writeDate_51 : decode cX5_writeDate 51 = .ok (.iload_n 2, 1) := by decide +kernel
theorem dX5_writeDate_52 : decode cX5_writeDate 52 = .ok (.invokevirtual 74, 3) := by decide +kernel
theorem dX5_writeDate_55 : decode cX5_writeDate 55 = .ok (.invokevirtual 137, 3) := by decide +kernel
theorem dX5_writeDate_58 : decode cX5_writeDate 58 = .ok (.aload_n 0, 1) := by decide +kernel
theorem dX5_writeDate_59 : decode cX5_writeDate 59 = .ok (.bipush 46, 2) := by decide +kernel
theorem dX5_writeDate_61 : decode cX5_writeDate 61 = .ok (.invokevirtual 133, 3) := by decide +kernel
theorem dX5_writeDate_64 : decode cX5_writeDate 64 = .ok (.aload_n 0, 1) := by decide +kernel
theorem dX5_writeDate_65 : decode cX5_writeDate 65 = .ok (.aload_n 0, 1) := by decide +kernel
theorem dX5_writeDate_66 : decode cX5_writeDate 66 = .ok (.iload_n 1, 1) := by decide +kernel
theorem dX5_writeDate_67 : decode cX5_writeDate 67 = .ok (.iload_n 2, 1) := by decide +kernel
theorem dX5_writeDate_68 : decode cX5_writeDate 68 = .ok (.invokevirtual 71, 3) := by decide +kernel
theorem dX5_writeDate_71 : decode cX5_writeDate 71 = .ok (.invokevirtual 137, 3) := by decide +kernel
theorem dX5_writeDate_74 : decode cX5_writeDate 74 = .ok (.aload_n 0, 1) := by decide +kernel
theorem dX5_writeDate_75 : decode cX5_writeDate 75 = .ok (.bipush 46, 2) := by decide +kernel
theorem dX5_writeDate_77 : decode cX5_writeDate 77 = .ok (.invokevirtual 133, 3) := by decide +kernel
theorem dX5_writeDate_80 : decode cX5_writeDate 80 = .ok (.aload_n 0, 1) := by decide +kernel
theorem dX5_writeDate_81 : decode cX5_writeDate 81 = .ok (.aload_n 0, 1) := by decide +kernel
theorem dX5_writeDate_82 : decode cX5_writeDate 82 = .ok (.iload_n 1, 1) := by decide +kernel
theorem dX5_writeDate_83 : decode cX5_writeDate 83 = .ok (.iload_n 2, 1) := by decide +kernel
theorem dX5_writeDate_84 : decode cX5_writeDate 84 = .ok (.invokevirtual 77, 3) := by decide +kernel
theorem dX5_writeDate_87 : decode cX5_writeDate 87 = .ok (.invokevirtual 137, 3) := by decide +kernel
theorem dX5_writeDate_90 : decode cX5_writeDate 90 = .ok (.aload_n 0, 1) := by decide +kernel
theorem dX5_writeDate_91 : decode cX5_writeDate 91 = .ok (.getfield 117, 3) := by decide +kernel
theorem dX5_writeDate_94 : decode cX5_writeDate 94 = .ok (.ireturn, 1) := by decide +kernel
set_option maxRecDepth 20000 in
theorem ggL_addGap_X4_addGap : GoodIn wsL_addGap wsX4_addGap := goodIn_ca (goodIn_ca (goodIn_ca (goodIn_r _ [8, 9, 10, 11, 12, 13, 14, 15, 7, 16, 17, 18, 19, 20, 21, 22, 23, 24, 25, 26, 27, 28, 29, 30, 31, 32, 33, 34, 35, 36, 37, 38, 39, 40, 41, 42, 43, 44, 45, 46, 47, 48, 49, 50, 51, 52, 53, 54, 55, 56, 57, 58, 59, 60, 61, 62, 63, 64, 65, 66, 67, 68, 69, 70, 71, 72, 73, 74, 75, 76, 77, 78, 79, 80, 81, 82, 83, 84, 85, 86, 87, 88, 89, 90, 91, 92, 93, 94, 95, 96, 97, 98, 99, 100, 101, 102, 103, 104] (by decide +kernel) (by decide +kernel)) (goodIn_sub (fun _ h => List.mem_cons_of_mem _ (List.mem_append_left _ (List.mem_append_left _ (List.mem_append_right _ h)))) (by decide +kernel))) (goodIn_sub (fun _ h => List.mem_cons_of_mem _ (List.mem_append_left _ (List.mem_append_right _ h))) (by decide +kernel))) (goodIn_sub (fun _ h => List.mem_cons_of_mem _ (List.mem_append_right _ h)) (by decide +kernel))
set_option maxRecDepth 20000 in
theorem gL_addGap_X4_addGap : GoodIn wsL_addGap (wsV RL 7 RX4 yX4_addGap wsX4_addGap) := goodIn_app (goodIn_of _ (by decide +kernel)) ggL_addGap_X4_addGap

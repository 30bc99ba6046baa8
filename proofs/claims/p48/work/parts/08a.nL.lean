theorem dL_cell_0 : decode cL_cell 0 = .ok (.iload_n 1, 1) := by decide +kernel
theorem dL_cell_1 : decode cL_cell 1 = .ok (.aload_n 0, 1) := by decide +kernel
theorem dL_cell_2 : decode cL_cell 2 = .ok (.arraylength, 1) := by decide +kernel
theorem dL_cell_3 : decode cL_cell 3 = .ok (.if_icmp .ge 9, 3) := by decide +kernel
theorem dL_cell_6 : decode cL_cell 6 = .ok (.aload_n 0, 1) := by decide +kernel
theorem dL_cell_7 : decode cL_cell 7 = .ok (.iload_n 1, 1) := by decide +kernel
theorem dL_cell_8 : decode cL_cell 8 = .ok (.iaload, 1) := by decide +kernel
theorem dL_cell_9 : decode cL_cell 9 = .ok (.goto 9, 3) := by decide +kernel
theorem dL_cell_12 : decode cL_cell 12 = .ok (.ldc 7, 2) := by decide +kernel
theorem dL_cell_14 : decode cL_cell 14 = .ok (.iload_n 1, 1) := by decide +kernel
theorem dL_cell_15 : decode cL_cell 15 = .ok (.iconst 1, 1) := by decide +kernel
theorem dL_cell_16 : decode cL_cell 16 = .ok (.iadd, 1) := by decide +kernel
theorem dL_cell_17 : decode cL_cell 17 = .ok (.imul, 1) := by decide +kernel
theorem dL_cell_18 : decode cL_cell 18 = .ok (.ireturn, 1) := by decide +kernel
theorem dL_low_0 : decode cL_low 0 = .ok (.iload_n 0, 1) := by decide +kernel
theorem dL_low_1 : decode cL_low 1 = .ok (.ldc 8, 2) := by decide +kernel
theorem dL_low_3 : decode cL_low 3 = .ok (.iand, 1) := by decide +kernel
theorem dL_low_4 : decode cL_low 4 = .ok (.iload_n 1, 1) := by decide +kernel
theorem dL_low_5 : decode cL_low 5 = .ok (.irem, 1) := by decide +kernel
theorem dL_low_6 : decode cL_low 6 = .ok (.ireturn, 1) := by decide +kernel
theorem dL_length_0 : decode cL_length 0 = .ok (.iload_n 0, 1) := by decide +kernel
theorem dL_length_1 : decode cL_length 1 = .ok (.iconst 1, 1) := by decide +kernel
theorem dL_length_2 : decode cL_length 2 = .ok (.if_icmp .ne 8, 3) := by decide +kernel
theorem dL_length_5 : decode cL_length 5 = .ok (.bipush 28, 2) := by decide +kernel
theorem dL_length_7 : decode cL_length 7 = .ok (.goto 9, 3) := by decide +kernel
theorem dL_length_10 : decode cL_length 10 = .ok (.bipush 31, 2) := by decide +kernel
theorem dL_length_12 : decode cL_length 12 = .ok (.iload_n 1, 1) := by decide +kernel
theorem dL_length_13 : decode cL_length 13 = .ok (.iconst 2, 1) := by decide +kernel
theorem dL_length_14 : decode cL_length 14 = .ok (.irem, 1) := by decide +kernel
theorem dL_length_15 : decode cL_length 15 = .ok (.isub, 1) := by decide +kernel
theorem dL_length_16 : decode cL_length 16 = .ok (.ireturn, 1) := by decide +kernel
set_option maxRecDepth 20000 in
theorem ggL_date_L_length : GoodIn wsL_date wsL_length := goodIn_r _ [4] (by decide +kernel) (by decide +kernel)
set_option maxRecDepth 20000 in
theorem gL_date_L_length : GoodIn wsL_date (va_wsS RL 9 yL_length wsL_length) := goodIn_app (goodIn_of _ (by decide +kernel)) ggL_date_L_length
theorem dL_date_0 : decode cL_date 0 = .ok (.iload_n 2, 1) := by decide +kernel
theorem dL_date_1 : decode cL_date 1 = .ok (.istore_n 3, 1) := by decide +kernel
theorem dL_date_2 : decode cL_date 2 = .ok (.iconst 0, 1) := by decide +kernel
theorem dL_date_3 : decode cL_date 3 = .ok (.istore 4, 2) := by decide +kernel
theorem dL_date_5 : decode cL_date 5 = .ok (.iload 4, 2) := by decide +kernel
theorem dL_date_7 : decode cL_date 7 = .ok (.aload_n 0, 1) := by decide +kernel
theorem dL_date_8 : decode cL_date 8 = .ok (.bipush 7, 2) := by decide +kernel
theorem dL_date_10 : decode cL_date 10 = .ok (.iload_n 1, 1) := by decide +kernel
theorem dL_date_11 : decode cL_date 11 = .ok (.imul, 1) := by decide +kernel
theorem dL_date_12 : decode cL_date 12 = .ok (.iaload, 1) := by decide +kernel
theorem dL_date_13 : decode cL_date 13 = .ok (.if_icmp .ge 46, 3) := by decide +kernel
theorem dL_date_16 : decode cL_date 16 = .ok (.iload_n 3, 1) := by decide +kernel
theorem dL_date_17 : decode cL_date 17 = .ok (.aload_n 0, 1) := by decide +kernel
theorem dL_date_18 : decode cL_date 18 = .ok (.bipush 7, 2) := by decide +kernel
theorem dL_date_20 : decode cL_date 20 = .ok (.iload_n 1, 1) := by decide +kernel
theorem dL_date_21 : decode cL_date 21 = .ok (.imul, 1) := by decide +kernel
theorem dL_date_22 : decode cL_date 22 = .ok (.iconst 1, 1) := by decide +kernel
theorem dL_date_23 : decode cL_date 23 = .ok (.iadd, 1) := by decide +kernel
theorem dL_date_24 : decode cL_date 24 = .ok (.iconst 2, 1) := by decide +kernel
theorem dL_date_25 : decode cL_date 25 = .ok (.iload 4, 2) := by decide +kernel
theorem dL_date_27 : decode cL_date 27 = .ok (.imul, 1) := by decide +kernel
theorem dL_date_28 : decode cL_date 28 = .ok (.iadd, 1) := by decide +kernel
theorem dL_date_29 : decode cL_date 29 = .ok (.iaload, 1) := by decide +kernel
theorem dL_date_30 : decode cL_date 30 = .ok (.iload_n 2, 1) := by decide +kernel
theorem dL_date_31 : decode cL_date 31 = .ok (.if_icmp .ge 19, 3) := by decide +kernel
theorem dL_date_34 : decode cL_date 34 = .ok (.aload_n 0, 1) := by decide +kernel
theorem dL_date_35 : decode cL_date 35 = .ok (.bipush 7, 2) := by decide +kernel
theorem dL_date_37 : decode cL_date 37 = .ok (.iload_n 1, 1) := by decide +kernel
theorem dL_date_38 : decode cL_date 38 = .ok (.imul, 1) := by decide +kernel
theorem dL_date_39 : decode cL_date 39 = .ok (.iconst 2, 1) := by decide +kernel
theorem dL_date_40 : decode cL_date 40 = .ok (.iadd, 1) := by decide +kernel
theorem dL_date_41 : decode cL_date 41 = .ok (.iconst 2, 1) := by decide +kernel
theorem dL_date_42 : decode cL_date 42 = .ok (.iload 4, 2) := by decide +kernel
theorem dL_date_44 : decode cL_date 44 = .ok (.imul, 1) := by decide +kernel
theorem dL_date_45 : decode cL_date 45 = .ok (.iadd, 1) := by decide +kernel
theorem dL_date_46 : decode cL_date 46 = .ok (.iaload, 1) := by decide +kernel
theorem dL_date_47 : decode cL_date 47 = .ok (.goto 4, 3) := by decide +kernel
theorem dL_date_50 : decode cL_date 50 = .ok (.iconst 0, 1) := by decide +kernel
theorem dL_date_51 : decode cL_date 51 = .ok (.iadd, 1) := by decide +kernel
theorem dL_date_52 : decode cL_date 52 = .ok (.istore_n 3, 1) := by decide +kernel
theorem dL_date_53 : decode cL_date 53 = .ok (.iinc 4 1, 3) := by decide +kernel
theorem dL_date_56 : decode cL_date 56 = .ok (.goto (-51), 3) := by decide +kernel
theorem dL_date_59 : decode cL_date 59 = .ok (.iload_n 1, 1) := by decide +kernel
theorem dL_date_60 : decode cL_date 60 = .ok (.ifCond .ne 9, 3) := by decide +kernel
theorem dL_date_63 : decode cL_date 63 = .ok (.sipush 366, 3) := by decide +kernel
theorem dL_date_66 : decode cL_date 66 = .ok (.goto 6, 3) := by decide +kernel
theorem dL_date_69 : decode cL_date 69 = .ok (.sipush 336, 3) := by decide +kernel
theorem dL_date_72 : decode cL_date 72 = .ok (.istore 4, 2) := by decide +kernel
theorem dL_date_74 : decode cL_date 74 = .ok (.iconst 1, 1) := by decide +kernel
theorem dL_date_75 : decode cL_date 75 = .ok (.istore 5, 2) := by decide +kernel
theorem dL_date_77 : decode cL_date 77 = .ok (.iload_n 3, 1) := by decide +kernel
theorem dL_date_78 : decode cL_date 78 = .ok (.iload 4, 2) := by decide +kernel
theorem dL_date_80 : decode cL_date 80 = .ok (.if_icmp .lt 14, 3) := by decide +kernel
theorem dL_date_83 : decode cL_date 83 = .ok (.iload_n 3, 1) := by decide +kernel
theorem dL_date_84 : decode cL_date 84 = .ok (.iload 4, 2) := by decide +kernel
theorem dL_date_86 : decode cL_date 86 = .ok (.isub, 1) := by decide +kernel
theorem dL_date_87 : decode cL_date 87 = .ok (.istore_n 3, 1) := by decide +kernel
theorem dL_date_88 : decode cL_date 88 = .ok (.iinc 5 1, 3) := by decide +kernel
theorem dL_date_91 : decode cL_date 91 = .ok (.goto (-14), 3) := by decide +kernel
theorem dL_date_94 : decode cL_date 94 = .ok (.iconst 1, 1) := by decide +kernel
theorem dL_date_95 : decode cL_date 95 = .ok (.istore 6, 2) := by decide +kernel
theorem dL_date_97 : decode cL_date 97 = .ok (.iload_n 3, 1) := by decide +kernel
theorem dL_date_98 : decode cL_date 98 = .ok (.iload_n 1, 1) := by decide +kernel
theorem dL_date_99 : decode cL_date 99 = .ok (.iload 6, 2) := by decide +kernel
theorem dL_date_101 : decode cL_date 101 = .ok (.invokestatic 9, 3) := by decide +kernel
theorem dL_date_104 : decode cL_date 104 = .ok (.if_icmp .lt 18, 3) := by decide +kernel
theorem dL_date_107 : decode cL_date 107 = .ok (.iload_n 3, 1) := by decide +kernel
theorem dL_date_108 : decode cL_date 108 = .ok (.iload_n 1, 1) := by decide +kernel
theorem dL_date_109 : decode cL_date 109 = .ok (.iload 6, 2) := by decide +kernel
theorem dL_date_111 : decode cL_date 111 = .ok (.invokestatic 9, 3) := by decide +kernel
theorem dL_date_114 : decode cL_date 114 = .ok (.isub, 1) := by decide +kernel
theorem dL_date_115 : decode cL_date 115 = .ok (.istore_n 3, 1) := by decide +kernel
theorem dL_date_116 : decode cL_date 116 = .ok (.iinc 6 1, 3) := by decide +kernel
theorem dL_date_119 : decode cL_date 119 = .ok (.goto (-22), 3) := by decide +kernel
theorem dL_date_122 : decode cL_date 122 = .ok (.sipush 10000, 3) := by decide +kernel
theorem dL_date_125 : decode cL_date 125 = .ok (.iload 5, 2) := by decide +kernel
theorem dL_date_127 : decode cL_date 127 = .ok (.imul, 1) := by decide +kernel
theorem dL_date_128 : decode cL_date 128 = .ok (.bipush 100, 2) := by decide +kernel
theorem dL_date_130 : decode cL_date 130 = .ok (.iload 6, 2) := by decide +kernel
theorem dL_date_132 : decode cL_date 132 = .ok (.imul, 1) := by decide +kernel
theorem dL_date_133 : decode cL_date 133 = .ok (.iadd, 1) := by decide +kernel
theorem dL_date_134 : decode cL_date 134 = .ok (.iload_n 3, 1) := by decide +kernel
theorem dL_date_135 : decode cL_date 135 = .ok (.iadd, 1) := by decide +kernel
theorem dL_date_136 : decode cL_date 136 = .ok (.iconst 1, 1) := by decide +kernel
theorem dL_date_137 : decode cL_date 137 = .ok (.iadd, 1) := by decide +kernel
theorem dL_date_138 : decode cL_date 138 = .ok (.ireturn, 1) := by decide +kernel
set_option maxRecDepth 20000 in
theorem ggL_due_L_date : GoodIn wsL_due wsL_date := goodIn_r _ [4, 5, 6, 3, 7] (by decide +kernel) (by decide +kernel)
set_option maxRecDepth 20000 in
theorem gL_due_L_date : GoodIn wsL_due (va_wsS RL 15 yL_date wsL_date) := goodIn_app (goodIn_of _ (by decide +kernel)) ggL_due_L_date
theorem dL_due_0 : decode cL_due 0 = .ok (.aload_n 1, 1) := by decide +kernel
theorem dL_due_1 : decode cL_due 1 = .ok (.iconst 4, 1) := by decide +kernel
theorem dL_due_2 : decode cL_due 2 = .ok (.iload_n 2, 1) := by decide +kernel
theorem dL_due_3 : decode cL_due 3 = .ok (.imul, 1) := by decide +kernel
theorem dL_due_4 : decode cL_due 4 = .ok (.iaload, 1) := by decide +kernel
theorem dL_due_5 : decode cL_due 5 = .ok (.istore 4, 2) := by decide +kernel
theorem dL_due_7 : decode cL_due 7 = .ok (.bipush 100, 2) := by decide +kernel
theorem dL_due_9 : decode cL_due 9 = .ok (.aload_n 1, 1) := by decide +kernel
theorem dL_due_10 : decode cL_due 10 = .ok (.iconst 4, 1) := by decide +kernel
theorem dL_due_11 : decode cL_due 11 = .ok (.iload_n 2, 1) := by decide +kernel
theorem dL_due_12 : decode cL_due 12 = .ok (.imul, 1) := by decide +kernel
theorem dL_due_13 : decode cL_due 13 = .ok (.iconst 1, 1) := by decide +kernel
theorem dL_due_14 : decode cL_due 14 = .ok (.iadd, 1) := by decide +kernel
theorem dL_due_15 : decode cL_due 15 = .ok (.iaload, 1) := by decide +kernel
theorem dL_due_16 : decode cL_due 16 = .ok (.imul, 1) := by decide +kernel
theorem dL_due_17 : decode cL_due 17 = .ok (.aload_n 1, 1) := by decide +kernel
theorem dL_due_18 : decode cL_due 18 = .ok (.iconst 4, 1) := by decide +kernel
theorem dL_due_19 : decode cL_due 19 = .ok (.iload_n 2, 1) := by decide +kernel
theorem dL_due_20 : decode cL_due 20 = .ok (.imul, 1) := by decide +kernel
theorem dL_due_21 : decode cL_due 21 = .ok (.iconst 2, 1) := by decide +kernel
theorem dL_due_22 : decode cL_due 22 = .ok (.iadd, 1) := by decide +kernel
theorem dL_due_23 : decode cL_due 23 = .ok (.iaload, 1) := by decide +kernel
theorem dL_due_24 : decode cL_due 24 = .ok (.iadd, 1) := by decide +kernel
theorem dL_due_25 : decode cL_due 25 = .ok (.istore 5, 2) := by decide +kernel
theorem dL_due_27 : decode cL_due 27 = .ok (.iload_n 3, 1) := by decide +kernel
theorem dL_due_28 : decode cL_due 28 = .ok (.ifCond .ge 5, 3) := by decide +kernel
theorem dL_due_31 : decode cL_due 31 = .ok (.iconst 0, 1) := by decide +kernel
theorem dL_due_32 : decode cL_due 32 = .ok (.ireturn, 1) := by decide +kernel
theorem dL_due_33 : decode cL_due 33 = .ok (.aload_n 0, 1) := by decide +kernel
theorem dL_due_34 : decode cL_due 34 = .ok (.iload 4, 2) := by decide +kernel
theorem dL_due_36 : decode cL_due 36 = .ok (.iload_n 3, 1) := by decide +kernel
theorem dL_due_37 : decode cL_due 37 = .ok (.invokestatic 15, 3) := by decide +kernel
theorem dL_due_40 : decode cL_due 40 = .ok (.istore 6, 2) := by decide +kernel
theorem dL_due_42 : decode cL_due 42 = .ok (.iload_n 3, 1) := by decide +kernel
theorem dL_due_43 : decode cL_due 43 = .ok (.ifCond .ne 20, 3) := by decide +kernel
theorem dL_due_46 : decode cL_due 46 = .ok (.iload 6, 2) := by decide +kernel
theorem dL_due_48 : decode cL_due 48 = .ok (.sipush 10000, 3) := by decide +kernel
theorem dL_due_51 : decode cL_due 51 = .ok (.irem, 1) := by decide +kernel
theorem dL_due_52 : decode cL_due 52 = .ok (.iload 5, 2) := by decide +kernel
theorem dL_due_54 : decode cL_due 54 = .ok (.if_icmp .lt 7, 3) := by decide +kernel
theorem dL_due_57 : decode cL_due 57 = .ok (.iconst 1, 1) := by decide +kernel
theorem dL_due_58 : decode cL_due 58 = .ok (.goto 4, 3) := by decide +kernel
theorem dL_due_61 : decode cL_due 61 = .ok (.iconst 0, 1) := by decide +kernel
theorem dL_due_62 : decode cL_due 62 = .ok (.ireturn, 1) := by decide +kernel
theorem dL_due_63 : decode cL_due 63 = .ok (.aload_n 0, 1) := by decide +kernel
theorem dL_due_64 : decode cL_due 64 = .ok (.iload 4, 2) := by decide +kernel
theorem dL_due_66 : decode cL_due 66 = .ok (.iload_n 3, 1) := by decide +kernel
theorem dL_due_67 : decode cL_due 67 = .ok (.iconst 1, 1) := by decide +kernel
theorem dL_due_68 : decode cL_due 68 = .ok (.isub, 1) := by decide +kernel
theorem dL_due_69 : decode cL_due 69 = .ok (.invokestatic 15, 3) := by decide +kernel
theorem dL_due_72 : decode cL_due 72 = .ok (.istore 7, 2) := by decide +kernel
theorem dL_due_74 : decode cL_due 74 = .ok (.iload 6, 2) := by decide +kernel
theorem dL_due_76 : decode cL_due 76 = .ok (.sipush 10000, 3) := by decide +kernel
theorem dL_due_79 : decode cL_due 79 = .ok (.irem, 1) := by decide +kernel
theorem dL_due_80 : decode cL_due 80 = .ok (.iload 5, 2) := by decide +kernel
theorem dL_due_82 : decode cL_due 82 = .ok (.if_icmp .lt 33, 3) := by decide +kernel
theorem dL_due_85 : decode cL_due 85 = .ok (.iload 7, 2) := by decide +kernel
theorem dL_due_87 : decode cL_due 87 = .ok (.sipush 10000, 3) := by decide +kernel
theorem dL_due_90 : decode cL_due 90 = .ok (.idiv, 1) := by decide +kernel
theorem dL_due_91 : decode cL_due 91 = .ok (.iload 6, 2) := by decide +kernel
theorem dL_due_93 : decode cL_due 93 = .ok (.sipush 10000, 3) := by decide +kernel
theorem dL_due_96 : decode cL_due 96 = .ok (.idiv, 1) := by decide +kernel
theorem dL_due_97 : decode cL_due 97 = .ok (.if_icmp .lt 14, 3) := by decide +kernel
theorem dL_due_100 : decode cL_due 100 = .ok (.iload 7, 2) := by decide +kernel
theorem dL_due_102 : decode cL_due 102 = .ok (.sipush 10000, 3) := by decide +kernel
theorem dL_due_105 : decode cL_due 105 = .ok (.irem, 1) := by decide +kernel
theorem dL_due_106 : decode cL_due 106 = .ok (.iload 5, 2) := by decide +kernel
theorem dL_due_108 : decode cL_due 108 = .ok (.if_icmp .ge 7, 3) := by decide +kernel
theorem dL_due_111 : decode cL_due 111 = .ok (.iconst 1, 1) := by decide +kernel
theorem dL_due_112 : decode cL_due 112 = .ok (.goto 4, 3) := by decide +kernel
theorem dL_due_115 : decode cL_due 115 = .ok (.iconst 0, 1) := by decide +kernel
theorem dL_due_116 : decode cL_due 116 = .ok (.ireturn, 1) := by decide +kernel
theorem dL_later_0 : decode cL_later 0 = .ok (.aload_n 0, 1) := by decide +kernel
theorem dL_later_1 : decode cL_later 1 = .ok (.iconst 0, 1) := by decide +kernel
theorem dL_later_2 : decode cL_later 2 = .ok (.iaload, 1) := by decide +kernel
theorem dL_later_3 : decode cL_later 3 = .ok (.bipush 7, 2) := by decide +kernel
theorem dL_later_5 : decode cL_later 5 = .ok (.if_icmp .ne 7, 3) := by decide +kernel
theorem dL_later_8 : decode cL_later 8 = .ok (.iconst 1, 1) := by decide +kernel
theorem dL_later_9 : decode cL_later 9 = .ok (.goto 6, 3) := by decide +kernel
theorem dL_later_12 : decode cL_later 12 = .ok (.aload_n 0, 1) := by decide +kernel
theorem dL_later_13 : decode cL_later 13 = .ok (.iconst 0, 1) := by decide +kernel
theorem dL_later_14 : decode cL_later 14 = .ok (.iaload, 1) := by decide +kernel
theorem dL_later_15 : decode cL_later 15 = .ok (.ireturn, 1) := by decide +kernel
set_option maxRecDepth 20000 in
theorem ggL_kept_L_later : GoodIn wsL_kept wsL_later := goodIn_r _ [4] (by decide +kernel) (by decide +kernel)
set_option maxRecDepth 20000 in
theorem gL_kept_L_later : GoodIn wsL_kept (va_wsS RL 19 yL_later wsL_later) := goodIn_app (goodIn_of _ (by decide +kernel)) ggL_kept_L_later
set_option maxRecDepth 20000 in
theorem ggL_kept_L_due : GoodIn wsL_kept wsL_due := goodIn_r _ [7, 8, 9, 3, 10, 11, 12, 13] (by decide +kernel) (by decide +kernel)
set_option maxRecDepth 20000 in
theorem gL_kept_L_due : GoodIn wsL_kept (va_wsS RL 23 yL_due wsL_due) := goodIn_app (goodIn_of _ (by decide +kernel)) ggL_kept_L_due
theorem dL_kept_0 : decode cL_kept 0 = .ok (.iload 4, 2) := by decide +kernel
theorem dL_kept_2 : decode cL_kept 2 = .ok (.aload_n 2, 1) := by decide +kernel
theorem dL_kept_3 : decode cL_kept 3 = .ok (.invokestatic 19, 3) := by decide +kernel
theorem dL_kept_6 : decode cL_kept 6 = .ok (.isub, 1) := by decide +kernel
theorem dL_kept_7 : decode cL_kept 7 = .ok (.istore 5, 2) := by decide +kernel
theorem dL_kept_9 : decode cL_kept 9 = .ok (.aload_n 0, 1) := by decide +kernel
theorem dL_kept_10 : decode cL_kept 10 = .ok (.aload_n 1, 1) := by decide +kernel
theorem dL_kept_11 : decode cL_kept 11 = .ok (.iload_n 3, 1) := by decide +kernel
theorem dL_kept_12 : decode cL_kept 12 = .ok (.iload 4, 2) := by decide +kernel
theorem dL_kept_14 : decode cL_kept 14 = .ok (.invokestatic 23, 3) := by decide +kernel
theorem dL_kept_17 : decode cL_kept 17 = .ok (.ifCond .eq 18, 3) := by decide +kernel
theorem dL_kept_20 : decode cL_kept 20 = .ok (.iload 4, 2) := by decide +kernel
theorem dL_kept_22 : decode cL_kept 22 = .ok (.bipush 7, 2) := by decide +kernel
theorem dL_kept_24 : decode cL_kept 24 = .ok (.irem, 1) := by decide +kernel
theorem dL_kept_25 : decode cL_kept 25 = .ok (.aload_n 1, 1) := by decide +kernel
theorem dL_kept_26 : decode cL_kept 26 = .ok (.iconst 4, 1) := by decide +kernel
theorem dL_kept_27 : decode cL_kept 27 = .ok (.iload_n 3, 1) := by decide +kernel
theorem dL_kept_28 : decode cL_kept 28 = .ok (.imul, 1) := by decide +kernel
theorem dL_kept_29 : decode cL_kept 29 = .ok (.iconst 3, 1) := by decide +kernel
theorem dL_kept_30 : decode cL_kept 30 = .ok (.iadd, 1) := by decide +kernel
theorem dL_kept_31 : decode cL_kept 31 = .ok (.iaload, 1) := by decide +kernel
theorem dL_kept_32 : decode cL_kept 32 = .ok (.if_icmp .ne 34, 3) := by decide +kernel
theorem dL_kept_35 : decode cL_kept 35 = .ok (.iload 5, 2) := by decide +kernel
theorem dL_kept_37 : decode cL_kept 37 = .ok (.ifCond .lt 33, 3) := by decide +kernel
theorem dL_kept_40 : decode cL_kept 40 = .ok (.iload 5, 2) := by decide +kernel
theorem dL_kept_42 : decode cL_kept 42 = .ok (.bipush 7, 2) := by decide +kernel
theorem dL_kept_44 : decode cL_kept 44 = .ok (.irem, 1) := by decide +kernel
theorem dL_kept_45 : decode cL_kept 45 = .ok (.aload_n 1, 1) := by decide +kernel
theorem dL_kept_46 : decode cL_kept 46 = .ok (.iconst 4, 1) := by decide +kernel
theorem dL_kept_47 : decode cL_kept 47 = .ok (.iload_n 3, 1) := by decide +kernel
theorem dL_kept_48 : decode cL_kept 48 = .ok (.imul, 1) := by decide +kernel
theorem dL_kept_49 : decode cL_kept 49 = .ok (.iconst 3, 1) := by decide +kernel
theorem dL_kept_50 : decode cL_kept 50 = .ok (.iadd, 1) := by decide +kernel
theorem dL_kept_51 : decode cL_kept 51 = .ok (.iaload, 1) := by decide +kernel
theorem dL_kept_52 : decode cL_kept 52 = .ok (.if_icmp .ne 18, 3) := by decide +kernel
theorem dL_kept_55 : decode cL_kept 55 = .ok (.aload_n 0, 1) := by decide +kernel
theorem dL_kept_56 : decode cL_kept 56 = .ok (.aload_n 1, 1) := by decide +kernel
theorem dL_kept_57 : decode cL_kept 57 = .ok (.iload_n 3, 1) := by decide +kernel
theorem dL_kept_58 : decode cL_kept 58 = .ok (.iload 5, 2) := by decide +kernel
theorem dL_kept_60 : decode cL_kept 60 = .ok (.invokestatic 23, 3) := by decide +kernel
theorem dL_kept_63 : decode cL_kept 63 = .ok (.ifCond .eq 7, 3) := by decide +kernel
theorem dL_kept_66 : decode cL_kept 66 = .ok (.iconst 1, 1) := by decide +kernel
theorem dL_kept_67 : decode cL_kept 67 = .ok (.goto 4, 3) := by decide +kernel
theorem dL_kept_70 : decode cL_kept 70 = .ok (.iconst 0, 1) := by decide +kernel
theorem dL_kept_71 : decode cL_kept 71 = .ok (.ireturn, 1) := by decide +kernel
set_option maxRecDepth 20000 in
theorem ggL_feasts_L_kept : GoodIn wsL_feasts wsL_kept := goodIn_r _ [4, 5, 6, 3, 7, 8, 9, 10, 11, 12, 13, 14, 15, 16] (by decide +kernel) (by decide +kernel)
set_option maxRecDepth 20000 in
theorem gL_feasts_L_kept : GoodIn wsL_feasts (va_wsS RL 27 yL_kept wsL_kept) := goodIn_app (goodIn_of _ (by decide +kernel)) ggL_feasts_L_kept
theorem dL_feasts_0 : decode cL_feasts 0 = .ok (.iconst 0, 1) := by decide +kernel
theorem dL_feasts_1 : decode cL_feasts 1 = .ok (.istore 4, 2) := by decide +kernel
theorem dL_feasts_3 : decode cL_feasts 3 = .ok (.iconst 0, 1) := by decide +kernel
theorem dL_feasts_4 : decode cL_feasts 4 = .ok (.istore 5, 2) := by decide +kernel
theorem dL_feasts_6 : decode cL_feasts 6 = .ok (.iload 5, 2) := by decide +kernel
theorem dL_feasts_8 : decode cL_feasts 8 = .ok (.aload_n 2, 1) := by decide +kernel
theorem dL_feasts_9 : decode cL_feasts 9 = .ok (.bipush 7, 2) := by decide +kernel
theorem dL_feasts_11 : decode cL_feasts 11 = .ok (.iaload, 1) := by decide +kernel
theorem dL_feasts_12 : decode cL_feasts 12 = .ok (.if_icmp .ge 34, 3) := by decide +kernel
theorem dL_feasts_15 : decode cL_feasts 15 = .ok (.iload 4, 2) := by decide +kernel
theorem dL_feasts_17 : decode cL_feasts 17 = .ok (.aload_n 0, 1) := by decide +kernel
theorem dL_feasts_18 : decode cL_feasts 18 = .ok (.aload_n 1, 1) := by decide +kernel
theorem dL_feasts_19 : decode cL_feasts 19 = .ok (.aload_n 2, 1) := by decide +kernel
theorem dL_feasts_20 : decode cL_feasts 20 = .ok (.iload 5, 2) := by decide +kernel
theorem dL_feasts_22 : decode cL_feasts 22 = .ok (.iload_n 3, 1) := by decide +kernel
theorem dL_feasts_23 : decode cL_feasts 23 = .ok (.invokestatic 27, 3) := by decide +kernel
theorem dL_feasts_26 : decode cL_feasts 26 = .ok (.ifCond .eq 10, 3) := by decide +kernel
theorem dL_feasts_29 : decode cL_feasts 29 = .ok (.iconst 1, 1) := by decide +kernel
theorem dL_feasts_30 : decode cL_feasts 30 = .ok (.iload 5, 2) := by decide +kernel
theorem dL_feasts_32 : decode cL_feasts 32 = .ok (.ishl, 1) := by decide +kernel
theorem dL_feasts_33 : decode cL_feasts 33 = .ok (.goto 4, 3) := by decide +kernel
theorem dL_feasts_36 : decode cL_feasts 36 = .ok (.iconst 0, 1) := by decide +kernel
theorem dL_feasts_37 : decode cL_feasts 37 = .ok (.ior, 1) := by decide +kernel
theorem dL_feasts_38 : decode cL_feasts 38 = .ok (.istore 4, 2) := by decide +kernel
theorem dL_feasts_40 : decode cL_feasts 40 = .ok (.iinc 5 1, 3) := by decide +kernel
theorem dL_feasts_43 : decode cL_feasts 43 = .ok (.goto (-37), 3) := by decide +kernel
theorem dL_feasts_46 : decode cL_feasts 46 = .ok (.iload 4, 2) := by decide +kernel
theorem dL_feasts_48 : decode cL_feasts 48 = .ok (.ireturn, 1) := by decide +kernel
theorem dL_of_0 : decode cL_of 0 = .ok (.iconst 0, 1) := by decide +kernel
theorem dL_of_1 : decode cL_of 1 = .ok (.istore_n 3, 1) := by decide +kernel
theorem dL_of_2 : decode cL_of 2 = .ok (.iconst 0, 1) := by decide +kernel
theorem dL_of_3 : decode cL_of 3 = .ok (.istore 4, 2) := by decide +kernel
theorem dL_of_5 : decode cL_of 5 = .ok (.iload 4, 2) := by decide +kernel
theorem dL_of_7 : decode cL_of 7 = .ok (.bipush 10, 2) := by decide +kernel
theorem dL_of_9 : decode cL_of 9 = .ok (.if_icmp .ge 37, 3) := by decide +kernel
theorem dL_of_12 : decode cL_of 12 = .ok (.iload_n 3, 1) := by decide +kernel
theorem dL_of_13 : decode cL_of 13 = .ok (.iload_n 1, 1) := by decide +kernel
theorem dL_of_14 : decode cL_of 14 = .ok (.iload 4, 2) := by decide +kernel
theorem dL_of_16 : decode cL_of 16 = .ok (.ishr, 1) := by decide +kernel
theorem dL_of_17 : decode cL_of 17 = .ok (.iconst 1, 1) := by decide +kernel
theorem dL_of_18 : decode cL_of 18 = .ok (.iand, 1) := by decide +kernel
theorem dL_of_19 : decode cL_of 19 = .ok (.iconst 1, 1) := by decide +kernel
theorem dL_of_20 : decode cL_of 20 = .ok (.if_icmp .ne 17, 3) := by decide +kernel
theorem dL_of_23 : decode cL_of 23 = .ok (.aload_n 0, 1) := by decide +kernel
theorem dL_of_24 : decode cL_of 24 = .ok (.iconst 4, 1) := by decide +kernel
theorem dL_of_25 : decode cL_of 25 = .ok (.iload 4, 2) := by decide +kernel
theorem dL_of_27 : decode cL_of 27 = .ok (.imul, 1) := by decide +kernel
theorem dL_of_28 : decode cL_of 28 = .ok (.iaload, 1) := by decide +kernel
theorem dL_of_29 : decode cL_of 29 = .ok (.iload_n 2, 1) := by decide +kernel
theorem dL_of_30 : decode cL_of 30 = .ok (.if_icmp .ne 7, 3) := by decide +kernel
theorem dL_of_33 : decode cL_of 33 = .ok (.iconst 1, 1) := by decide +kernel
theorem dL_of_34 : decode cL_of 34 = .ok (.goto 4, 3) := by decide +kernel
theorem dL_of_37 : decode cL_of 37 = .ok (.iconst 0, 1) := by decide +kernel
theorem dL_of_38 : decode cL_of 38 = .ok (.iadd, 1) := by decide +kernel
theorem dL_of_39 : decode cL_of 39 = .ok (.istore_n 3, 1) := by decide +kernel
theorem dL_of_40 : decode cL_of 40 = .ok (.iinc 4 1, 3) := by decide +kernel
theorem dL_of_43 : decode cL_of 43 = .ok (.goto (-38), 3) := by decide +kernel
theorem dL_of_46 : decode cL_of 46 = .ok (.iload_n 3, 1) := by decide +kernel
theorem dL_of_47 : decode cL_of 47 = .ok (.ireturn, 1) := by decide +kernel
set_option maxRecDepth 20000 in
theorem ggL_quarrel_L_feasts : GoodIn wsL_quarrel wsL_feasts := goodIn_r _ [4, 5, 6, 3, 7, 8, 9, 10, 11, 12, 13, 14, 15, 16, 17, 18, 19] (by decide +kernel) (by decide +kernel)
set_option maxRecDepth 20000 in
theorem gL_quarrel_L_feasts : GoodIn wsL_quarrel (va_wsS RL 31 yL_feasts wsL_feasts) := goodIn_app (goodIn_of _ (by decide +kernel)) ggL_quarrel_L_feasts
set_option maxRecDepth 20000 in
theorem ggL_quarrel_L_of : GoodIn wsL_quarrel wsL_of := goodIn_r _ [22] (by decide +kernel) (by decide +kernel)
set_option maxRecDepth 20000 in
theorem gL_quarrel_L_of : GoodIn wsL_quarrel (va_wsS RL 35 yL_of wsL_of) := goodIn_app (goodIn_of _ (by decide +kernel)) ggL_quarrel_L_of
theorem dL_quarrel_0 : decode cL_quarrel 0 = .ok (.aload_n 0, 1) := by decide +kernel
theorem dL_quarrel_1 : decode cL_quarrel 1 = .ok (.aload_n 1, 1) := by decide +kernel
theorem dL_quarrel_2 : decode cL_quarrel 2 = .ok (.aload_n 2, 1) := by decide +kernel
theorem dL_quarrel_3 : decode cL_quarrel 3 = .ok (.iload_n 3, 1) := by decide +kernel
theorem dL_quarrel_4 : decode cL_quarrel 4 = .ok (.invokestatic 31, 3) := by decide +kernel
theorem dL_quarrel_7 : decode cL_quarrel 7 = .ok (.istore 4, 2) := by decide +kernel
theorem dL_quarrel_9 : decode cL_quarrel 9 = .ok (.aload_n 1, 1) := by decide +kernel
theorem dL_quarrel_10 : decode cL_quarrel 10 = .ok (.iload 4, 2) := by decide +kernel
theorem dL_quarrel_12 : decode cL_quarrel 12 = .ok (.iconst 0, 1) := by decide +kernel
theorem dL_quarrel_13 : decode cL_quarrel 13 = .ok (.invokestatic 35, 3) := by decide +kernel
theorem dL_quarrel_16 : decode cL_quarrel 16 = .ok (.ifCond .le 17, 3) := by decide +kernel
theorem dL_quarrel_19 : decode cL_quarrel 19 = .ok (.aload_n 1, 1) := by decide +kernel
theorem dL_quarrel_20 : decode cL_quarrel 20 = .ok (.iload 4, 2) := by decide +kernel
theorem dL_quarrel_22 : decode cL_quarrel 22 = .ok (.iconst 1, 1) := by decide +kernel
theorem dL_quarrel_23 : decode cL_quarrel 23 = .ok (.invokestatic 35, 3) := by decide +kernel
theorem dL_quarrel_26 : decode cL_quarrel 26 = .ok (.ifCond .le 7, 3) := by decide +kernel
theorem dL_quarrel_29 : decode cL_quarrel 29 = .ok (.iconst 1, 1) := by decide +kernel
theorem dL_quarrel_30 : decode cL_quarrel 30 = .ok (.goto 4, 3) := by decide +kernel
theorem dL_quarrel_33 : decode cL_quarrel 33 = .ok (.iconst 0, 1) := by decide +kernel
theorem dL_quarrel_34 : decode cL_quarrel 34 = .ok (.ireturn, 1) := by decide +kernel
set_option maxRecDepth 20000 in
theorem ggL_quarrels_L_quarrel : GoodIn wsL_quarrels wsL_quarrel := goodIn_r _ [4, 5, 6, 3, 7, 8, 9, 10, 11, 12, 13, 14, 15, 16, 17, 18, 19, 20, 21, 22, 23, 24, 25] (by decide +kernel) (by decide +kernel)
set_option maxRecDepth 20000 in
theorem gL_quarrels_L_quarrel : GoodIn wsL_quarrels (va_wsS RL 38 yL_quarrel wsL_quarrel) := goodIn_app (goodIn_of _ (by decide +kernel)) ggL_quarrels_L_quarrel
theorem dL_quarrels_0 : decode cL_quarrels 0 = .ok (.iconst 0, 1) := by decide +kernel
theorem dL_quarrels_1 : decode cL_quarrels 1 = .ok (.istore 4, 2) := by decide +kernel
theorem dL_quarrels_3 : decode cL_quarrels 3 = .ok (.aload_n 2, 1) := by decide +kernel
theorem dL_quarrels_4 : decode cL_quarrels 4 = .ok (.iconst 2, 1) := by decide +kernel
theorem dL_quarrels_5 : decode cL_quarrels 5 = .ok (.iaload, 1) := by decide +kernel
theorem dL_quarrels_6 : decode cL_quarrels 6 = .ok (.istore 5, 2) := by decide +kernel
theorem dL_quarrels_8 : decode cL_quarrels 8 = .ok (.iload 5, 2) := by decide +kernel
theorem dL_quarrels_10 : decode cL_quarrels 10 = .ok (.aload_n 2, 1) := by decide +kernel
theorem dL_quarrels_11 : decode cL_quarrels 11 = .ok (.iconst 2, 1) := by decide +kernel
theorem dL_quarrels_12 : decode cL_quarrels 12 = .ok (.iaload, 1) := by decide +kernel
theorem dL_quarrels_13 : decode cL_quarrels 13 = .ok (.iload_n 3, 1) := by decide +kernel
theorem dL_quarrels_14 : decode cL_quarrels 14 = .ok (.iadd, 1) := by decide +kernel
theorem dL_quarrels_15 : decode cL_quarrels 15 = .ok (.if_icmp .ge 30, 3) := by decide +kernel
theorem dL_quarrels_18 : decode cL_quarrels 18 = .ok (.iload 4, 2) := by decide +kernel
theorem dL_quarrels_20 : decode cL_quarrels 20 = .ok (.aload_n 0, 1) := by decide +kernel
theorem dL_quarrels_21 : decode cL_quarrels 21 = .ok (.aload_n 1, 1) := by decide +kernel
theorem dL_quarrels_22 : decode cL_quarrels 22 = .ok (.aload_n 2, 1) := by decide +kernel
theorem dL_quarrels_23 : decode cL_quarrels 23 = .ok (.iload 5, 2) := by decide +kernel
theorem dL_quarrels_25 : decode cL_quarrels 25 = .ok (.invokestatic 38, 3) := by decide +kernel
theorem dL_quarrels_28 : decode cL_quarrels 28 = .ok (.ifCond .eq 7, 3) := by decide +kernel
theorem dL_quarrels_31 : decode cL_quarrels 31 = .ok (.iconst 1, 1) := by decide +kernel
theorem dL_quarrels_32 : decode cL_quarrels 32 = .ok (.goto 4, 3) := by decide +kernel
theorem dL_quarrels_35 : decode cL_quarrels 35 = .ok (.iconst 0, 1) := by decide +kernel
theorem dL_quarrels_36 : decode cL_quarrels 36 = .ok (.iadd, 1) := by decide +kernel
theorem dL_quarrels_37 : decode cL_quarrels 37 = .ok (.istore 4, 2) := by decide +kernel
theorem dL_quarrels_39 : decode cL_quarrels 39 = .ok (.iinc 5 1, 3) := by decide +kernel
theorem dL_quarrels_42 : decode cL_quarrels 42 = .ok (.goto (-34), 3) := by decide +kernel
theorem dL_quarrels_45 : decode cL_quarrels 45 = .ok (.iload 4, 2) := by decide +kernel
theorem dL_quarrels_47 : decode cL_quarrels 47 = .ok (.ireturn, 1) := by decide +kernel
set_option maxRecDepth 20000 in
theorem ggL_isAll_X4_shift : GoodIn wsL_isAll wsX4_shift := goodIn_r _ [5, 6, 71, 72, 73, 74, 75, 76, 77, 78, 79, 80, 81, 82, 83, 84, 85, 86] (by decide +kernel) (by decide +kernel)
set_option maxRecDepth 20000 in
theorem gL_isAll_X4_shift : GoodIn wsL_isAll (wsV RL 42 RX4 yX4_shift wsX4_shift) := goodIn_app (goodIn_of _ (by decide +kernel)) ggL_isAll_X4_shift
set_option maxRecDepth 20000 in
theorem ggL_isAll_X4_copiesPerDay : GoodIn wsL_isAll wsX4_copiesPerDay := goodIn_r _ [10, 6, 71, 72, 73, 74, 75, 76, 77, 78, 79, 80, 81, 82, 83, 84, 85, 86] (by decide +kernel) (by decide +kernel)
set_option maxRecDepth 20000 in
theorem gL_isAll_X4_copiesPerDay : GoodIn wsL_isAll (wsV RL 48 RX4 yX4_copiesPerDay wsX4_copiesPerDay) := goodIn_app (goodIn_of _ (by decide +kernel)) ggL_isAll_X4_copiesPerDay
set_option maxRecDepth 20000 in
theorem ggL_isAll_X4_today : GoodIn wsL_isAll wsX4_today := goodIn_r _ [14, 6, 71, 72, 73, 74, 75, 76, 77, 78, 79, 80, 81, 82, 83, 84, 85, 86] (by decide +kernel) (by decide +kernel)
set_option maxRecDepth 20000 in
theorem gL_isAll_X4_today : GoodIn wsL_isAll (wsV RL 51 RX4 yX4_today wsX4_today) := goodIn_app (goodIn_of _ (by decide +kernel)) ggL_isAll_X4_today
set_option maxRecDepth 20000 in
theorem ggL_isAll_X4_feastsKept : GoodIn wsL_isAll wsX4_feastsKept := goodIn_ca (goodIn_r _ [18, 19, 20, 21, 4, 22, 6, 23, 24, 25, 26, 27, 28, 29, 30, 31, 32, 33, 34, 87, 88, 89, 90, 91, 71, 72, 73, 74, 75, 76, 77, 78, 79, 80, 81, 82, 83, 84, 85, 86] (by decide +kernel) (by decide +kernel)) (goodIn_sub (fun _ h => List.mem_cons_of_mem _ (List.mem_append_right _ h)) (by decide +kernel))
set_option maxRecDepth 20000 in
theorem gL_isAll_X4_feastsKept : GoodIn wsL_isAll (wsV RL 54 RX4 yX4_feastsKept wsX4_feastsKept) := goodIn_app (goodIn_of _ (by decide +kernel)) ggL_isAll_X4_feastsKept
set_option maxRecDepth 20000 in
theorem ggL_isAll_X4_quarrelCount : GoodIn wsL_isAll wsX4_quarrelCount := goodIn_r _ [38, 6, 71, 72, 73, 74, 75, 76, 77, 78, 79, 80, 81, 82, 83, 84, 85, 86] (by decide +kernel) (by decide +kernel)
set_option maxRecDepth 20000 in
theorem gL_isAll_X4_quarrelCount : GoodIn wsL_isAll (wsV RL 58 RX4 yX4_quarrelCount wsX4_quarrelCount) := goodIn_app (goodIn_of _ (by decide +kernel)) ggL_isAll_X4_quarrelCount
set_option maxRecDepth 20000 in
theorem ggL_isAll_X4_copiesMade : GoodIn wsL_isAll wsX4_copiesMade := goodIn_r _ [42, 6, 71, 72, 73, 74, 75, 76, 77, 78, 79, 80, 81, 82, 83, 84, 85, 86] (by decide +kernel) (by decide +kernel)
set_option maxRecDepth 20000 in
theorem gL_isAll_X4_copiesMade : GoodIn wsL_isAll (wsV RL 61 RX4 yX4_copiesMade wsX4_copiesMade) := goodIn_app (goodIn_of _ (by decide +kernel)) ggL_isAll_X4_copiesMade
set_option maxRecDepth 20000 in
theorem ggL_isAll_X4_feastCount : GoodIn wsL_isAll wsX4_feastCount := goodIn_r _ [46, 6, 71, 72, 73, 74, 75, 76, 77, 78, 79, 80, 81, 82, 83, 84, 85, 86] (by decide +kernel) (by decide +kernel)
set_option maxRecDepth 20000 in
theorem gL_isAll_X4_feastCount : GoodIn wsL_isAll (wsV RL 64 RX4 yX4_feastCount wsX4_feastCount) := goodIn_app (goodIn_of _ (by decide +kernel)) ggL_isAll_X4_feastCount
set_option maxRecDepth 20000 in
theorem ggL_isAll_X4_gapCount : GoodIn wsL_isAll wsX4_gapCount := goodIn_ca (goodIn_r _ [50, 19, 20, 21, 4, 22, 6, 23, 24, 25, 26, 27, 28, 29, 30, 31, 32, 33, 34, 87, 88, 89, 90, 91, 71, 72, 73, 74, 75, 76, 77, 78, 79, 80, 81, 82, 83, 84, 85, 86] (by decide +kernel) (by decide +kernel)) (goodIn_sub (fun _ h => List.mem_cons_of_mem _ (List.mem_append_right _ h)) (by decide +kernel))
set_option maxRecDepth 20000 in
theorem gL_isAll_X4_gapCount : GoodIn wsL_isAll (wsV RL 67 RX4 yX4_gapCount wsX4_gapCount) := goodIn_app (goodIn_of _ (by decide +kernel)) ggL_isAll_X4_gapCount
set_option maxRecDepth 20000 in
theorem ggL_isAll_X4_gapDay : GoodIn wsL_isAll wsX4_gapDay := goodIn_ca (goodIn_r _ [54, 19, 20, 21, 4, 22, 6, 23, 24, 25, 26, 27, 28, 29, 30, 31, 32, 33, 34, 87, 88, 89, 90, 91, 71, 72, 73, 74, 75, 76, 77, 78, 79, 80, 81, 82, 83, 84, 85, 86] (by decide +kernel) (by decide +kernel)) (goodIn_sub (fun _ h => List.mem_cons_of_mem _ (List.mem_append_right _ h)) (by decide +kernel))
set_option maxRecDepth 20000 in
theorem gL_isAll_X4_gapDay : GoodIn wsL_isAll (wsV RL 70 RX4 yX4_gapDay wsX4_gapDay) := goodIn_app (goodIn_of _ (by decide +kernel)) ggL_isAll_X4_gapDay

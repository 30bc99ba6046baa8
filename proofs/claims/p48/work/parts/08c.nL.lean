theorem dL_isFeast_0 : decode cL_isFeast 0 = .ok (.iload 5, 2) := by decide +kernel
theorem dL_isFeast_2 : decode cL_isFeast 2 = .ok (.iconst 1, 1) := by decide +kernel
theorem dL_isFeast_3 : decode cL_isFeast 3 = .ok (.isub, 1) := by decide +kernel
theorem dL_isFeast_4 : decode cL_isFeast 4 = .ok (.aload_n 2, 1) := by decide +kernel
theorem dL_isFeast_5 : decode cL_isFeast 5 = .ok (.iconst 4, 1) := by decide +kernel
theorem dL_isFeast_6 : decode cL_isFeast 6 = .ok (.iload 4, 2) := by decide +kernel
theorem dL_isFeast_8 : decode cL_isFeast 8 = .ok (.imul, 1) := by decide +kernel
theorem dL_isFeast_9 : decode cL_isFeast 9 = .ok (.iaload, 1) := by decide +kernel
theorem dL_isFeast_10 : decode cL_isFeast 10 = .ok (.ifCond .ne 9, 3) := by decide +kernel
theorem dL_isFeast_13 : decode cL_isFeast 13 = .ok (.sipush 366, 3) := by decide +kernel
theorem dL_isFeast_16 : decode cL_isFeast 16 = .ok (.goto 6, 3) := by decide +kernel
theorem dL_isFeast_19 : decode cL_isFeast 19 = .ok (.sipush 336, 3) := by decide +kernel
theorem dL_isFeast_22 : decode cL_isFeast 22 = .ok (.imul, 1) := by decide +kernel
theorem dL_isFeast_23 : decode cL_isFeast 23 = .ok (.istore 6, 2) := by decide +kernel
theorem dL_isFeast_25 : decode cL_isFeast 25 = .ok (.iconst (-1), 1) := by decide +kernel
theorem dL_isFeast_26 : decode cL_isFeast 26 = .ok (.istore 7, 2) := by decide +kernel
theorem dL_isFeast_28 : decode cL_isFeast 28 = .ok (.iload 6, 2) := by decide +kernel
theorem dL_isFeast_30 : decode cL_isFeast 30 = .ok (.sipush 130, 3) := by decide +kernel
theorem dL_isFeast_33 : decode cL_isFeast 33 = .ok (.if_icmp .ge 7, 3) := by decide +kernel
theorem dL_isFeast_36 : decode cL_isFeast 36 = .ok (.iconst 0, 1) := by decide +kernel
theorem dL_isFeast_37 : decode cL_isFeast 37 = .ok (.goto 9, 3) := by decide +kernel
theorem dL_isFeast_40 : decode cL_isFeast 40 = .ok (.iload 6, 2) := by decide +kernel
theorem dL_isFeast_42 : decode cL_isFeast 42 = .ok (.sipush 130, 3) := by decide +kernel
theorem dL_isFeast_45 : decode cL_isFeast 45 = .ok (.isub, 1) := by decide +kernel
theorem dL_isFeast_46 : decode cL_isFeast 46 = .ok (.istore 8, 2) := by decide +kernel
theorem dL_isFeast_48 : decode cL_isFeast 48 = .ok (.iload 8, 2) := by decide +kernel
theorem dL_isFeast_50 : decode cL_isFeast 50 = .ok (.iload 6, 2) := by decide +kernel
theorem dL_isFeast_52 : decode cL_isFeast 52 = .ok (.sipush 400, 3) := by decide +kernel
theorem dL_isFeast_55 : decode cL_isFeast 55 = .ok (.iadd, 1) := by decide +kernel
theorem dL_isFeast_56 : decode cL_isFeast 56 = .ok (.if_icmp .ge 56, 3) := by decide +kernel
theorem dL_isFeast_59 : decode cL_isFeast 59 = .ok (.iload 7, 2) := by decide +kernel
theorem dL_isFeast_61 : decode cL_isFeast 61 = .ok (.ifCond .ge 41, 3) := by decide +kernel
theorem dL_isFeast_64 : decode cL_isFeast 64 = .ok (.aload_n 1, 1) := by decide +kernel
theorem dL_isFeast_65 : decode cL_isFeast 65 = .ok (.aload_n 2, 1) := by decide +kernel
theorem dL_isFeast_66 : decode cL_isFeast 66 = .ok (.iconst 4, 1) := by decide +kernel
theorem dL_isFeast_67 : decode cL_isFeast 67 = .ok (.iload 4, 2) := by decide +kernel
theorem dL_isFeast_69 : decode cL_isFeast 69 = .ok (.imul, 1) := by decide +kernel
theorem dL_isFeast_70 : decode cL_isFeast 70 = .ok (.iaload, 1) := by decide +kernel
theorem dL_isFeast_71 : decode cL_isFeast 71 = .ok (.iload 8, 2) := by decide +kernel
theorem dL_isFeast_73 : decode cL_isFeast 73 = .ok (.invokestatic 15, 3) := by decide +kernel
theorem dL_isFeast_76 : decode cL_isFeast 76 = .ok (.sipush 10000, 3) := by decide +kernel
theorem dL_isFeast_79 : decode cL_isFeast 79 = .ok (.idiv, 1) := by decide +kernel
theorem dL_isFeast_80 : decode cL_isFeast 80 = .ok (.iload 5, 2) := by decide +kernel
theorem dL_isFeast_82 : decode cL_isFeast 82 = .ok (.if_icmp .ne 20, 3) := by decide +kernel
theorem dL_isFeast_85 : decode cL_isFeast 85 = .ok (.aload_n 1, 1) := by decide +kernel
theorem dL_isFeast_86 : decode cL_isFeast 86 = .ok (.aload_n 2, 1) := by decide +kernel
theorem dL_isFeast_87 : decode cL_isFeast 87 = .ok (.iload 4, 2) := by decide +kernel
theorem dL_isFeast_89 : decode cL_isFeast 89 = .ok (.iload 8, 2) := by decide +kernel
theorem dL_isFeast_91 : decode cL_isFeast 91 = .ok (.invokestatic 23, 3) := by decide +kernel
theorem dL_isFeast_94 : decode cL_isFeast 94 = .ok (.ifCond .eq 8, 3) := by decide +kernel
theorem dL_isFeast_97 : decode cL_isFeast 97 = .ok (.iload 8, 2) := by decide +kernel
theorem dL_isFeast_99 : decode cL_isFeast 99 = .ok (.goto 5, 3) := by decide +kernel
theorem dL_isFeast_102 : decode cL_isFeast 102 = .ok (.iload 7, 2) := by decide +kernel
theorem dL_isFeast_104 : decode cL_isFeast 104 = .ok (.istore 7, 2) := by decide +kernel
theorem dL_isFeast_106 : decode cL_isFeast 106 = .ok (.iinc 8 1, 3) := by decide +kernel
theorem dL_isFeast_109 : decode cL_isFeast 109 = .ok (.goto (-61), 3) := by decide +kernel
theorem dL_isFeast_112 : decode cL_isFeast 112 = .ok (.iload 7, 2) := by decide +kernel
theorem dL_isFeast_114 : decode cL_isFeast 114 = .ok (.ifCond .lt 29, 3) := by decide +kernel
theorem dL_isFeast_117 : decode cL_isFeast 117 = .ok (.iload 7, 2) := by decide +kernel
theorem dL_isFeast_119 : decode cL_isFeast 119 = .ok (.bipush 7, 2) := by decide +kernel
theorem dL_isFeast_121 : decode cL_isFeast 121 = .ok (.irem, 1) := by decide +kernel
theorem dL_isFeast_122 : decode cL_isFeast 122 = .ok (.aload_n 2, 1) := by decide +kernel
theorem dL_isFeast_123 : decode cL_isFeast 123 = .ok (.iconst 4, 1) := by decide +kernel
theorem dL_isFeast_124 : decode cL_isFeast 124 = .ok (.iload 4, 2) := by decide +kernel
theorem dL_isFeast_126 : decode cL_isFeast 126 = .ok (.imul, 1) := by decide +kernel
theorem dL_isFeast_127 : decode cL_isFeast 127 = .ok (.iconst 3, 1) := by decide +kernel
theorem dL_isFeast_128 : decode cL_isFeast 128 = .ok (.iadd, 1) := by decide +kernel
theorem dL_isFeast_129 : decode cL_isFeast 129 = .ok (.iaload, 1) := by decide +kernel
theorem dL_isFeast_130 : decode cL_isFeast 130 = .ok (.if_icmp .ne 13, 3) := by decide +kernel
theorem dL_isFeast_133 : decode cL_isFeast 133 = .ok (.iload 7, 2) := by decide +kernel
theorem dL_isFeast_135 : decode cL_isFeast 135 = .ok (.aload_n 3, 1) := by decide +kernel
theorem dL_isFeast_136 : decode cL_isFeast 136 = .ok (.invokestatic 19, 3) := by decide +kernel
theorem dL_isFeast_139 : decode cL_isFeast 139 = .ok (.iadd, 1) := by decide +kernel
theorem dL_isFeast_140 : decode cL_isFeast 140 = .ok (.goto 5, 3) := by decide +kernel
theorem dL_isFeast_143 : decode cL_isFeast 143 = .ok (.iload 7, 2) := by decide +kernel
theorem dL_isFeast_145 : decode cL_isFeast 145 = .ok (.istore 8, 2) := by decide +kernel
theorem dL_isFeast_147 : decode cL_isFeast 147 = .ok (.aload_n 0, 1) := by decide +kernel
theorem dL_isFeast_148 : decode cL_isFeast 148 = .ok (.iload 4, 2) := by decide +kernel
theorem dL_isFeast_150 : decode cL_isFeast 150 = .ok (.iload 5, 2) := by decide +kernel
theorem dL_isFeast_152 : decode cL_isFeast 152 = .ok (.invokevirtual 119, 3) := by decide +kernel
theorem dL_isFeast_155 : decode cL_isFeast 155 = .ok (.iload 7, 2) := by decide +kernel
theorem dL_isFeast_157 : decode cL_isFeast 157 = .ok (.if_icmp .ne 20, 3) := by decide +kernel
theorem dL_isFeast_160 : decode cL_isFeast 160 = .ok (.aload_n 0, 1) := by decide +kernel
theorem dL_isFeast_161 : decode cL_isFeast 161 = .ok (.iload 4, 2) := by decide +kernel
theorem dL_isFeast_163 : decode cL_isFeast 163 = .ok (.iload 5, 2) := by decide +kernel
theorem dL_isFeast_165 : decode cL_isFeast 165 = .ok (.invokevirtual 122, 3) := by decide +kernel
theorem dL_isFeast_168 : decode cL_isFeast 168 = .ok (.iload 8, 2) := by decide +kernel
theorem dL_isFeast_170 : decode cL_isFeast 170 = .ok (.if_icmp .ne 7, 3) := by decide +kernel
theorem dL_isFeast_173 : decode cL_isFeast 173 = .ok (.iconst 1, 1) := by decide +kernel
theorem dL_isFeast_174 : decode cL_isFeast 174 = .ok (.goto 4, 3) := by decide +kernel
theorem dL_isFeast_177 : decode cL_isFeast 177 = .ok (.iconst 0, 1) := by decide +kernel
theorem dL_isFeast_178 : decode cL_isFeast 178 = .ok (.ireturn, 1) := by decide +kernel
set_option maxRecDepth 20000 in
theorem ggL_areDays_L_feasts : GoodIn wsL_areDays wsL_feasts := goodIn_r _ [4, 5, 6, 3, 7, 8, 9, 10, 11, 12, 13, 14, 15, 16, 17, 18, 19] (by decide +kernel) (by decide +kernel)
set_option maxRecDepth 20000 in
theorem gL_areDays_L_feasts : GoodIn wsL_areDays (va_wsS RL 31 yL_feasts wsL_feasts) := goodIn_app (goodIn_of _ (by decide +kernel)) ggL_areDays_L_feasts
set_option maxRecDepth 20000 in
theorem ggL_areDays_X4_feastsOn : GoodIn wsL_areDays wsX4_feastsOn := goodIn_ca (goodIn_r _ [24, 25, 26, 27, 28, 23, 29, 30, 31, 32, 33, 34, 35, 36, 37, 38, 39, 40, 41, 42, 43, 44, 45, 46, 47, 48, 49, 50, 51, 52, 53, 54, 55, 56, 57, 58, 59, 60, 61, 62, 63, 64, 65, 66, 67, 68, 69, 70, 71, 72, 73, 74, 75, 76, 77, 78, 79, 80, 81, 82, 83, 84, 85, 86, 87, 88, 89, 90, 91, 92, 93, 94, 95, 135, 136, 137, 138, 139, 140, 141, 142, 143, 144, 145, 146, 147, 148, 149, 150, 151, 152, 153, 154, 155, 156, 157, 158, 159] (by decide +kernel) (by decide +kernel)) (goodIn_sub (fun _ h => List.mem_cons_of_mem _ (List.mem_append_left _ (List.mem_append_right _ h))) (by decide +kernel))
set_option maxRecDepth 20000 in
theorem gL_areDays_X4_feastsOn : GoodIn wsL_areDays (wsV RL 125 RX4 yX4_feastsOn wsX4_feastsOn) := goodIn_app (goodIn_of _ (by decide +kernel)) ggL_areDays_X4_feastsOn
set_option maxRecDepth 20000 in
theorem ggL_areDays_X4_isQuarrel : GoodIn wsL_areDays wsX4_isQuarrel := goodIn_ca (goodIn_r _ [99, 27, 28, 23, 29, 30, 31, 100, 101, 102, 103, 25, 26, 32, 33, 34, 35, 36, 37, 38, 39, 40, 41, 42, 43, 44, 45, 46, 47, 48, 49, 50, 51, 52, 53, 54, 55, 56, 57, 58, 59, 60, 61, 62, 63, 64, 65, 66, 67, 68, 69, 70, 71, 72, 73, 74, 75, 76, 77, 78, 79, 80, 81, 82, 83, 84, 85, 86, 87, 88, 89, 90, 91, 92, 93, 94, 95, 104, 105, 106, 107, 108, 109, 110, 111, 135, 136, 137, 138, 139, 140, 141, 142, 143, 144, 145, 146, 147, 148, 149, 150, 151, 152, 153, 154, 155, 156, 157, 158, 159] (by decide +kernel) (by decide +kernel)) (goodIn_sub (fun _ h => List.mem_cons_of_mem _ (List.mem_append_left _ (List.mem_append_right _ h))) (by decide +kernel))
set_option maxRecDepth 20000 in
theorem gL_areDays_X4_isQuarrel : GoodIn wsL_areDays (wsV RL 128 RX4 yX4_isQuarrel wsX4_isQuarrel) := goodIn_app (goodIn_of _ (by decide +kernel)) ggL_areDays_X4_isQuarrel
set_option maxRecDepth 20000 in
theorem ggL_areDays_L_quarrel : GoodIn wsL_areDays wsL_quarrel := goodIn_r _ [114, 1, 2, 3, 4, 5, 6, 7, 8, 9, 10, 11, 12, 13, 14, 15, 16, 17, 18, 19, 115, 116, 117] (by decide +kernel) (by decide +kernel)
set_option maxRecDepth 20000 in
theorem gL_areDays_L_quarrel : GoodIn wsL_areDays (va_wsS RL 38 yL_quarrel wsL_quarrel) := goodIn_app (goodIn_of _ (by decide +kernel)) ggL_areDays_L_quarrel
set_option maxRecDepth 20000 in
theorem ggL_areDays_X4_isKept : GoodIn wsL_areDays wsX4_isKept := goodIn_ca (goodIn_ca (goodIn_r _ [121, 25, 122, 123, 124, 23, 125, 126, 127, 128, 129, 130, 27, 28, 29, 30, 31, 131, 132, 133, 35, 134, 39, 40, 41, 42, 43, 44, 45, 46, 47, 48, 49, 50, 51, 52, 53, 54, 55, 56, 57, 58, 59, 60, 61, 62, 63, 64, 65, 66, 67, 68, 69, 70, 71, 72, 73, 74, 75, 76, 77, 78, 79, 80, 81, 82, 83, 84, 85, 86, 87, 88, 89, 90, 91, 92, 93, 94, 95, 135, 136, 137, 138, 139, 140, 141, 142, 143, 144, 145, 146, 147, 148, 149, 150, 151, 152, 153, 154, 155, 156, 157, 158, 159] (by decide +kernel) (by decide +kernel)) (goodIn_sub (fun _ h => List.mem_cons_of_mem _ (List.mem_append_right _ h)) (by decide +kernel))) (goodIn_sub (fun _ h => List.mem_cons_of_mem _ (List.mem_append_left _ (List.mem_append_right _ h))) (by decide +kernel))
set_option maxRecDepth 20000 in
theorem gL_areDays_X4_isKept : GoodIn wsL_areDays (wsV RL 132 RX4 yX4_isKept wsX4_isKept) := goodIn_app (goodIn_of _ (by decide +kernel)) ggL_areDays_X4_isKept
theorem dL_areDays_0 : decode cL_areDays 0 = .ok (.aload_n 1, 1) := by decide +kernel
theorem dL_areDays_1 : decode cL_areDays 1 = .ok (.aload_n 2, 1) := by decide +kernel
theorem dL_areDays_2 : decode cL_areDays 2 = .ok (.aload_n 3, 1) := by decide +kernel
theorem dL_areDays_3 : decode cL_areDays 3 = .ok (.iload 4, 2) := by decide +kernel
theorem dL_areDays_5 : decode cL_areDays 5 = .ok (.invokestatic 31, 3) := by decide +kernel
theorem dL_areDays_8 : decode cL_areDays 8 = .ok (.istore 5, 2) := by decide +kernel
theorem dL_areDays_10 : decode cL_areDays 10 = .ok (.aload_n 0, 1) := by decide +kernel
theorem dL_areDays_11 : decode cL_areDays 11 = .ok (.iload 4, 2) := by decide +kernel
theorem dL_areDays_13 : decode cL_areDays 13 = .ok (.invokevirtual 125, 3) := by decide +kernel
theorem dL_areDays_16 : decode cL_areDays 16 = .ok (.iload 5, 2) := by decide +kernel
theorem dL_areDays_18 : decode cL_areDays 18 = .ok (.if_icmp .ne 24, 3) := by decide +kernel
theorem dL_areDays_21 : decode cL_areDays 21 = .ok (.aload_n 0, 1) := by decide +kernel
theorem dL_areDays_22 : decode cL_areDays 22 = .ok (.iload 4, 2) := by decide +kernel
theorem dL_areDays_24 : decode cL_areDays 24 = .ok (.invokevirtual 128, 3) := by decide +kernel
theorem dL_areDays_27 : decode cL_areDays 27 = .ok (.aload_n 1, 1) := by decide +kernel
theorem dL_areDays_28 : decode cL_areDays 28 = .ok (.aload_n 2, 1) := by decide +kernel
theorem dL_areDays_29 : decode cL_areDays 29 = .ok (.aload_n 3, 1) := by decide +kernel
theorem dL_areDays_30 : decode cL_areDays 30 = .ok (.iload 4, 2) := by decide +kernel
theorem dL_areDays_32 : decode cL_areDays 32 = .ok (.invokestatic 38, 3) := by decide +kernel
theorem dL_areDays_35 : decode cL_areDays 35 = .ok (.if_icmp .ne 7, 3) := by decide +kernel
theorem dL_areDays_38 : decode cL_areDays 38 = .ok (.iconst 1, 1) := by decide +kernel
theorem dL_areDays_39 : decode cL_areDays 39 = .ok (.goto 4, 3) := by decide +kernel
theorem dL_areDays_42 : decode cL_areDays 42 = .ok (.iconst 0, 1) := by decide +kernel
theorem dL_areDays_43 : decode cL_areDays 43 = .ok (.istore 6, 2) := by decide +kernel
theorem dL_areDays_45 : decode cL_areDays 45 = .ok (.iconst 0, 1) := by decide +kernel
theorem dL_areDays_46 : decode cL_areDays 46 = .ok (.istore 7, 2) := by decide +kernel
theorem dL_areDays_48 : decode cL_areDays 48 = .ok (.iload 7, 2) := by decide +kernel
theorem dL_areDays_50 : decode cL_areDays 50 = .ok (.aload_n 3, 1) := by decide +kernel
theorem dL_areDays_51 : decode cL_areDays 51 = .ok (.bipush 7, 2) := by decide +kernel
theorem dL_areDays_53 : decode cL_areDays 53 = .ok (.iaload, 1) := by decide +kernel
theorem dL_areDays_54 : decode cL_areDays 54 = .ok (.if_icmp .ge 48, 3) := by decide +kernel
theorem dL_areDays_57 : decode cL_areDays 57 = .ok (.iload 6, 2) := by decide +kernel
theorem dL_areDays_59 : decode cL_areDays 59 = .ok (.ifCond .eq 34, 3) := by decide +kernel
theorem dL_areDays_62 : decode cL_areDays 62 = .ok (.aload_n 0, 1) := by decide +kernel
theorem dL_areDays_63 : decode cL_areDays 63 = .ok (.iload 7, 2) := by decide +kernel
theorem dL_areDays_65 : decode cL_areDays 65 = .ok (.iload 4, 2) := by decide +kernel
theorem dL_areDays_67 : decode cL_areDays 67 = .ok (.invokevirtual 132, 3) := by decide +kernel
theorem dL_areDays_70 : decode cL_areDays 70 = .ok (.iload 5, 2) := by decide +kernel
theorem dL_areDays_72 : decode cL_areDays 72 = .ok (.iload 7, 2) := by decide +kernel
theorem dL_areDays_74 : decode cL_areDays 74 = .ok (.ishr, 1) := by decide +kernel
theorem dL_areDays_75 : decode cL_areDays 75 = .ok (.iconst 1, 1) := by decide +kernel
theorem dL_areDays_76 : decode cL_areDays 76 = .ok (.iand, 1) := by decide +kernel
theorem dL_areDays_77 : decode cL_areDays 77 = .ok (.iconst 1, 1) := by decide +kernel
theorem dL_areDays_78 : decode cL_areDays 78 = .ok (.if_icmp .ne 7, 3) := by decide +kernel
theorem dL_areDays_81 : decode cL_areDays 81 = .ok (.iconst 1, 1) := by decide +kernel
theorem dL_areDays_82 : decode cL_areDays 82 = .ok (.goto 4, 3) := by decide +kernel
theorem dL_areDays_85 : decode cL_areDays 85 = .ok (.iconst 0, 1) := by decide +kernel
theorem dL_areDays_86 : decode cL_areDays 86 = .ok (.if_icmp .ne 7, 3) := by decide +kernel
theorem dL_areDays_89 : decode cL_areDays 89 = .ok (.iconst 1, 1) := by decide +kernel
theorem dL_areDays_90 : decode cL_areDays 90 = .ok (.goto 4, 3) := by decide +kernel
theorem dL_areDays_93 : decode cL_areDays 93 = .ok (.iconst 0, 1) := by decide +kernel
theorem dL_areDays_94 : decode cL_areDays 94 = .ok (.istore 6, 2) := by decide +kernel
theorem dL_areDays_96 : decode cL_areDays 96 = .ok (.iinc 7 1, 3) := by decide +kernel
theorem dL_areDays_99 : decode cL_areDays 99 = .ok (.goto (-51), 3) := by decide +kernel
theorem dL_areDays_102 : decode cL_areDays 102 = .ok (.iload 6, 2) := by decide +kernel
theorem dL_areDays_104 : decode cL_areDays 104 = .ok (.ireturn, 1) := by decide +kernel
set_option maxRecDepth 20000 in
theorem ggL_isAhead_L_kept : GoodIn wsL_isAhead wsL_kept := goodIn_r _ [4, 5, 6, 3, 7, 8, 9, 10, 11, 12, 13, 14, 15, 16] (by decide +kernel) (by decide +kernel)
set_option maxRecDepth 20000 in
theorem gL_isAhead_L_kept : GoodIn wsL_isAhead (va_wsS RL 27 yL_kept wsL_kept) := goodIn_app (goodIn_of _ (by decide +kernel)) ggL_isAhead_L_kept
set_option maxRecDepth 20000 in
theorem ggL_isAhead_X4_nextDay : GoodIn wsL_isAhead wsX4_nextDay := goodIn_ca (goodIn_r _ [21, 22, 23, 24, 25, 20, 26, 27, 28, 29, 30, 31, 32, 33, 34, 35, 36, 37, 38, 39, 40, 41, 42, 43, 44, 45, 46, 47, 48, 49, 50, 51, 52, 53, 54, 55, 56, 57, 58, 59, 60, 61, 62, 63, 64, 65, 66, 67, 68, 69, 70, 71, 72, 73, 74, 75, 76, 77, 78, 79, 80, 81, 82, 83, 84, 85, 86, 87, 88, 89, 90, 91, 92, 93, 143, 144, 145, 146, 147, 148, 149, 150, 151, 152, 153, 154, 155, 156, 157, 158, 159, 160, 161, 162, 163, 164, 165, 166, 167] (by decide +kernel) (by decide +kernel)) (goodIn_sub (fun _ h => List.mem_cons_of_mem _ (List.mem_append_left _ (List.mem_append_right _ h))) (by decide +kernel))
set_option maxRecDepth 20000 in
theorem gL_isAhead_X4_nextDay : GoodIn wsL_isAhead (wsV RL 136 RX4 yX4_nextDay wsX4_nextDay) := goodIn_app (goodIn_of _ (by decide +kernel)) ggL_isAhead_X4_nextDay
set_option maxRecDepth 20000 in
theorem ggL_isAhead_X4_daysUntilMeeting : GoodIn wsL_isAhead wsX4_daysUntilMeeting := goodIn_ca (goodIn_ca (goodIn_r _ [97, 98, 99, 22, 23, 24, 25, 20, 26, 27, 28, 29, 30, 31, 100, 101, 102, 35, 103, 37, 38, 39, 40, 41, 42, 43, 44, 45, 46, 47, 48, 49, 50, 51, 52, 53, 54, 55, 56, 57, 58, 59, 60, 61, 62, 63, 64, 65, 66, 67, 68, 69, 70, 71, 72, 73, 74, 75, 76, 77, 78, 79, 80, 81, 82, 83, 84, 85, 86, 87, 88, 89, 90, 91, 92, 93, 104, 33, 34, 36, 143, 144, 145, 146, 147, 148, 149, 150, 151, 152, 153, 154, 155, 156, 157, 158, 159, 160, 161, 162, 163, 164, 165, 166, 167] (by decide +kernel) (by decide +kernel)) (goodIn_sub (fun _ h => List.mem_cons_of_mem _ (List.mem_append_right _ h)) (by decide +kernel))) (goodIn_sub (fun _ h => List.mem_cons_of_mem _ (List.mem_append_left _ (List.mem_append_right _ h))) (by decide +kernel))
set_option maxRecDepth 20000 in
theorem gL_isAhead_X4_daysUntilMeeting : GoodIn wsL_isAhead (wsV RL 139 RX4 yX4_daysUntilMeeting wsX4_daysUntilMeeting) := goodIn_app (goodIn_of _ (by decide +kernel)) ggL_isAhead_X4_daysUntilMeeting
set_option maxRecDepth 20000 in
theorem ggL_isAhead_X4_quarrelsWithin : GoodIn wsL_isAhead wsX4_quarrelsWithin := goodIn_ca (goodIn_r _ [108, 22, 109, 110, 20, 111, 98, 99, 112, 113, 114, 115, 116, 117, 118, 119, 35, 120, 121, 122, 37, 38, 39, 40, 41, 42, 43, 44, 45, 46, 47, 48, 49, 50, 51, 52, 53, 54, 55, 56, 57, 58, 59, 60, 61, 62, 63, 64, 65, 66, 67, 68, 69, 70, 71, 72, 73, 74, 75, 76, 77, 78, 79, 80, 81, 82, 83, 84, 85, 86, 87, 88, 89, 90, 91, 92, 93, 123, 124, 125, 126, 127, 128, 129, 130, 143, 144, 145, 146, 147, 148, 149, 150, 151, 152, 153, 154, 155, 156, 157, 158, 159, 160, 161, 162, 163, 164, 165, 166, 167] (by decide +kernel) (by decide +kernel)) (goodIn_sub (fun _ h => List.mem_cons_of_mem _ (List.mem_append_right _ h)) (by decide +kernel))
set_option maxRecDepth 20000 in
theorem gL_isAhead_X4_quarrelsWithin : GoodIn wsL_isAhead (wsV RL 142 RX4 yX4_quarrelsWithin wsX4_quarrelsWithin) := goodIn_app (goodIn_of _ (by decide +kernel)) ggL_isAhead_X4_quarrelsWithin
set_option maxRecDepth 20000 in
theorem ggL_isAhead_L_quarrels : GoodIn wsL_isAhead wsL_quarrels := goodIn_r _ [133, 134, 135, 3, 136, 137, 138, 139, 1, 2, 4, 5, 6, 7, 8, 9, 10, 11, 12, 13, 14, 15, 16, 140, 141, 142] (by decide +kernel) (by decide +kernel)
set_option maxRecDepth 20000 in
theorem gL_isAhead_L_quarrels : GoodIn wsL_isAhead (va_wsS RL 145 yL_quarrels wsL_quarrels) := goodIn_app (goodIn_of _ (by decide +kernel)) ggL_isAhead_L_quarrels
theorem dL_isAhead_0 : decode cL_isAhead 0 = .ok (.iconst (-1), 1) := by decide +kernel
theorem dL_isAhead_1 : decode cL_isAhead 1 = .ok (.istore 7, 2) := by decide +kernel
theorem dL_isAhead_3 : decode cL_isAhead 3 = .ok (.aload_n 3, 1) := by decide +kernel
theorem dL_isAhead_4 : decode cL_isAhead 4 = .ok (.iconst 2, 1) := by decide +kernel
theorem dL_isAhead_5 : decode cL_isAhead 5 = .ok (.iaload, 1) := by decide +kernel
theorem dL_isAhead_6 : decode cL_isAhead 6 = .ok (.sipush 799, 3) := by decide +kernel
theorem dL_isAhead_9 : decode cL_isAhead 9 = .ok (.iadd, 1) := by decide +kernel
theorem dL_isAhead_10 : decode cL_isAhead 10 = .ok (.istore 8, 2) := by decide +kernel
theorem dL_isAhead_12 : decode cL_isAhead 12 = .ok (.iload 8, 2) := by decide +kernel
theorem dL_isAhead_14 : decode cL_isAhead 14 = .ok (.aload_n 3, 1) := by decide +kernel
theorem dL_isAhead_15 : decode cL_isAhead 15 = .ok (.iconst 2, 1) := by decide +kernel
theorem dL_isAhead_16 : decode cL_isAhead 16 = .ok (.iaload, 1) := by decide +kernel
theorem dL_isAhead_17 : decode cL_isAhead 17 = .ok (.if_icmp .lt 31, 3) := by decide +kernel
theorem dL_isAhead_20 : decode cL_isAhead 20 = .ok (.aload_n 1, 1) := by decide +kernel
theorem dL_isAhead_21 : decode cL_isAhead 21 = .ok (.aload_n 2, 1) := by decide +kernel
theorem dL_isAhead_22 : decode cL_isAhead 22 = .ok (.aload_n 3, 1) := by decide +kernel
theorem dL_isAhead_23 : decode cL_isAhead 23 = .ok (.iload 4, 2) := by decide +kernel
theorem dL_isAhead_25 : decode cL_isAhead 25 = .ok (.iload 8, 2) := by decide +kernel
theorem dL_isAhead_27 : decode cL_isAhead 27 = .ok (.invokestatic 27, 3) := by decide +kernel
theorem dL_isAhead_30 : decode cL_isAhead 30 = .ok (.ifCond .eq 8, 3) := by decide +kernel
theorem dL_isAhead_33 : decode cL_isAhead 33 = .ok (.iload 8, 2) := by decide +kernel
theorem dL_isAhead_35 : decode cL_isAhead 35 = .ok (.goto 5, 3) := by decide +kernel
theorem dL_isAhead_38 : decode cL_isAhead 38 = .ok (.iload 7, 2) := by decide +kernel
theorem dL_isAhead_40 : decode cL_isAhead 40 = .ok (.istore 7, 2) := by decide +kernel
theorem dL_isAhead_42 : decode cL_isAhead 42 = .ok (.iinc 8 (-1), 3) := by decide +kernel
theorem dL_isAhead_45 : decode cL_isAhead 45 = .ok (.goto (-33), 3) := by decide +kernel
theorem dL_isAhead_48 : decode cL_isAhead 48 = .ok (.iconst (-1), 1) := by decide +kernel
theorem dL_isAhead_49 : decode cL_isAhead 49 = .ok (.istore 8, 2) := by decide +kernel
theorem dL_isAhead_51 : decode cL_isAhead 51 = .ok (.sipush 2000, 3) := by decide +kernel
theorem dL_isAhead_54 : decode cL_isAhead 54 = .ok (.istore 9, 2) := by decide +kernel
theorem dL_isAhead_56 : decode cL_isAhead 56 = .ok (.iload 9, 2) := by decide +kernel
theorem dL_isAhead_58 : decode cL_isAhead 58 = .ok (.ifCond .lt 59, 3) := by decide +kernel
theorem dL_isAhead_61 : decode cL_isAhead 61 = .ok (.iload 4, 2) := by decide +kernel
theorem dL_isAhead_63 : decode cL_isAhead 63 = .ok (.iload 5, 2) := by decide +kernel
theorem dL_isAhead_65 : decode cL_isAhead 65 = .ok (.if_icmp .eq 52, 3) := by decide +kernel
theorem dL_isAhead_68 : decode cL_isAhead 68 = .ok (.aload_n 1, 1) := by decide +kernel
theorem dL_isAhead_69 : decode cL_isAhead 69 = .ok (.aload_n 2, 1) := by decide +kernel
theorem dL_isAhead_70 : decode cL_isAhead 70 = .ok (.aload_n 3, 1) := by decide +kernel
theorem dL_isAhead_71 : decode cL_isAhead 71 = .ok (.iload 4, 2) := by decide +kernel
theorem dL_isAhead_73 : decode cL_isAhead 73 = .ok (.aload_n 3, 1) := by decide +kernel
theorem dL_isAhead_74 : decode cL_isAhead 74 = .ok (.iconst 2, 1) := by decide +kernel
theorem dL_isAhead_75 : decode cL_isAhead 75 = .ok (.iaload, 1) := by decide +kernel
theorem dL_isAhead_76 : decode cL_isAhead 76 = .ok (.iload 9, 2) := by decide +kernel
theorem dL_isAhead_78 : decode cL_isAhead 78 = .ok (.iadd, 1) := by decide +kernel
theorem dL_isAhead_79 : decode cL_isAhead 79 = .ok (.invokestatic 27, 3) := by decide +kernel
theorem dL_isAhead_82 : decode cL_isAhead 82 = .ok (.ifCond .eq 25, 3) := by decide +kernel
theorem dL_isAhead_85 : decode cL_isAhead 85 = .ok (.aload_n 1, 1) := by decide +kernel
theorem dL_isAhead_86 : decode cL_isAhead 86 = .ok (.aload_n 2, 1) := by decide +kernel
theorem dL_isAhead_87 : decode cL_isAhead 87 = .ok (.aload_n 3, 1) := by decide +kernel
theorem dL_isAhead_88 : decode cL_isAhead 88 = .ok (.iload 5, 2) := by decide +kernel
theorem dL_isAhead_90 : decode cL_isAhead 90 = .ok (.aload_n 3, 1) := by decide +kernel
theorem dL_isAhead_91 : decode cL_isAhead 91 = .ok (.iconst 2, 1) := by decide +kernel
theorem dL_isAhead_92 : decode cL_isAhead 92 = .ok (.iaload, 1) := by decide +kernel
theorem dL_isAhead_93 : decode cL_isAhead 93 = .ok (.iload 9, 2) := by decide +kernel
theorem dL_isAhead_95 : decode cL_isAhead 95 = .ok (.iadd, 1) := by decide +kernel
theorem dL_isAhead_96 : decode cL_isAhead 96 = .ok (.invokestatic 27, 3) := by decide +kernel
theorem dL_isAhead_99 : decode cL_isAhead 99 = .ok (.ifCond .eq 8, 3) := by decide +kernel
theorem dL_isAhead_102 : decode cL_isAhead 102 = .ok (.iload 9, 2) := by decide +kernel
theorem dL_isAhead_104 : decode cL_isAhead 104 = .ok (.goto 5, 3) := by decide +kernel
theorem dL_isAhead_107 : decode cL_isAhead 107 = .ok (.iload 8, 2) := by decide +kernel
theorem dL_isAhead_109 : decode cL_isAhead 109 = .ok (.istore 8, 2) := by decide +kernel
theorem dL_isAhead_111 : decode cL_isAhead 111 = .ok (.iinc 9 (-1), 3) := by decide +kernel
theorem dL_isAhead_114 : decode cL_isAhead 114 = .ok (.goto (-58), 3) := by decide +kernel
theorem dL_isAhead_117 : decode cL_isAhead 117 = .ok (.aload_n 0, 1) := by decide +kernel
theorem dL_isAhead_118 : decode cL_isAhead 118 = .ok (.iload 4, 2) := by decide +kernel
theorem dL_isAhead_120 : decode cL_isAhead 120 = .ok (.invokevirtual 136, 3) := by decide +kernel
theorem dL_isAhead_123 : decode cL_isAhead 123 = .ok (.iload 7, 2) := by decide +kernel
theorem dL_isAhead_125 : decode cL_isAhead 125 = .ok (.if_icmp .ne 44, 3) := by decide +kernel
theorem dL_isAhead_128 : decode cL_isAhead 128 = .ok (.iload 4, 2) := by decide +kernel
theorem dL_isAhead_130 : decode cL_isAhead 130 = .ok (.iload 5, 2) := by decide +kernel
theorem dL_isAhead_132 : decode cL_isAhead 132 = .ok (.if_icmp .eq 16, 3) := by decide +kernel
theorem dL_isAhead_135 : decode cL_isAhead 135 = .ok (.aload_n 0, 1) := by decide +kernel
theorem dL_isAhead_136 : decode cL_isAhead 136 = .ok (.iload 4, 2) := by decide +kernel
theorem dL_isAhead_138 : decode cL_isAhead 138 = .ok (.iload 5, 2) := by decide +kernel
theorem dL_isAhead_140 : decode cL_isAhead 140 = .ok (.invokevirtual 139, 3) := by decide +kernel
theorem dL_isAhead_143 : decode cL_isAhead 143 = .ok (.iload 8, 2) := by decide +kernel
theorem dL_isAhead_145 : decode cL_isAhead 145 = .ok (.if_icmp .ne 24, 3) := by decide +kernel
theorem dL_isAhead_148 : decode cL_isAhead 148 = .ok (.aload_n 0, 1) := by decide +kernel
theorem dL_isAhead_149 : decode cL_isAhead 149 = .ok (.iload 6, 2) := by decide +kernel
theorem dL_isAhead_151 : decode cL_isAhead 151 = .ok (.invokevirtual 142, 3) := by decide +kernel
theorem dL_isAhead_154 : decode cL_isAhead 154 = .ok (.aload_n 1, 1) := by decide +kernel
theorem dL_isAhead_155 : decode cL_isAhead 155 = .ok (.aload_n 2, 1) := by decide +kernel
theorem dL_isAhead_156 : decode cL_isAhead 156 = .ok (.aload_n 3, 1) := by decide +kernel
theorem dL_isAhead_157 : decode cL_isAhead 157 = .ok (.iload 6, 2) := by decide +kernel
theorem dL_isAhead_159 : decode cL_isAhead 159 = .ok (.invokestatic 145, 3) := by decide +kernel
theorem dL_isAhead_162 : decode cL_isAhead 162 = .ok (.if_icmp .ne 7, 3) := by decide +kernel
theorem dL_isAhead_165 : decode cL_isAhead 165 = .ok (.iconst 1, 1) := by decide +kernel
theorem dL_isAhead_166 : decode cL_isAhead 166 = .ok (.goto 4, 3) := by decide +kernel
theorem dL_isAhead_169 : decode cL_isAhead 169 = .ok (.iconst 0, 1) := by decide +kernel
theorem dL_isAhead_170 : decode cL_isAhead 170 = .ok (.ireturn, 1) := by decide +kernel
set_option maxRecDepth 20000 in
theorem ggL_isBest_L_quarrels : GoodIn wsL_isBest wsL_quarrels := goodIn_r _ [4, 5, 6, 3, 7, 8, 9, 10, 11, 12, 13, 14, 15, 16, 17, 18, 19, 20, 21, 22, 23, 24, 25, 26, 27, 28] (by decide +kernel) (by decide +kernel)
set_option maxRecDepth 20000 in
theorem gL_isBest_L_quarrels : GoodIn wsL_isBest (va_wsS RL 145 yL_quarrels wsL_quarrels) := goodIn_app (goodIn_of _ (by decide +kernel)) ggL_isBest_L_quarrels
set_option maxRecDepth 20000 in
theorem ggL_isBest_X4_bestBarredWeekday : GoodIn wsL_isBest wsX4_bestBarredWeekday := goodIn_ca (goodIn_r _ [33, 34, 35, 36, 37, 32, 38, 39, 40, 41, 42, 43, 44, 45, 46, 47, 48, 49, 50, 51, 52, 53, 54, 55, 56, 57, 58, 59, 60, 61, 62, 63, 64, 65, 66, 67, 68, 69, 70, 71, 72, 73, 74, 75, 76, 77, 78, 79, 80, 81, 82, 83, 84, 85, 86, 87, 88, 89, 90, 91, 92, 93, 94, 95, 96, 97, 98, 99, 100, 101, 102, 103, 104, 105, 106, 107, 108, 109, 110, 111, 112, 113, 114, 115, 116, 117, 118, 119, 120, 121, 122, 123, 124, 125, 126, 127, 128, 129, 130, 131, 132, 133, 134, 135, 136, 137, 138, 139, 140, 141, 142, 143, 144, 145] (by decide +kernel) (by decide +kernel)) (goodIn_sub (fun _ h => List.mem_cons_of_mem _ (List.mem_append_right _ h)) (by decide +kernel))
set_option maxRecDepth 20000 in
theorem gL_isBest_X4_bestBarredWeekday : GoodIn wsL_isBest (wsV RL 148 RX4 yX4_bestBarredWeekday wsX4_bestBarredWeekday) := goodIn_app (goodIn_of _ (by decide +kernel)) ggL_isBest_X4_bestBarredWeekday
theorem dL_isBest_0 : decode cL_isBest 0 = .ok (.aload_n 2, 1) := by decide +kernel
theorem dL_isBest_1 : decode cL_isBest 1 = .ok (.iconst 4, 1) := by decide +kernel
theorem dL_isBest_2 : decode cL_isBest 2 = .ok (.iload 4, 2) := by decide +kernel
theorem dL_isBest_4 : decode cL_isBest 4 = .ok (.imul, 1) := by decide +kernel
theorem dL_isBest_5 : decode cL_isBest 5 = .ok (.iconst 3, 1) := by decide +kernel
theorem dL_isBest_6 : decode cL_isBest 6 = .ok (.iadd, 1) := by decide +kernel
theorem dL_isBest_7 : decode cL_isBest 7 = .ok (.iaload, 1) := by decide +kernel
theorem dL_isBest_8 : decode cL_isBest 8 = .ok (.istore 5, 2) := by decide +kernel
theorem dL_isBest_10 : decode cL_isBest 10 = .ok (.iconst (-1), 1) := by decide +kernel
theorem dL_isBest_11 : decode cL_isBest 11 = .ok (.istore 6, 2) := by decide +kernel
theorem dL_isBest_13 : decode cL_isBest 13 = .ok (.iconst 0, 1) := by decide +kernel
theorem dL_isBest_14 : decode cL_isBest 14 = .ok (.istore 7, 2) := by decide +kernel
theorem dL_isBest_16 : decode cL_isBest 16 = .ok (.bipush 6, 2) := by decide +kernel
theorem dL_isBest_18 : decode cL_isBest 18 = .ok (.istore 8, 2) := by decide +kernel
theorem dL_isBest_20 : decode cL_isBest 20 = .ok (.iload 8, 2) := by decide +kernel
theorem dL_isBest_22 : decode cL_isBest 22 = .ok (.ifCond .lt 67, 3) := by decide +kernel
theorem dL_isBest_25 : decode cL_isBest 25 = .ok (.aload_n 2, 1) := by decide +kernel
theorem dL_isBest_26 : decode cL_isBest 26 = .ok (.iconst 4, 1) := by decide +kernel
theorem dL_isBest_27 : decode cL_isBest 27 = .ok (.iload 4, 2) := by decide +kernel
theorem dL_isBest_29 : decode cL_isBest 29 = .ok (.imul, 1) := by decide +kernel
theorem dL_isBest_30 : decode cL_isBest 30 = .ok (.iconst 3, 1) := by decide +kernel
theorem dL_isBest_31 : decode cL_isBest 31 = .ok (.iadd, 1) := by decide +kernel
theorem dL_isBest_32 : decode cL_isBest 32 = .ok (.iload 8, 2) := by decide +kernel
theorem dL_isBest_34 : decode cL_isBest 34 = .ok (.iastore, 1) := by decide +kernel
theorem dL_isBest_35 : decode cL_isBest 35 = .ok (.aload_n 1, 1) := by decide +kernel
theorem dL_isBest_36 : decode cL_isBest 36 = .ok (.aload_n 2, 1) := by decide +kernel
theorem dL_isBest_37 : decode cL_isBest 37 = .ok (.aload_n 3, 1) := by decide +kernel
theorem dL_isBest_38 : decode cL_isBest 38 = .ok (.sipush 400, 3) := by decide +kernel
theorem dL_isBest_41 : decode cL_isBest 41 = .ok (.invokestatic 145, 3) := by decide +kernel
theorem dL_isBest_44 : decode cL_isBest 44 = .ok (.istore 9, 2) := by decide +kernel
theorem dL_isBest_46 : decode cL_isBest 46 = .ok (.iload 6, 2) := by decide +kernel
theorem dL_isBest_48 : decode cL_isBest 48 = .ok (.ifCond .lt 10, 3) := by decide +kernel
theorem dL_isBest_51 : decode cL_isBest 51 = .ok (.iload 9, 2) := by decide +kernel
theorem dL_isBest_53 : decode cL_isBest 53 = .ok (.iload 7, 2) := by decide +kernel
theorem dL_isBest_55 : decode cL_isBest 55 = .ok (.if_icmp .gt 8, 3) := by decide +kernel
theorem dL_isBest_58 : decode cL_isBest 58 = .ok (.iload 8, 2) := by decide +kernel
theorem dL_isBest_60 : decode cL_isBest 60 = .ok (.goto 5, 3) := by decide +kernel
theorem dL_isBest_63 : decode cL_isBest 63 = .ok (.iload 6, 2) := by decide +kernel
theorem dL_isBest_65 : decode cL_isBest 65 = .ok (.istore 6, 2) := by decide +kernel
theorem dL_isBest_67 : decode cL_isBest 67 = .ok (.iload 6, 2) := by decide +kernel
theorem dL_isBest_69 : decode cL_isBest 69 = .ok (.iload 8, 2) := by decide +kernel
theorem dL_isBest_71 : decode cL_isBest 71 = .ok (.if_icmp .ne 8, 3) := by decide +kernel
theorem dL_isBest_74 : decode cL_isBest 74 = .ok (.iload 9, 2) := by decide +kernel
theorem dL_isBest_76 : decode cL_isBest 76 = .ok (.goto 5, 3) := by decide +kernel
theorem dL_isBest_79 : decode cL_isBest 79 = .ok (.iload 7, 2) := by decide +kernel
theorem dL_isBest_81 : decode cL_isBest 81 = .ok (.istore 7, 2) := by decide +kernel
theorem dL_isBest_83 : decode cL_isBest 83 = .ok (.iinc 8 (-1), 3) := by decide +kernel
theorem dL_isBest_86 : decode cL_isBest 86 = .ok (.goto (-66), 3) := by decide +kernel
theorem dL_isBest_89 : decode cL_isBest 89 = .ok (.aload_n 2, 1) := by decide +kernel
theorem dL_isBest_90 : decode cL_isBest 90 = .ok (.iconst 4, 1) := by decide +kernel
theorem dL_isBest_91 : decode cL_isBest 91 = .ok (.iload 4, 2) := by decide +kernel
theorem dL_isBest_93 : decode cL_isBest 93 = .ok (.imul, 1) := by decide +kernel
theorem dL_isBest_94 : decode cL_isBest 94 = .ok (.iconst 3, 1) := by decide +kernel
theorem dL_isBest_95 : decode cL_isBest 95 = .ok (.iadd, 1) := by decide +kernel
theorem dL_isBest_96 : decode cL_isBest 96 = .ok (.iload 5, 2) := by decide +kernel
theorem dL_isBest_98 : decode cL_isBest 98 = .ok (.iastore, 1) := by decide +kernel
theorem dL_isBest_99 : decode cL_isBest 99 = .ok (.aload_n 0, 1) := by decide +kernel
theorem dL_isBest_100 : decode cL_isBest 100 = .ok (.iload 4, 2) := by decide +kernel
theorem dL_isBest_102 : decode cL_isBest 102 = .ok (.invokevirtual 148, 3) := by decide +kernel
theorem dL_isBest_105 : decode cL_isBest 105 = .ok (.iload 6, 2) := by decide +kernel
theorem dL_isBest_107 : decode cL_isBest 107 = .ok (.if_icmp .ne 7, 3) := by decide +kernel
theorem dL_isBest_110 : decode cL_isBest 110 = .ok (.iconst 1, 1) := by decide +kernel
theorem dL_isBest_111 : decode cL_isBest 111 = .ok (.goto 4, 3) := by decide +kernel
theorem dL_isBest_114 : decode cL_isBest 114 = .ok (.iconst 0, 1) := by decide +kernel
theorem dL_isBest_115 : decode cL_isBest 115 = .ok (.ireturn, 1) := by decide +kernel
set_option maxRecDepth 20000 in
theorem ggL_acts_L_low : GoodIn wsL_acts wsL_low := goodIn_r _ [4, 5] (by decide +kernel) (by decide +kernel)
set_option maxRecDepth 20000 in
theorem gL_acts_L_low : GoodIn wsL_acts (va_wsS RL 151 yL_low wsL_low) := goodIn_app (goodIn_of _ (by decide +kernel)) ggL_acts_L_low
set_option maxRecDepth 20000 in
theorem ggL_acts_X4_barWeekday : GoodIn wsL_acts wsX4_barWeekday := goodIn_ca (goodIn_ca (goodIn_r _ [10, 11, 12, 13, 9, 14, 15, 16, 17, 18, 19, 20, 21, 22, 23, 24, 25, 26, 27, 28, 29, 30, 31, 32, 33, 34, 35, 36, 37, 38, 39, 40, 41, 42, 43, 44, 45, 46, 47, 48, 49, 50, 51, 52, 53, 54, 55, 56, 57, 58, 59, 60, 61, 62, 63, 64, 65, 66, 67, 221, 222, 223, 224, 225, 226, 227, 228, 229, 230, 231, 232, 233, 234, 235, 236, 237, 238, 239, 240, 241, 242, 243, 244, 245] (by decide +kernel) (by decide +kernel)) (goodIn_sub (fun _ h => List.mem_cons_of_mem _ (List.mem_append_left _ (List.mem_append_left _ (List.mem_append_right _ h)))) (by decide +kernel))) (goodIn_sub (fun _ h => List.mem_cons_of_mem _ (List.mem_append_left _ (List.mem_append_right _ h))) (by decide +kernel))
set_option maxRecDepth 20000 in
theorem gL_acts_X4_barWeekday : GoodIn wsL_acts (wsV RL 154 RX4 yX4_barWeekday wsX4_barWeekday) := goodIn_app (goodIn_of _ (by decide +kernel)) ggL_acts_X4_barWeekday
set_option maxRecDepth 20000 in
theorem ggL_acts_L_bars : GoodIn wsL_acts wsL_bars := goodIn_r _ [70] (by decide +kernel) (by decide +kernel)
set_option maxRecDepth 20000 in
theorem gL_acts_L_bars : GoodIn wsL_acts (va_wsS RL 157 yL_bars wsL_bars) := goodIn_app (goodIn_of _ (by decide +kernel)) ggL_acts_L_bars
set_option maxRecDepth 20000 in
theorem ggL_acts_X4_addFeast : GoodIn wsL_acts wsX4_addFeast := goodIn_ca (goodIn_ca (goodIn_ca (goodIn_r _ [74, 75, 76, 15, 77, 78, 79, 9, 80, 16, 17, 18, 19, 20, 81, 82, 83, 39, 84, 41, 42, 21, 22, 23, 24, 25, 26, 27, 28, 29, 30, 31, 32, 33, 34, 35, 36, 37, 38, 40, 43, 44, 45, 46, 47, 48, 49, 50, 51, 52, 53, 54, 55, 56, 57, 58, 59, 60, 61, 62, 63, 64, 65, 66, 67, 85, 86, 87, 88, 225, 226, 227, 228, 229, 230, 231, 232, 233, 234, 235, 236, 237, 238, 239, 240, 241, 242, 243, 244, 245, 221, 222, 223, 224] (by decide +kernel) (by decide +kernel)) (goodIn_sub (fun _ h => List.mem_cons_of_mem _ (List.mem_append_right _ h)) (by decide +kernel))) (goodIn_sub (fun _ h => List.mem_cons_of_mem _ (List.mem_append_left _ (List.mem_append_left _ (List.mem_append_right _ h)))) (by decide +kernel))) (goodIn_sub (fun _ h => List.mem_cons_of_mem _ (List.mem_append_left _ (List.mem_append_right _ h))) (by decide +kernel))
set_option maxRecDepth 20000 in
theorem gL_acts_X4_addFeast : GoodIn wsL_acts (wsV RL 160 RX4 yX4_addFeast wsX4_addFeast) := goodIn_app (goodIn_of _ (by decide +kernel)) ggL_acts_X4_addFeast
set_option maxRecDepth 20000 in
theorem ggL_acts_X4_setShift : GoodIn wsL_acts wsX4_setShift := goodIn_ca (goodIn_r _ [92, 15, 21, 22, 9, 23, 24, 25, 26, 27, 28, 29, 30, 31, 32, 33, 34, 35, 36, 37, 38, 39, 40, 41, 42, 43, 44, 45, 46, 47, 48, 49, 50, 51, 52, 53, 54, 55, 56, 57, 58, 59, 60, 61, 62, 63, 64, 65, 66, 67, 225, 226, 227, 228, 229, 230, 231, 232, 233, 234, 235, 236, 237, 238, 239, 240, 241, 242, 243, 244, 245, 221, 222, 223, 224] (by decide +kernel) (by decide +kernel)) (goodIn_sub (fun _ h => List.mem_cons_of_mem _ (List.mem_append_left _ (List.mem_append_right _ h))) (by decide +kernel))
set_option maxRecDepth 20000 in
theorem gL_acts_X4_setShift : GoodIn wsL_acts (wsV RL 164 RX4 yX4_setShift wsX4_setShift) := goodIn_app (goodIn_of _ (by decide +kernel)) ggL_acts_X4_setShift
set_option maxRecDepth 20000 in
theorem ggL_acts_X4_addGap : GoodIn wsL_acts wsX4_addGap := goodIn_ca (goodIn_ca (goodIn_ca (goodIn_r _ [96, 24, 25, 75, 76, 77, 78, 79, 9, 80, 15, 16, 17, 18, 19, 20, 81, 82, 83, 39, 84, 41, 42, 21, 22, 23, 97, 98, 99, 53, 100, 57, 55, 26, 27, 28, 29, 30, 31, 32, 33, 34, 35, 36, 37, 38, 40, 43, 44, 45, 46, 47, 48, 49, 50, 51, 52, 54, 56, 58, 59, 60, 61, 62, 63, 64, 65, 66, 67, 101, 102, 103, 104, 241, 242, 243, 244, 245, 225, 226, 227, 228, 229, 230, 231, 232, 233, 234, 235, 236, 237, 238, 239, 240, 221, 222, 223, 224] (by decide +kernel) (by decide +kernel)) (goodIn_sub (fun _ h => List.mem_cons_of_mem _ (List.mem_append_left _ (List.mem_append_right _ h))) (by decide +kernel))) (goodIn_sub (fun _ h => List.mem_cons_of_mem _ (List.mem_append_right _ h)) (by decide +kernel))) (goodIn_sub (fun _ h => List.mem_cons_of_mem _ (List.mem_append_left _ (List.mem_append_left _ (List.mem_append_right _ h)))) (by decide +kernel))
set_option maxRecDepth 20000 in
theorem gL_acts_X4_addGap : GoodIn wsL_acts (wsV RL 167 RX4 yX4_addGap wsX4_addGap) := goodIn_app (goodIn_of _ (by decide +kernel)) ggL_acts_X4_addGap
set_option maxRecDepth 20000 in
theorem ggL_acts_X4_barredWeekday : GoodIn wsL_acts wsX4_barredWeekday := goodIn_ca (goodIn_r _ [108, 11, 12, 13, 9, 14, 15, 16, 17, 18, 19, 20, 221, 222, 223, 224, 225, 226, 227, 228, 229, 230, 231, 232, 233, 234, 235, 236, 237, 238, 239, 240] (by decide +kernel) (by decide +kernel)) (goodIn_sub (fun _ h => List.mem_cons_of_mem _ (List.mem_append_left _ (List.mem_append_left _ (List.mem_append_right _ h)))) (by decide +kernel))
set_option maxRecDepth 20000 in
theorem gL_acts_X4_barredWeekday : GoodIn wsL_acts (wsV RL 79 RX4 yX4_barredWeekday wsX4_barredWeekday) := goodIn_app (goodIn_of _ (by decide +kernel)) ggL_acts_X4_barredWeekday
set_option maxRecDepth 20000 in
theorem ggL_acts_X4_allowAllWeekdays : GoodIn wsL_acts wsX4_allowAllWeekdays := goodIn_ca (goodIn_ca (goodIn_r _ [112, 75, 76, 11, 12, 13, 9, 14, 15, 16, 17, 18, 19, 20, 26, 27, 28, 29, 30, 31, 32, 33, 34, 35, 36, 37, 38, 39, 40, 41, 42, 43, 44, 45, 46, 47, 48, 49, 50, 51, 52, 53, 54, 55, 56, 57, 58, 59, 60, 61, 62, 63, 64, 65, 66, 67, 221, 222, 223, 224, 225, 226, 227, 228, 229, 230, 231, 232, 233, 234, 235, 236, 237, 238, 239, 240, 241, 242, 243, 244, 245] (by decide +kernel) (by decide +kernel)) (goodIn_sub (fun _ h => List.mem_cons_of_mem _ (List.mem_append_right _ h)) (by decide +kernel))) (goodIn_sub (fun _ h => List.mem_cons_of_mem _ (List.mem_append_left _ (List.mem_append_left _ (List.mem_append_right _ h)))) (by decide +kernel))
set_option maxRecDepth 20000 in
theorem gL_acts_X4_allowAllWeekdays : GoodIn wsL_acts (wsV RL 170 RX4 yX4_allowAllWeekdays wsX4_allowAllWeekdays) := goodIn_app (goodIn_of _ (by decide +kernel)) ggL_acts_X4_allowAllWeekdays
set_option maxRecDepth 20000 in
theorem ggL_acts_X4_setCopiesPerDay : GoodIn wsL_acts wsX4_setCopiesPerDay := goodIn_ca (goodIn_r _ [116, 15, 21, 22, 9, 23, 24, 25, 26, 27, 28, 29, 30, 31, 32, 33, 34, 35, 36, 37, 38, 39, 40, 41, 42, 43, 44, 45, 46, 47, 48, 49, 50, 51, 52, 53, 54, 55, 56, 57, 58, 59, 60, 61, 62, 63, 64, 65, 66, 67, 225, 226, 227, 228, 229, 230, 231, 232, 233, 234, 235, 236, 237, 238, 239, 240, 241, 242, 243, 244, 245, 221, 222, 223, 224] (by decide +kernel) (by decide +kernel)) (goodIn_sub (fun _ h => List.mem_cons_of_mem _ (List.mem_append_left _ (List.mem_append_right _ h))) (by decide +kernel))
set_option maxRecDepth 20000 in
theorem gL_acts_X4_setCopiesPerDay : GoodIn wsL_acts (wsV RL 173 RX4 yX4_setCopiesPerDay wsX4_setCopiesPerDay) := goodIn_app (goodIn_of _ (by decide +kernel)) ggL_acts_X4_setCopiesPerDay
set_option maxRecDepth 20000 in
theorem ggL_acts_X4_today : GoodIn wsL_acts wsX4_today := goodIn_r _ [120, 15, 225, 226, 227, 228, 229, 230, 231, 232, 233, 234, 235, 236, 237, 238, 239, 240] (by decide +kernel) (by decide +kernel)
set_option maxRecDepth 20000 in
theorem gL_acts_X4_today : GoodIn wsL_acts (wsV RL 51 RX4 yX4_today wsX4_today) := goodIn_app (goodIn_of _ (by decide +kernel)) ggL_acts_X4_today
set_option maxRecDepth 20000 in
theorem ggL_acts_L_feasts : GoodIn wsL_acts wsL_feasts := goodIn_r _ [123, 124, 125, 3, 126, 127, 128, 129, 130, 131, 132, 133, 134, 135, 136, 137, 138] (by decide +kernel) (by decide +kernel)
set_option maxRecDepth 20000 in
theorem gL_acts_L_feasts : GoodIn wsL_acts (va_wsS RL 31 yL_feasts wsL_feasts) := goodIn_app (goodIn_of _ (by decide +kernel)) ggL_acts_L_feasts
set_option maxRecDepth 20000 in
theorem ggL_acts_L_of : GoodIn wsL_acts wsL_of := goodIn_r _ [141] (by decide +kernel) (by decide +kernel)
set_option maxRecDepth 20000 in
theorem gL_acts_L_of : GoodIn wsL_acts (va_wsS RL 35 yL_of wsL_of) := goodIn_app (goodIn_of _ (by decide +kernel)) ggL_acts_L_of
set_option maxRecDepth 20000 in
theorem ggL_acts_X4_passDays : GoodIn wsL_acts wsX4_passDays := goodIn_ca (goodIn_ca (goodIn_r _ [145, 75, 76, 15, 146, 21, 22, 9, 23, 24, 25, 26, 27, 28, 29, 30, 31, 32, 33, 34, 35, 36, 37, 38, 39, 40, 41, 42, 43, 44, 45, 46, 47, 48, 49, 50, 51, 52, 53, 54, 55, 56, 57, 58, 59, 60, 61, 62, 63, 64, 65, 66, 67, 147, 148, 149, 150, 151, 152, 153, 154, 155, 82, 83, 84, 156, 157, 158, 159, 160, 161, 162, 163, 164, 165, 166, 167, 168, 169, 170, 171, 172, 173, 174, 175, 176, 177, 178, 179, 180, 181, 182, 183, 184, 185, 186, 187, 188, 189, 190, 191, 192, 193, 194, 195, 196, 197, 198, 199, 200, 201, 202, 203, 204, 205, 206, 207, 208, 209, 210, 211, 212, 213, 214, 215, 216, 217, 218, 219, 220, 225, 226, 227, 228, 229, 230, 231, 232, 233, 234, 235, 236, 237, 238, 239, 240, 241, 242, 243, 244, 245, 221, 222, 223, 224] (by decide +kernel) (by decide +kernel)) (goodIn_sub (fun _ h => List.mem_cons_of_mem _ (List.mem_append_right _ h)) (by decide +kernel))) (goodIn_sub (fun _ h => List.mem_cons_of_mem _ (List.mem_append_left _ (List.mem_append_right _ h))) (by decide +kernel))
set_option maxRecDepth 20000 in
theorem gL_acts_X4_passDays : GoodIn wsL_acts (wsV RL 176 RX4 yX4_passDays wsX4_passDays) := goodIn_app (goodIn_of _ (by decide +kernel)) ggL_acts_X4_passDays
theorem dL_acts_0 : decode cL_acts 0 = .ok (.iload 5, 2) := by decide +kernel
theorem dL_acts_2 : decode cL_acts 2 = .ok (.iconst 2, 1) := by decide +kernel
theorem dL_acts_3 : decode cL_acts 3 = .ok (.invokestatic 151, 3) := by decide +kernel
theorem dL_acts_6 : decode cL_acts 6 = .ok (.istore 6, 2) := by decide +kernel
theorem dL_acts_8 : decode cL_acts 8 = .ok (.aload_n 3, 1) := by decide +kernel
theorem dL_acts_9 : decode cL_acts 9 = .ok (.bipush 7, 2) := by decide +kernel
theorem dL_acts_11 : decode cL_acts 11 = .ok (.iaload, 1) := by decide +kernel
theorem dL_acts_12 : decode cL_acts 12 = .ok (.ifCond .ne 7, 3) := by decide +kernel
theorem dL_acts_15 : decode cL_acts 15 = .ok (.iconst 0, 1) := by decide +kernel
theorem dL_acts_16 : decode cL_acts 16 = .ok (.goto 14, 3) := by decide +kernel
theorem dL_acts_19 : decode cL_acts 19 = .ok (.iload 5, 2) := by decide +kernel
theorem dL_acts_21 : decode cL_acts 21 = .ok (.iconst 1, 1) := by decide +kernel
theorem dL_acts_22 : decode cL_acts 22 = .ok (.ishr, 1) := by decide +kernel
theorem dL_acts_23 : decode cL_acts 23 = .ok (.aload_n 3, 1) := by decide +kernel
theorem dL_acts_24 : decode cL_acts 24 = .ok (.bipush 7, 2) := by decide +kernel
theorem dL_acts_26 : decode cL_acts 26 = .ok (.iaload, 1) := by decide +kernel
theorem dL_acts_27 : decode cL_acts 27 = .ok (.invokestatic 151, 3) := by decide +kernel

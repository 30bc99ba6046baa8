set_option maxRecDepth 20000 in
theorem ggL_isAll_X4_gapLength : GoodIn wsL_isAll wsX4_gapLength := goodIn_ca (goodIn_r _ [58, 19, 20, 21, 4, 22, 6, 23, 24, 25, 26, 27, 28, 29, 30, 31, 32, 33, 34, 87, 88, 89, 90, 91, 71, 72, 73, 74, 75, 76, 77, 78, 79, 80, 81, 82, 83, 84, 85, 86] (by decide +kernel) (by decide +kernel)) (goodIn_sub (fun _ h => List.mem_cons_of_mem _ (List.mem_append_right _ h)) (by decide +kernel))
set_option maxRecDepth 20000 in
theorem gL_isAll_X4_gapLength : GoodIn wsL_isAll (wsV RL 73 RX4 yX4_gapLength wsX4_gapLength) := goodIn_app (goodIn_of _ (by decide +kernel)) ggL_isAll_X4_gapLength
set_option maxRecDepth 20000 in
theorem ggL_isAll_X4_feastTown : GoodIn wsL_isAll wsX4_feastTown := goodIn_ca (goodIn_r _ [62, 63, 64, 65, 4, 66, 6, 23, 24, 25, 26, 27, 92, 93, 94, 95, 71, 72, 73, 74, 75, 76, 77, 78, 79, 80, 81, 82, 83, 84, 85, 86] (by decide +kernel) (by decide +kernel)) (goodIn_sub (fun _ h => List.mem_cons_of_mem _ (List.mem_append_right _ h)) (by decide +kernel))
set_option maxRecDepth 20000 in
theorem gL_isAll_X4_feastTown : GoodIn wsL_isAll (wsV RL 76 RX4 yX4_feastTown wsX4_feastTown) := goodIn_app (goodIn_of _ (by decide +kernel)) ggL_isAll_X4_feastTown
set_option maxRecDepth 20000 in
theorem ggL_isAll_X4_barredWeekday : GoodIn wsL_isAll wsX4_barredWeekday := goodIn_ca (goodIn_r _ [70, 63, 64, 65, 4, 66, 6, 23, 24, 25, 26, 27, 92, 93, 94, 95, 71, 72, 73, 74, 75, 76, 77, 78, 79, 80, 81, 82, 83, 84, 85, 86] (by decide +kernel) (by decide +kernel)) (goodIn_sub (fun _ h => List.mem_cons_of_mem _ (List.mem_append_right _ h)) (by decide +kernel))
set_option maxRecDepth 20000 in
theorem gL_isAll_X4_barredWeekday : GoodIn wsL_isAll (wsV RL 79 RX4 yX4_barredWeekday wsX4_barredWeekday) := goodIn_app (goodIn_of _ (by decide +kernel)) ggL_isAll_X4_barredWeekday
theorem dL_isAll_0 : decode cL_isAll 0 = .ok (.aload_n 0, 1) := by decide +kernel
theorem dL_isAll_1 : decode cL_isAll 1 = .ok (.invokevirtual 42, 3) := by decide +kernel
theorem dL_isAll_4 : decode cL_isAll 4 = .ok (.aload_n 3, 1) := by decide +kernel
theorem dL_isAll_5 : decode cL_isAll 5 = .ok (.iconst 0, 1) := by decide +kernel
theorem dL_isAll_6 : decode cL_isAll 6 = .ok (.iaload, 1) := by decide +kernel
theorem dL_isAll_7 : decode cL_isAll 7 = .ok (.if_icmp .ne 81, 3) := by decide +kernel
theorem dL_isAll_10 : decode cL_isAll 10 = .ok (.aload_n 0, 1) := by decide +kernel
theorem dL_isAll_11 : decode cL_isAll 11 = .ok (.invokevirtual 48, 3) := by decide +kernel
theorem dL_isAll_14 : decode cL_isAll 14 = .ok (.aload_n 3, 1) := by decide +kernel
theorem dL_isAll_15 : decode cL_isAll 15 = .ok (.iconst 1, 1) := by decide +kernel
theorem dL_isAll_16 : decode cL_isAll 16 = .ok (.iaload, 1) := by decide +kernel
theorem dL_isAll_17 : decode cL_isAll 17 = .ok (.if_icmp .ne 71, 3) := by decide +kernel
theorem dL_isAll_20 : decode cL_isAll 20 = .ok (.aload_n 0, 1) := by decide +kernel
theorem dL_isAll_21 : decode cL_isAll 21 = .ok (.invokevirtual 51, 3) := by decide +kernel
theorem dL_isAll_24 : decode cL_isAll 24 = .ok (.aload_n 3, 1) := by decide +kernel
theorem dL_isAll_25 : decode cL_isAll 25 = .ok (.iconst 2, 1) := by decide +kernel
theorem dL_isAll_26 : decode cL_isAll 26 = .ok (.iaload, 1) := by decide +kernel
theorem dL_isAll_27 : decode cL_isAll 27 = .ok (.if_icmp .ne 61, 3) := by decide +kernel
theorem dL_isAll_30 : decode cL_isAll 30 = .ok (.aload_n 0, 1) := by decide +kernel
theorem dL_isAll_31 : decode cL_isAll 31 = .ok (.iconst 0, 1) := by decide +kernel
theorem dL_isAll_32 : decode cL_isAll 32 = .ok (.invokevirtual 54, 3) := by decide +kernel
theorem dL_isAll_35 : decode cL_isAll 35 = .ok (.aload_n 3, 1) := by decide +kernel
theorem dL_isAll_36 : decode cL_isAll 36 = .ok (.iconst 3, 1) := by decide +kernel
theorem dL_isAll_37 : decode cL_isAll 37 = .ok (.iaload, 1) := by decide +kernel
theorem dL_isAll_38 : decode cL_isAll 38 = .ok (.if_icmp .ne 50, 3) := by decide +kernel
theorem dL_isAll_41 : decode cL_isAll 41 = .ok (.aload_n 0, 1) := by decide +kernel
theorem dL_isAll_42 : decode cL_isAll 42 = .ok (.iconst 1, 1) := by decide +kernel
theorem dL_isAll_43 : decode cL_isAll 43 = .ok (.invokevirtual 54, 3) := by decide +kernel
theorem dL_isAll_46 : decode cL_isAll 46 = .ok (.aload_n 3, 1) := by decide +kernel
theorem dL_isAll_47 : decode cL_isAll 47 = .ok (.iconst 4, 1) := by decide +kernel
theorem dL_isAll_48 : decode cL_isAll 48 = .ok (.iaload, 1) := by decide +kernel
theorem dL_isAll_49 : decode cL_isAll 49 = .ok (.if_icmp .ne 39, 3) := by decide +kernel
theorem dL_isAll_52 : decode cL_isAll 52 = .ok (.aload_n 0, 1) := by decide +kernel
theorem dL_isAll_53 : decode cL_isAll 53 = .ok (.invokevirtual 58, 3) := by decide +kernel
theorem dL_isAll_56 : decode cL_isAll 56 = .ok (.aload_n 3, 1) := by decide +kernel
theorem dL_isAll_57 : decode cL_isAll 57 = .ok (.iconst 5, 1) := by decide +kernel
theorem dL_isAll_58 : decode cL_isAll 58 = .ok (.iaload, 1) := by decide +kernel
theorem dL_isAll_59 : decode cL_isAll 59 = .ok (.if_icmp .ne 29, 3) := by decide +kernel
theorem dL_isAll_62 : decode cL_isAll 62 = .ok (.aload_n 0, 1) := by decide +kernel
theorem dL_isAll_63 : decode cL_isAll 63 = .ok (.invokevirtual 61, 3) := by decide +kernel
theorem dL_isAll_66 : decode cL_isAll 66 = .ok (.aload_n 3, 1) := by decide +kernel
theorem dL_isAll_67 : decode cL_isAll 67 = .ok (.bipush 6, 2) := by decide +kernel
theorem dL_isAll_69 : decode cL_isAll 69 = .ok (.iaload, 1) := by decide +kernel
theorem dL_isAll_70 : decode cL_isAll 70 = .ok (.if_icmp .ne 18, 3) := by decide +kernel
theorem dL_isAll_73 : decode cL_isAll 73 = .ok (.aload_n 0, 1) := by decide +kernel
theorem dL_isAll_74 : decode cL_isAll 74 = .ok (.invokevirtual 64, 3) := by decide +kernel
theorem dL_isAll_77 : decode cL_isAll 77 = .ok (.aload_n 3, 1) := by decide +kernel
theorem dL_isAll_78 : decode cL_isAll 78 = .ok (.bipush 7, 2) := by decide +kernel
theorem dL_isAll_80 : decode cL_isAll 80 = .ok (.iaload, 1) := by decide +kernel
theorem dL_isAll_81 : decode cL_isAll 81 = .ok (.if_icmp .ne 7, 3) := by decide +kernel
theorem dL_isAll_84 : decode cL_isAll 84 = .ok (.iconst 1, 1) := by decide +kernel
theorem dL_isAll_85 : decode cL_isAll 85 = .ok (.goto 4, 3) := by decide +kernel
theorem dL_isAll_88 : decode cL_isAll 88 = .ok (.iconst 0, 1) := by decide +kernel
theorem dL_isAll_89 : decode cL_isAll 89 = .ok (.istore 4, 2) := by decide +kernel
theorem dL_isAll_91 : decode cL_isAll 91 = .ok (.iconst 0, 1) := by decide +kernel
theorem dL_isAll_92 : decode cL_isAll 92 = .ok (.istore 5, 2) := by decide +kernel
theorem dL_isAll_94 : decode cL_isAll 94 = .ok (.iload 5, 2) := by decide +kernel
theorem dL_isAll_96 : decode cL_isAll 96 = .ok (.iconst 2, 1) := by decide +kernel
theorem dL_isAll_97 : decode cL_isAll 97 = .ok (.if_icmp .ge 120, 3) := by decide +kernel
theorem dL_isAll_100 : decode cL_isAll 100 = .ok (.iload 4, 2) := by decide +kernel
theorem dL_isAll_102 : decode cL_isAll 102 = .ok (.ifCond .eq 23, 3) := by decide +kernel
theorem dL_isAll_105 : decode cL_isAll 105 = .ok (.aload_n 0, 1) := by decide +kernel
theorem dL_isAll_106 : decode cL_isAll 106 = .ok (.iload 5, 2) := by decide +kernel
theorem dL_isAll_108 : decode cL_isAll 108 = .ok (.invokevirtual 67, 3) := by decide +kernel
theorem dL_isAll_111 : decode cL_isAll 111 = .ok (.aload_n 1, 1) := by decide +kernel
theorem dL_isAll_112 : decode cL_isAll 112 = .ok (.bipush 7, 2) := by decide +kernel
theorem dL_isAll_114 : decode cL_isAll 114 = .ok (.iload 5, 2) := by decide +kernel
theorem dL_isAll_116 : decode cL_isAll 116 = .ok (.imul, 1) := by decide +kernel
theorem dL_isAll_117 : decode cL_isAll 117 = .ok (.iaload, 1) := by decide +kernel
theorem dL_isAll_118 : decode cL_isAll 118 = .ok (.if_icmp .ne 7, 3) := by decide +kernel
theorem dL_isAll_121 : decode cL_isAll 121 = .ok (.iconst 1, 1) := by decide +kernel
theorem dL_isAll_122 : decode cL_isAll 122 = .ok (.goto 4, 3) := by decide +kernel
theorem dL_isAll_125 : decode cL_isAll 125 = .ok (.iconst 0, 1) := by decide +kernel
theorem dL_isAll_126 : decode cL_isAll 126 = .ok (.istore 4, 2) := by decide +kernel
theorem dL_isAll_128 : decode cL_isAll 128 = .ok (.iconst 0, 1) := by decide +kernel
theorem dL_isAll_129 : decode cL_isAll 129 = .ok (.istore 6, 2) := by decide +kernel
theorem dL_isAll_131 : decode cL_isAll 131 = .ok (.iload 6, 2) := by decide +kernel
theorem dL_isAll_133 : decode cL_isAll 133 = .ok (.aload_n 1, 1) := by decide +kernel
theorem dL_isAll_134 : decode cL_isAll 134 = .ok (.bipush 7, 2) := by decide +kernel
theorem dL_isAll_136 : decode cL_isAll 136 = .ok (.iload 5, 2) := by decide +kernel
theorem dL_isAll_138 : decode cL_isAll 138 = .ok (.imul, 1) := by decide +kernel
theorem dL_isAll_139 : decode cL_isAll 139 = .ok (.iaload, 1) := by decide +kernel
theorem dL_isAll_140 : decode cL_isAll 140 = .ok (.if_icmp .ge 71, 3) := by decide +kernel
theorem dL_isAll_143 : decode cL_isAll 143 = .ok (.iload 4, 2) := by decide +kernel
theorem dL_isAll_145 : decode cL_isAll 145 = .ok (.ifCond .eq 57, 3) := by decide +kernel
theorem dL_isAll_148 : decode cL_isAll 148 = .ok (.aload_n 0, 1) := by decide +kernel
theorem dL_isAll_149 : decode cL_isAll 149 = .ok (.iload 5, 2) := by decide +kernel
theorem dL_isAll_151 : decode cL_isAll 151 = .ok (.iload 6, 2) := by decide +kernel
theorem dL_isAll_153 : decode cL_isAll 153 = .ok (.invokevirtual 70, 3) := by decide +kernel
theorem dL_isAll_156 : decode cL_isAll 156 = .ok (.aload_n 1, 1) := by decide +kernel
theorem dL_isAll_157 : decode cL_isAll 157 = .ok (.bipush 7, 2) := by decide +kernel
theorem dL_isAll_159 : decode cL_isAll 159 = .ok (.iload 5, 2) := by decide +kernel
theorem dL_isAll_161 : decode cL_isAll 161 = .ok (.imul, 1) := by decide +kernel
theorem dL_isAll_162 : decode cL_isAll 162 = .ok (.iconst 1, 1) := by decide +kernel
theorem dL_isAll_163 : decode cL_isAll 163 = .ok (.iadd, 1) := by decide +kernel
theorem dL_isAll_164 : decode cL_isAll 164 = .ok (.iconst 2, 1) := by decide +kernel
theorem dL_isAll_165 : decode cL_isAll 165 = .ok (.iload 6, 2) := by decide +kernel
theorem dL_isAll_167 : decode cL_isAll 167 = .ok (.imul, 1) := by decide +kernel
theorem dL_isAll_168 : decode cL_isAll 168 = .ok (.iadd, 1) := by decide +kernel
theorem dL_isAll_169 : decode cL_isAll 169 = .ok (.iaload, 1) := by decide +kernel
theorem dL_isAll_170 : decode cL_isAll 170 = .ok (.if_icmp .ne 32, 3) := by decide +kernel
theorem dL_isAll_173 : decode cL_isAll 173 = .ok (.aload_n 0, 1) := by decide +kernel
theorem dL_isAll_174 : decode cL_isAll 174 = .ok (.iload 5, 2) := by decide +kernel
theorem dL_isAll_176 : decode cL_isAll 176 = .ok (.iload 6, 2) := by decide +kernel
theorem dL_isAll_178 : decode cL_isAll 178 = .ok (.invokevirtual 73, 3) := by decide +kernel
theorem dL_isAll_181 : decode cL_isAll 181 = .ok (.aload_n 1, 1) := by decide +kernel
theorem dL_isAll_182 : decode cL_isAll 182 = .ok (.bipush 7, 2) := by decide +kernel
theorem dL_isAll_184 : decode cL_isAll 184 = .ok (.iload 5, 2) := by decide +kernel
theorem dL_isAll_186 : decode cL_isAll 186 = .ok (.imul, 1) := by decide +kernel
theorem dL_isAll_187 : decode cL_isAll 187 = .ok (.iconst 2, 1) := by decide +kernel
theorem dL_isAll_188 : decode cL_isAll 188 = .ok (.iadd, 1) := by decide +kernel
theorem dL_isAll_189 : decode cL_isAll 189 = .ok (.iconst 2, 1) := by decide +kernel
theorem dL_isAll_190 : decode cL_isAll 190 = .ok (.iload 6, 2) := by decide +kernel
theorem dL_isAll_192 : decode cL_isAll 192 = .ok (.imul, 1) := by decide +kernel
theorem dL_isAll_193 : decode cL_isAll 193 = .ok (.iadd, 1) := by decide +kernel
theorem dL_isAll_194 : decode cL_isAll 194 = .ok (.iaload, 1) := by decide +kernel
theorem dL_isAll_195 : decode cL_isAll 195 = .ok (.if_icmp .ne 7, 3) := by decide +kernel
theorem dL_isAll_198 : decode cL_isAll 198 = .ok (.iconst 1, 1) := by decide +kernel
theorem dL_isAll_199 : decode cL_isAll 199 = .ok (.goto 4, 3) := by decide +kernel
theorem dL_isAll_202 : decode cL_isAll 202 = .ok (.iconst 0, 1) := by decide +kernel
theorem dL_isAll_203 : decode cL_isAll 203 = .ok (.istore 4, 2) := by decide +kernel
theorem dL_isAll_205 : decode cL_isAll 205 = .ok (.iinc 6 1, 3) := by decide +kernel
theorem dL_isAll_208 : decode cL_isAll 208 = .ok (.goto (-77), 3) := by decide +kernel
theorem dL_isAll_211 : decode cL_isAll 211 = .ok (.iinc 5 1, 3) := by decide +kernel
theorem dL_isAll_214 : decode cL_isAll 214 = .ok (.goto (-120), 3) := by decide +kernel
theorem dL_isAll_217 : decode cL_isAll 217 = .ok (.iconst 0, 1) := by decide +kernel
theorem dL_isAll_218 : decode cL_isAll 218 = .ok (.istore 5, 2) := by decide +kernel
theorem dL_isAll_220 : decode cL_isAll 220 = .ok (.iload 5, 2) := by decide +kernel
theorem dL_isAll_222 : decode cL_isAll 222 = .ok (.aload_n 3, 1) := by decide +kernel
theorem dL_isAll_223 : decode cL_isAll 223 = .ok (.bipush 7, 2) := by decide +kernel
theorem dL_isAll_225 : decode cL_isAll 225 = .ok (.iaload, 1) := by decide +kernel
theorem dL_isAll_226 : decode cL_isAll 226 = .ok (.if_icmp .ge 53, 3) := by decide +kernel
theorem dL_isAll_229 : decode cL_isAll 229 = .ok (.iload 4, 2) := by decide +kernel
theorem dL_isAll_231 : decode cL_isAll 231 = .ok (.ifCond .eq 39, 3) := by decide +kernel
theorem dL_isAll_234 : decode cL_isAll 234 = .ok (.aload_n 0, 1) := by decide +kernel
theorem dL_isAll_235 : decode cL_isAll 235 = .ok (.iload 5, 2) := by decide +kernel
theorem dL_isAll_237 : decode cL_isAll 237 = .ok (.invokevirtual 76, 3) := by decide +kernel
theorem dL_isAll_240 : decode cL_isAll 240 = .ok (.aload_n 2, 1) := by decide +kernel
theorem dL_isAll_241 : decode cL_isAll 241 = .ok (.iconst 4, 1) := by decide +kernel
theorem dL_isAll_242 : decode cL_isAll 242 = .ok (.iload 5, 2) := by decide +kernel
theorem dL_isAll_244 : decode cL_isAll 244 = .ok (.imul, 1) := by decide +kernel
theorem dL_isAll_245 : decode cL_isAll 245 = .ok (.iaload, 1) := by decide +kernel
theorem dL_isAll_246 : decode cL_isAll 246 = .ok (.if_icmp .ne 24, 3) := by decide +kernel
theorem dL_isAll_249 : decode cL_isAll 249 = .ok (.aload_n 0, 1) := by decide +kernel
theorem dL_isAll_250 : decode cL_isAll 250 = .ok (.iload 5, 2) := by decide +kernel
theorem dL_isAll_252 : decode cL_isAll 252 = .ok (.invokevirtual 79, 3) := by decide +kernel
theorem dL_isAll_255 : decode cL_isAll 255 = .ok (.aload_n 2, 1) := by decide +kernel
theorem dL_isAll_256 : decode cL_isAll 256 = .ok (.iconst 4, 1) := by decide +kernel
theorem dL_isAll_257 : decode cL_isAll 257 = .ok (.iload 5, 2) := by decide +kernel
theorem dL_isAll_259 : decode cL_isAll 259 = .ok (.imul, 1) := by decide +kernel
theorem dL_isAll_260 : decode cL_isAll 260 = .ok (.iconst 3, 1) := by decide +kernel
theorem dL_isAll_261 : decode cL_isAll 261 = .ok (.iadd, 1) := by decide +kernel
theorem dL_isAll_262 : decode cL_isAll 262 = .ok (.iaload, 1) := by decide +kernel
theorem dL_isAll_263 : decode cL_isAll 263 = .ok (.if_icmp .ne 7, 3) := by decide +kernel
theorem dL_isAll_266 : decode cL_isAll 266 = .ok (.iconst 1, 1) := by decide +kernel
theorem dL_isAll_267 : decode cL_isAll 267 = .ok (.goto 4, 3) := by decide +kernel
theorem dL_isAll_270 : decode cL_isAll 270 = .ok (.iconst 0, 1) := by decide +kernel
theorem dL_isAll_271 : decode cL_isAll 271 = .ok (.istore 4, 2) := by decide +kernel
theorem dL_isAll_273 : decode cL_isAll 273 = .ok (.iinc 5 1, 3) := by decide +kernel
theorem dL_isAll_276 : decode cL_isAll 276 = .ok (.goto (-56), 3) := by decide +kernel
theorem dL_isAll_279 : decode cL_isAll 279 = .ok (.iload 4, 2) := by decide +kernel
theorem dL_isAll_281 : decode cL_isAll 281 = .ok (.ireturn, 1) := by decide +kernel
set_option maxRecDepth 20000 in
theorem ggL_isDate_L_date : GoodIn wsL_isDate wsL_date := goodIn_r _ [4, 5, 6, 3, 7] (by decide +kernel) (by decide +kernel)
set_option maxRecDepth 20000 in
theorem gL_isDate_L_date : GoodIn wsL_isDate (va_wsS RL 15 yL_date wsL_date) := goodIn_app (goodIn_of _ (by decide +kernel)) ggL_isDate_L_date
set_option maxRecDepth 20000 in
theorem ggL_isDate_X4_dayOfMonth : GoodIn wsL_isDate wsX4_dayOfMonth := goodIn_ca (goodIn_ca (goodIn_r _ [12, 13, 14, 15, 11, 16, 17, 18, 19, 20, 21, 22, 23, 24, 25, 26, 27, 28, 29, 30, 31, 32, 33, 34, 35, 36, 37, 38, 39, 40, 41, 42, 43, 44, 45, 46, 47, 48, 49, 50, 51, 52, 53, 54, 55, 56, 57, 58, 59, 160, 161, 162, 163, 164, 165, 166, 167, 168, 169, 170, 171, 172, 173, 174, 175, 176, 177, 178, 179, 180] (by decide +kernel) (by decide +kernel)) (goodIn_sub (fun _ h => List.mem_cons_of_mem _ (List.mem_append_left _ (List.mem_append_left _ (List.mem_append_right _ h)))) (by decide +kernel))) (goodIn_sub (fun _ h => List.mem_cons_of_mem _ (List.mem_append_left _ (List.mem_append_right _ h))) (by decide +kernel))
set_option maxRecDepth 20000 in
theorem gL_isDate_X4_dayOfMonth : GoodIn wsL_isDate (wsV RL 82 RX4 yX4_dayOfMonth wsX4_dayOfMonth) := goodIn_app (goodIn_of _ (by decide +kernel)) ggL_isDate_X4_dayOfMonth
set_option maxRecDepth 20000 in
theorem ggL_isDate_X4_monthOf : GoodIn wsL_isDate wsX4_monthOf := goodIn_ca (goodIn_ca (goodIn_r _ [63, 13, 14, 15, 11, 16, 17, 18, 19, 20, 21, 22, 23, 24, 25, 26, 27, 28, 29, 30, 31, 32, 33, 34, 64, 53, 54, 38, 55, 40, 41, 42, 43, 44, 45, 46, 47, 48, 49, 50, 51, 56, 57, 58, 59, 160, 161, 162, 163, 164, 165, 166, 167, 168, 169, 170, 171, 172, 173, 174, 175, 176, 177, 178, 179, 180] (by decide +kernel) (by decide +kernel)) (goodIn_sub (fun _ h => List.mem_cons_of_mem _ (List.mem_append_left _ (List.mem_append_left _ (List.mem_append_right _ h)))) (by decide +kernel))) (goodIn_sub (fun _ h => List.mem_cons_of_mem _ (List.mem_append_left _ (List.mem_append_right _ h))) (by decide +kernel))
set_option maxRecDepth 20000 in
theorem gL_isDate_X4_monthOf : GoodIn wsL_isDate (wsV RL 85 RX4 yX4_monthOf wsX4_monthOf) := goodIn_app (goodIn_of _ (by decide +kernel)) ggL_isDate_X4_monthOf
set_option maxRecDepth 20000 in
theorem ggL_isDate_X4_yearOf : GoodIn wsL_isDate wsX4_yearOf := goodIn_ca (goodIn_ca (goodIn_r _ [68, 13, 14, 15, 11, 16, 17, 18, 19, 20, 21, 22, 23, 24, 25, 26, 27, 28, 29, 30, 31, 32, 33, 34, 69, 70, 71, 38, 72, 44, 45, 46, 47, 48, 49, 50, 51, 160, 161, 162, 163, 164, 165, 166, 167, 168, 169, 170, 171, 172, 173, 174, 175, 176, 177, 178, 179, 180] (by decide +kernel) (by decide +kernel)) (goodIn_sub (fun _ h => List.mem_cons_of_mem _ (List.mem_append_left _ (List.mem_append_left _ (List.mem_append_right _ h)))) (by decide +kernel))) (goodIn_sub (fun _ h => List.mem_cons_of_mem _ (List.mem_append_left _ (List.mem_append_right _ h))) (by decide +kernel))
set_option maxRecDepth 20000 in
theorem gL_isDate_X4_yearOf : GoodIn wsL_isDate (wsV RL 88 RX4 yX4_yearOf wsX4_yearOf) := goodIn_app (goodIn_of _ (by decide +kernel)) ggL_isDate_X4_yearOf
set_option maxRecDepth 20000 in
theorem ggL_isDate_X4_weekday : GoodIn wsL_isDate wsX4_weekday := goodIn_ca (goodIn_r _ [76, 30, 31, 11, 32, 33, 34] (by decide +kernel) (by decide +kernel)) (goodIn_sub (fun _ h => List.mem_cons_of_mem _ (List.mem_append_left _ (List.mem_append_right _ h))) (by decide +kernel))
set_option maxRecDepth 20000 in
theorem gL_isDate_X4_weekday : GoodIn wsL_isDate (wsV RL 91 RX4 yX4_weekday wsX4_weekday) := goodIn_app (goodIn_of _ (by decide +kernel)) ggL_isDate_X4_weekday
set_option maxRecDepth 20000 in
theorem ggL_isDate_X4_monthLength : GoodIn wsL_isDate wsX4_monthLength := goodIn_ca (goodIn_ca (goodIn_r _ [80, 13, 14, 15, 11, 16, 17, 18, 19, 20, 21, 22, 23, 24, 25, 26, 27, 28, 29, 30, 31, 32, 33, 34, 81, 82, 83, 38, 84, 44, 160, 161, 162, 163, 164, 165, 166, 167, 168, 169, 170, 171, 172, 173, 174, 175, 176, 177, 178, 179, 180] (by decide +kernel) (by decide +kernel)) (goodIn_sub (fun _ h => List.mem_cons_of_mem _ (List.mem_append_left _ (List.mem_append_left _ (List.mem_append_right _ h)))) (by decide +kernel))) (goodIn_sub (fun _ h => List.mem_cons_of_mem _ (List.mem_append_left _ (List.mem_append_right _ h))) (by decide +kernel))
set_option maxRecDepth 20000 in
theorem gL_isDate_X4_monthLength : GoodIn wsL_isDate (wsV RL 94 RX4 yX4_monthLength wsX4_monthLength) := goodIn_app (goodIn_of _ (by decide +kernel)) ggL_isDate_X4_monthLength
set_option maxRecDepth 20000 in
theorem ggL_isDate_L_length : GoodIn wsL_isDate wsL_length := goodIn_r _ [7] (by decide +kernel) (by decide +kernel)
set_option maxRecDepth 20000 in
theorem gL_isDate_L_length : GoodIn wsL_isDate (va_wsS RL 9 yL_length wsL_length) := goodIn_app (goodIn_of _ (by decide +kernel)) ggL_isDate_L_length
set_option maxRecDepth 20000 in
theorem ggL_isDate_X4_dayOfDate : GoodIn wsL_isDate wsX4_dayOfDate := goodIn_ca (goodIn_ca (goodIn_r _ [88, 13, 14, 15, 11, 16, 17, 18, 19, 20, 21, 22, 23, 24, 25, 26, 27, 28, 29, 30, 31, 32, 33, 34, 89, 90, 91, 38, 92, 93, 82, 83, 84, 44, 94, 95, 96, 97, 98, 99, 100, 101, 56, 57, 58, 59, 102, 103, 104, 105, 49, 50, 51, 45, 46, 47, 48, 160, 161, 162, 163, 164, 165, 166, 167, 168, 169, 170, 171, 172, 173, 174, 175, 176, 177, 178, 179, 180] (by decide +kernel) (by decide +kernel)) (goodIn_sub (fun _ h => List.mem_cons_of_mem _ (List.mem_append_left _ (List.mem_append_left _ (List.mem_append_right _ h)))) (by decide +kernel))) (goodIn_sub (fun _ h => List.mem_cons_of_mem _ (List.mem_append_left _ (List.mem_append_right _ h))) (by decide +kernel))
set_option maxRecDepth 20000 in
theorem gL_isDate_X4_dayOfDate : GoodIn wsL_isDate (wsV RL 97 RX4 yX4_dayOfDate wsX4_dayOfDate) := goodIn_app (goodIn_of _ (by decide +kernel)) ggL_isDate_X4_dayOfDate
set_option maxRecDepth 20000 in
theorem ggL_isDate_X4_writeDate : GoodIn wsL_isDate wsX4_writeDate := goodIn_ca (goodIn_ca (goodIn_r _ [109, 110, 13, 14, 15, 11, 16, 17, 18, 19, 20, 21, 22, 23, 24, 25, 26, 27, 28, 29, 30, 31, 32, 33, 34, 111, 112, 113, 114, 115, 116, 117, 35, 36, 37, 38, 39, 40, 41, 42, 43, 44, 45, 46, 47, 48, 49, 50, 51, 52, 53, 54, 55, 56, 57, 58, 59, 118, 119, 120, 121, 122, 64, 69, 70, 71, 72, 160, 161, 162, 163, 164, 165, 166, 181, 182, 167, 168, 169, 170, 171, 172, 173, 174, 175, 176, 177, 178, 179, 180] (by decide +kernel) (by decide +kernel)) (goodIn_sub (fun _ h => List.mem_cons_of_mem _ (List.mem_append_left _ (List.mem_append_left _ (List.mem_append_right _ h)))) (by decide +kernel))) (goodIn_sub (fun _ h => List.mem_cons_of_mem _ (List.mem_append_left _ (List.mem_append_right _ h))) (by decide +kernel))
set_option maxRecDepth 20000 in
theorem gL_isDate_X4_writeDate : GoodIn wsL_isDate (wsV RL 101 RX4 yX4_writeDate wsX4_writeDate) := goodIn_app (goodIn_of _ (by decide +kernel)) ggL_isDate_X4_writeDate
set_option maxRecDepth 20000 in
theorem ggL_isDate_X4_textLength : GoodIn wsL_isDate wsX4_textLength := goodIn_r _ [126, 110, 160, 161, 162, 163, 164, 165, 166, 181, 182] (by decide +kernel) (by decide +kernel)
set_option maxRecDepth 20000 in
theorem gL_isDate_X4_textLength : GoodIn wsL_isDate (wsV RL 104 RX4 yX4_textLength wsX4_textLength) := goodIn_app (goodIn_of _ (by decide +kernel)) ggL_isDate_X4_textLength
set_option maxRecDepth 20000 in
theorem ggL_isDate_X4_textError : GoodIn wsL_isDate wsX4_textError := goodIn_r _ [130, 110, 131, 132, 133, 114, 134, 116, 117, 135, 136, 137, 160, 161, 162, 163, 164, 165, 166, 181, 182] (by decide +kernel) (by decide +kernel)
set_option maxRecDepth 20000 in
theorem gL_isDate_X4_textError : GoodIn wsL_isDate (wsV RL 107 RX4 yX4_textError wsX4_textError) := goodIn_app (goodIn_of _ (by decide +kernel)) ggL_isDate_X4_textError
set_option maxRecDepth 20000 in
theorem ggL_isDate_X4_dayOfText : GoodIn wsL_isDate wsX4_dayOfText := goodIn_ca (goodIn_r _ [141, 142, 143, 110, 17, 131, 132, 133, 114, 134, 116, 117, 135, 136, 137, 144, 145, 146, 147, 23, 24, 25, 26, 27, 28, 29, 148, 149, 150, 151, 89, 90, 91, 38, 92, 93, 82, 83, 84, 44, 94, 95, 96, 97, 98, 99, 100, 101, 56, 57, 58, 59, 102, 103, 104, 105, 49, 50, 51, 45, 46, 47, 48, 160, 161, 162, 163, 164, 165, 166, 181, 182, 167, 168, 169, 170, 171, 172, 173, 174, 175, 176, 177, 178, 179, 180] (by decide +kernel) (by decide +kernel)) (goodIn_sub (fun _ h => List.mem_cons_of_mem _ (List.mem_append_right _ h)) (by decide +kernel))
set_option maxRecDepth 20000 in
theorem gL_isDate_X4_dayOfText : GoodIn wsL_isDate (wsV RL 110 RX4 yX4_dayOfText wsX4_dayOfText) := goodIn_app (goodIn_of _ (by decide +kernel)) ggL_isDate_X4_dayOfText
set_option maxRecDepth 20000 in
theorem ggL_isDate_X4_textCharacter : GoodIn wsL_isDate wsX4_textCharacter := goodIn_ca (goodIn_r _ [155, 110, 18, 19, 11, 20, 21, 22, 160, 161, 162, 163, 164, 165, 166, 181, 182] (by decide +kernel) (by decide +kernel)) (goodIn_sub (fun _ h => List.mem_cons_of_mem _ (List.mem_append_left _ (List.mem_append_left _ (List.mem_append_right _ h)))) (by decide +kernel))
set_option maxRecDepth 20000 in
theorem gL_isDate_X4_textCharacter : GoodIn wsL_isDate (wsV RL 113 RX4 yX4_textCharacter wsX4_textCharacter) := goodIn_app (goodIn_of _ (by decide +kernel)) ggL_isDate_X4_textCharacter
set_option maxRecDepth 20000 in
theorem ggL_isDate_X4_clearText : GoodIn wsL_isDate wsX4_clearText := goodIn_r _ [159, 110, 160, 161, 162, 163, 164, 165, 166, 181, 182] (by decide +kernel) (by decide +kernel)
set_option maxRecDepth 20000 in
theorem gL_isDate_X4_clearText : GoodIn wsL_isDate (wsV RL 116 RX4 yX4_clearText wsX4_clearText) := goodIn_app (goodIn_of _ (by decide +kernel)) ggL_isDate_X4_clearText
theorem dL_isDate_0 : decode cL_isDate 0 = .ok (.aload_n 1, 1) := by decide +kernel
theorem dL_isDate_1 : decode cL_isDate 1 = .ok (.iload_n 2, 1) := by decide +kernel
theorem dL_isDate_2 : decode cL_isDate 2 = .ok (.iload_n 3, 1) := by decide +kernel
theorem dL_isDate_3 : decode cL_isDate 3 = .ok (.invokestatic 15, 3) := by decide +kernel
theorem dL_isDate_6 : decode cL_isDate 6 = .ok (.istore 4, 2) := by decide +kernel
theorem dL_isDate_8 : decode cL_isDate 8 = .ok (.iload 4, 2) := by decide +kernel
theorem dL_isDate_10 : decode cL_isDate 10 = .ok (.sipush 10000, 3) := by decide +kernel
theorem dL_isDate_13 : decode cL_isDate 13 = .ok (.idiv, 1) := by decide +kernel
theorem dL_isDate_14 : decode cL_isDate 14 = .ok (.istore 5, 2) := by decide +kernel
theorem dL_isDate_16 : decode cL_isDate 16 = .ok (.iload 4, 2) := by decide +kernel
theorem dL_isDate_18 : decode cL_isDate 18 = .ok (.bipush 100, 2) := by decide +kernel
theorem dL_isDate_20 : decode cL_isDate 20 = .ok (.idiv, 1) := by decide +kernel
theorem dL_isDate_21 : decode cL_isDate 21 = .ok (.bipush 100, 2) := by decide +kernel
theorem dL_isDate_23 : decode cL_isDate 23 = .ok (.irem, 1) := by decide +kernel
theorem dL_isDate_24 : decode cL_isDate 24 = .ok (.istore 6, 2) := by decide +kernel
theorem dL_isDate_26 : decode cL_isDate 26 = .ok (.aload_n 0, 1) := by decide +kernel
theorem dL_isDate_27 : decode cL_isDate 27 = .ok (.iload_n 2, 1) := by decide +kernel
theorem dL_isDate_28 : decode cL_isDate 28 = .ok (.iload_n 3, 1) := by decide +kernel
theorem dL_isDate_29 : decode cL_isDate 29 = .ok (.invokevirtual 82, 3) := by decide +kernel
theorem dL_isDate_32 : decode cL_isDate 32 = .ok (.iload 4, 2) := by decide +kernel
theorem dL_isDate_34 : decode cL_isDate 34 = .ok (.bipush 100, 2) := by decide +kernel
theorem dL_isDate_36 : decode cL_isDate 36 = .ok (.irem, 1) := by decide +kernel
theorem dL_isDate_37 : decode cL_isDate 37 = .ok (.if_icmp .ne 82, 3) := by decide +kernel
theorem dL_isDate_40 : decode cL_isDate 40 = .ok (.aload_n 0, 1) := by decide +kernel
theorem dL_isDate_41 : decode cL_isDate 41 = .ok (.iload_n 2, 1) := by decide +kernel
theorem dL_isDate_42 : decode cL_isDate 42 = .ok (.iload_n 3, 1) := by decide +kernel
theorem dL_isDate_43 : decode cL_isDate 43 = .ok (.invokevirtual 85, 3) := by decide +kernel
theorem dL_isDate_46 : decode cL_isDate 46 = .ok (.iload 6, 2) := by decide +kernel
theorem dL_isDate_48 : decode cL_isDate 48 = .ok (.if_icmp .ne 71, 3) := by decide +kernel
theorem dL_isDate_51 : decode cL_isDate 51 = .ok (.aload_n 0, 1) := by decide +kernel
theorem dL_isDate_52 : decode cL_isDate 52 = .ok (.iload_n 2, 1) := by decide +kernel
theorem dL_isDate_53 : decode cL_isDate 53 = .ok (.iload_n 3, 1) := by decide +kernel
theorem dL_isDate_54 : decode cL_isDate 54 = .ok (.invokevirtual 88, 3) := by decide +kernel
theorem dL_isDate_57 : decode cL_isDate 57 = .ok (.iload 5, 2) := by decide +kernel
theorem dL_isDate_59 : decode cL_isDate 59 = .ok (.if_icmp .ne 60, 3) := by decide +kernel
theorem dL_isDate_62 : decode cL_isDate 62 = .ok (.aload_n 0, 1) := by decide +kernel
theorem dL_isDate_63 : decode cL_isDate 63 = .ok (.iload_n 3, 1) := by decide +kernel
theorem dL_isDate_64 : decode cL_isDate 64 = .ok (.invokevirtual 91, 3) := by decide +kernel
theorem dL_isDate_67 : decode cL_isDate 67 = .ok (.iload_n 3, 1) := by decide +kernel
theorem dL_isDate_68 : decode cL_isDate 68 = .ok (.bipush 7, 2) := by decide +kernel
theorem dL_isDate_70 : decode cL_isDate 70 = .ok (.irem, 1) := by decide +kernel
theorem dL_isDate_71 : decode cL_isDate 71 = .ok (.if_icmp .ne 48, 3) := by decide +kernel
theorem dL_isDate_74 : decode cL_isDate 74 = .ok (.aload_n 0, 1) := by decide +kernel
theorem dL_isDate_75 : decode cL_isDate 75 = .ok (.iload_n 2, 1) := by decide +kernel
theorem dL_isDate_76 : decode cL_isDate 76 = .ok (.iload 6, 2) := by decide +kernel
theorem dL_isDate_78 : decode cL_isDate 78 = .ok (.invokevirtual 94, 3) := by decide +kernel
theorem dL_isDate_81 : decode cL_isDate 81 = .ok (.iload_n 2, 1) := by decide +kernel
theorem dL_isDate_82 : decode cL_isDate 82 = .ok (.iload 6, 2) := by decide +kernel
theorem dL_isDate_84 : decode cL_isDate 84 = .ok (.invokestatic 9, 3) := by decide +kernel
theorem dL_isDate_87 : decode cL_isDate 87 = .ok (.if_icmp .ne 32, 3) := by decide +kernel
theorem dL_isDate_90 : decode cL_isDate 90 = .ok (.iload 5, 2) := by decide +kernel
theorem dL_isDate_92 : decode cL_isDate 92 = .ok (.bipush 60, 2) := by decide +kernel
theorem dL_isDate_94 : decode cL_isDate 94 = .ok (.if_icmp .gt 21, 3) := by decide +kernel
theorem dL_isDate_97 : decode cL_isDate 97 = .ok (.aload_n 0, 1) := by decide +kernel
theorem dL_isDate_98 : decode cL_isDate 98 = .ok (.iload_n 2, 1) := by decide +kernel
theorem dL_isDate_99 : decode cL_isDate 99 = .ok (.iload 5, 2) := by decide +kernel
theorem dL_isDate_101 : decode cL_isDate 101 = .ok (.iload 6, 2) := by decide +kernel
theorem dL_isDate_103 : decode cL_isDate 103 = .ok (.iload 4, 2) := by decide +kernel
theorem dL_isDate_105 : decode cL_isDate 105 = .ok (.bipush 100, 2) := by decide +kernel
theorem dL_isDate_107 : decode cL_isDate 107 = .ok (.irem, 1) := by decide +kernel
theorem dL_isDate_108 : decode cL_isDate 108 = .ok (.invokevirtual 97, 3) := by decide +kernel
theorem dL_isDate_111 : decode cL_isDate 111 = .ok (.iload_n 3, 1) := by decide +kernel
theorem dL_isDate_112 : decode cL_isDate 112 = .ok (.if_icmp .ne 7, 3) := by decide +kernel
theorem dL_isDate_115 : decode cL_isDate 115 = .ok (.iconst 1, 1) := by decide +kernel
theorem dL_isDate_116 : decode cL_isDate 116 = .ok (.goto 4, 3) := by decide +kernel
theorem dL_isDate_119 : decode cL_isDate 119 = .ok (.iconst 0, 1) := by decide +kernel
theorem dL_isDate_120 : decode cL_isDate 120 = .ok (.istore 7, 2) := by decide +kernel
theorem dL_isDate_122 : decode cL_isDate 122 = .ok (.bipush 100, 2) := by decide +kernel
theorem dL_isDate_124 : decode cL_isDate 124 = .ok (.iconst 1, 1) := by decide +kernel
theorem dL_isDate_125 : decode cL_isDate 125 = .ok (.iload_n 3, 1) := by decide +kernel
theorem dL_isDate_126 : decode cL_isDate 126 = .ok (.bipush 12, 2) := by decide +kernel
theorem dL_isDate_128 : decode cL_isDate 128 = .ok (.irem, 1) := by decide +kernel
theorem dL_isDate_129 : decode cL_isDate 129 = .ok (.iadd, 1) := by decide +kernel
theorem dL_isDate_130 : decode cL_isDate 130 = .ok (.imul, 1) := by decide +kernel
theorem dL_isDate_131 : decode cL_isDate 131 = .ok (.iconst 1, 1) := by decide +kernel
theorem dL_isDate_132 : decode cL_isDate 132 = .ok (.iadd, 1) := by decide +kernel
theorem dL_isDate_133 : decode cL_isDate 133 = .ok (.iload_n 3, 1) := by decide +kernel
theorem dL_isDate_134 : decode cL_isDate 134 = .ok (.bipush 12, 2) := by decide +kernel
theorem dL_isDate_136 : decode cL_isDate 136 = .ok (.idiv, 1) := by decide +kernel
theorem dL_isDate_137 : decode cL_isDate 137 = .ok (.bipush 31, 2) := by decide +kernel
theorem dL_isDate_139 : decode cL_isDate 139 = .ok (.irem, 1) := by decide +kernel
theorem dL_isDate_140 : decode cL_isDate 140 = .ok (.iadd, 1) := by decide +kernel
theorem dL_isDate_141 : decode cL_isDate 141 = .ok (.istore 8, 2) := by decide +kernel
theorem dL_isDate_143 : decode cL_isDate 143 = .ok (.iconst (-1), 1) := by decide +kernel
theorem dL_isDate_144 : decode cL_isDate 144 = .ok (.istore 9, 2) := by decide +kernel
theorem dL_isDate_146 : decode cL_isDate 146 = .ok (.iload_n 3, 1) := by decide +kernel
theorem dL_isDate_147 : decode cL_isDate 147 = .ok (.sipush 400, 3) := by decide +kernel
theorem dL_isDate_150 : decode cL_isDate 150 = .ok (.if_icmp .ge 7, 3) := by decide +kernel
theorem dL_isDate_153 : decode cL_isDate 153 = .ok (.iconst 0, 1) := by decide +kernel
theorem dL_isDate_154 : decode cL_isDate 154 = .ok (.goto 8, 3) := by decide +kernel
theorem dL_isDate_157 : decode cL_isDate 157 = .ok (.iload_n 3, 1) := by decide +kernel
theorem dL_isDate_158 : decode cL_isDate 158 = .ok (.sipush 400, 3) := by decide +kernel
theorem dL_isDate_161 : decode cL_isDate 161 = .ok (.isub, 1) := by decide +kernel
theorem dL_isDate_162 : decode cL_isDate 162 = .ok (.istore 10, 2) := by decide +kernel
theorem dL_isDate_164 : decode cL_isDate 164 = .ok (.iload 10, 2) := by decide +kernel
theorem dL_isDate_166 : decode cL_isDate 166 = .ok (.iload_n 3, 1) := by decide +kernel
theorem dL_isDate_167 : decode cL_isDate 167 = .ok (.sipush 400, 3) := by decide +kernel
theorem dL_isDate_170 : decode cL_isDate 170 = .ok (.iadd, 1) := by decide +kernel
theorem dL_isDate_171 : decode cL_isDate 171 = .ok (.if_icmp .ge 37, 3) := by decide +kernel
theorem dL_isDate_174 : decode cL_isDate 174 = .ok (.aload_n 1, 1) := by decide +kernel
theorem dL_isDate_175 : decode cL_isDate 175 = .ok (.iload_n 2, 1) := by decide +kernel
theorem dL_isDate_176 : decode cL_isDate 176 = .ok (.iload 10, 2) := by decide +kernel
theorem dL_isDate_178 : decode cL_isDate 178 = .ok (.invokestatic 15, 3) := by decide +kernel
theorem dL_isDate_181 : decode cL_isDate 181 = .ok (.sipush 10000, 3) := by decide +kernel
theorem dL_isDate_184 : decode cL_isDate 184 = .ok (.iload 5, 2) := by decide +kernel
theorem dL_isDate_186 : decode cL_isDate 186 = .ok (.imul, 1) := by decide +kernel
theorem dL_isDate_187 : decode cL_isDate 187 = .ok (.iload 8, 2) := by decide +kernel
theorem dL_isDate_189 : decode cL_isDate 189 = .ok (.iadd, 1) := by decide +kernel
theorem dL_isDate_190 : decode cL_isDate 190 = .ok (.if_icmp .ne 8, 3) := by decide +kernel
theorem dL_isDate_193 : decode cL_isDate 193 = .ok (.iload 10, 2) := by decide +kernel
theorem dL_isDate_195 : decode cL_isDate 195 = .ok (.goto 5, 3) := by decide +kernel
theorem dL_isDate_198 : decode cL_isDate 198 = .ok (.iload 9, 2) := by decide +kernel
theorem dL_isDate_200 : decode cL_isDate 200 = .ok (.istore 9, 2) := by decide +kernel
theorem dL_isDate_202 : decode cL_isDate 202 = .ok (.iinc 10 1, 3) := by decide +kernel
theorem dL_isDate_205 : decode cL_isDate 205 = .ok (.goto (-41), 3) := by decide +kernel
theorem dL_isDate_208 : decode cL_isDate 208 = .ok (.iload 7, 2) := by decide +kernel
theorem dL_isDate_210 : decode cL_isDate 210 = .ok (.ifCond .eq 36, 3) := by decide +kernel
theorem dL_isDate_213 : decode cL_isDate 213 = .ok (.iload 5, 2) := by decide +kernel
theorem dL_isDate_215 : decode cL_isDate 215 = .ok (.bipush 60, 2) := by decide +kernel
theorem dL_isDate_217 : decode cL_isDate 217 = .ok (.if_icmp .gt 25, 3) := by decide +kernel
theorem dL_isDate_220 : decode cL_isDate 220 = .ok (.aload_n 0, 1) := by decide +kernel
theorem dL_isDate_221 : decode cL_isDate 221 = .ok (.iload_n 2, 1) := by decide +kernel
theorem dL_isDate_222 : decode cL_isDate 222 = .ok (.iload 5, 2) := by decide +kernel
theorem dL_isDate_224 : decode cL_isDate 224 = .ok (.iload 8, 2) := by decide +kernel
theorem dL_isDate_226 : decode cL_isDate 226 = .ok (.bipush 100, 2) := by decide +kernel
theorem dL_isDate_228 : decode cL_isDate 228 = .ok (.idiv, 1) := by decide +kernel
theorem dL_isDate_229 : decode cL_isDate 229 = .ok (.iload 8, 2) := by decide +kernel
theorem dL_isDate_231 : decode cL_isDate 231 = .ok (.bipush 100, 2) := by decide +kernel
theorem dL_isDate_233 : decode cL_isDate 233 = .ok (.irem, 1) := by decide +kernel
theorem dL_isDate_234 : decode cL_isDate 234 = .ok (.invokevirtual 97, 3) := by decide +kernel
theorem dL_isDate_237 : decode cL_isDate 237 = .ok (.iload 9, 2) := by decide +kernel
theorem dL_isDate_239 : decode cL_isDate 239 = .ok (.if_icmp .ne 7, 3) := by decide +kernel
theorem dL_isDate_242 : decode cL_isDate 242 = .ok (.iconst 1, 1) := by decide +kernel
theorem dL_isDate_243 : decode cL_isDate 243 = .ok (.goto 4, 3) := by decide +kernel
theorem dL_isDate_246 : decode cL_isDate 246 = .ok (.iconst 0, 1) := by decide +kernel
theorem dL_isDate_247 : decode cL_isDate 247 = .ok (.istore 7, 2) := by decide +kernel
theorem dL_isDate_249 : decode cL_isDate 249 = .ok (.aload_n 0, 1) := by decide +kernel
theorem dL_isDate_250 : decode cL_isDate 250 = .ok (.iload_n 2, 1) := by decide +kernel
theorem dL_isDate_251 : decode cL_isDate 251 = .ok (.iload_n 3, 1) := by decide +kernel
theorem dL_isDate_252 : decode cL_isDate 252 = .ok (.invokevirtual 101, 3) := by decide +kernel
theorem dL_isDate_255 : decode cL_isDate 255 = .ok (.istore 10, 2) := by decide +kernel
theorem dL_isDate_257 : decode cL_isDate 257 = .ok (.iload 7, 2) := by decide +kernel
theorem dL_isDate_259 : decode cL_isDate 259 = .ok (.ifCond .eq 53, 3) := by decide +kernel
theorem dL_isDate_262 : decode cL_isDate 262 = .ok (.iload 10, 2) := by decide +kernel
theorem dL_isDate_264 : decode cL_isDate 264 = .ok (.aload_n 0, 1) := by decide +kernel
theorem dL_isDate_265 : decode cL_isDate 265 = .ok (.invokevirtual 104, 3) := by decide +kernel
theorem dL_isDate_268 : decode cL_isDate 268 = .ok (.if_icmp .ne 44, 3) := by decide +kernel
theorem dL_isDate_271 : decode cL_isDate 271 = .ok (.aload_n 0, 1) := by decide +kernel
theorem dL_isDate_272 : decode cL_isDate 272 = .ok (.invokevirtual 107, 3) := by decide +kernel
theorem dL_isDate_275 : decode cL_isDate 275 = .ok (.iconst (-1), 1) := by decide +kernel
theorem dL_isDate_276 : decode cL_isDate 276 = .ok (.if_icmp .ne 36, 3) := by decide +kernel
theorem dL_isDate_279 : decode cL_isDate 279 = .ok (.aload_n 0, 1) := by decide +kernel
theorem dL_isDate_280 : decode cL_isDate 280 = .ok (.invokevirtual 110, 3) := by decide +kernel
theorem dL_isDate_283 : decode cL_isDate 283 = .ok (.iload_n 3, 1) := by decide +kernel
theorem dL_isDate_284 : decode cL_isDate 284 = .ok (.if_icmp .ne 28, 3) := by decide +kernel
theorem dL_isDate_287 : decode cL_isDate 287 = .ok (.aload_n 0, 1) := by decide +kernel
theorem dL_isDate_288 : decode cL_isDate 288 = .ok (.iconst 0, 1) := by decide +kernel
theorem dL_isDate_289 : decode cL_isDate 289 = .ok (.invokevirtual 113, 3) := by decide +kernel
theorem dL_isDate_292 : decode cL_isDate 292 = .ok (.bipush 65, 2) := by decide +kernel
theorem dL_isDate_294 : decode cL_isDate 294 = .ok (.iload_n 2, 1) := by decide +kernel
theorem dL_isDate_295 : decode cL_isDate 295 = .ok (.iadd, 1) := by decide +kernel
theorem dL_isDate_296 : decode cL_isDate 296 = .ok (.if_icmp .ne 16, 3) := by decide +kernel
theorem dL_isDate_299 : decode cL_isDate 299 = .ok (.aload_n 0, 1) := by decide +kernel
theorem dL_isDate_300 : decode cL_isDate 300 = .ok (.invokevirtual 116, 3) := by decide +kernel
theorem dL_isDate_303 : decode cL_isDate 303 = .ok (.iload 10, 2) := by decide +kernel
theorem dL_isDate_305 : decode cL_isDate 305 = .ok (.if_icmp .ne 7, 3) := by decide +kernel
theorem dL_isDate_308 : decode cL_isDate 308 = .ok (.iconst 1, 1) := by decide +kernel
theorem dL_isDate_309 : decode cL_isDate 309 = .ok (.goto 4, 3) := by decide +kernel
theorem dL_isDate_312 : decode cL_isDate 312 = .ok (.iconst 0, 1) := by decide +kernel
theorem dL_isDate_313 : decode cL_isDate 313 = .ok (.ireturn, 1) := by decide +kernel
set_option maxRecDepth 20000 in
theorem ggL_isFeast_L_date : GoodIn wsL_isFeast wsL_date := goodIn_r _ [4, 5, 6, 3, 7] (by decide +kernel) (by decide +kernel)
set_option maxRecDepth 20000 in
theorem gL_isFeast_L_date : GoodIn wsL_isFeast (va_wsS RL 15 yL_date wsL_date) := goodIn_app (goodIn_of _ (by decide +kernel)) ggL_isFeast_L_date
set_option maxRecDepth 20000 in
theorem ggL_isFeast_L_due : GoodIn wsL_isFeast wsL_due := goodIn_r _ [10, 1, 2, 3, 4, 5, 6, 7] (by decide +kernel) (by decide +kernel)
set_option maxRecDepth 20000 in
theorem gL_isFeast_L_due : GoodIn wsL_isFeast (va_wsS RL 23 yL_due wsL_due) := goodIn_app (goodIn_of _ (by decide +kernel)) ggL_isFeast_L_due
set_option maxRecDepth 20000 in
theorem ggL_isFeast_L_later : GoodIn wsL_isFeast wsL_later := goodIn_r _ [13] (by decide +kernel) (by decide +kernel)
set_option maxRecDepth 20000 in
theorem gL_isFeast_L_later : GoodIn wsL_isFeast (va_wsS RL 19 yL_later wsL_later) := goodIn_app (goodIn_of _ (by decide +kernel)) ggL_isFeast_L_later
set_option maxRecDepth 20000 in
theorem ggL_isFeast_X4_dayDue : GoodIn wsL_isFeast wsX4_dayDue := goodIn_ca (goodIn_ca (goodIn_r _ [18, 19, 20, 21, 22, 17, 23, 24, 25, 26, 27, 28, 29, 30, 31, 32, 33, 34, 35, 36, 37, 38, 39, 40, 41, 42, 43, 44, 45, 46, 47, 48, 49, 50, 51, 52, 53, 54, 55, 56, 57, 58, 59, 60, 61, 62, 63, 64, 65, 66, 67, 68, 69, 70, 71, 72, 73, 74, 75, 76, 77, 89, 90, 91, 92, 93, 94, 95, 96, 97, 98, 99, 100, 101, 102, 103, 104, 105, 106, 107, 108, 109, 110, 111, 112, 113] (by decide +kernel) (by decide +kernel)) (goodIn_sub (fun _ h => List.mem_cons_of_mem _ (List.mem_append_left _ (List.mem_append_right _ h))) (by decide +kernel))) (goodIn_sub (fun _ h => List.mem_cons_of_mem _ (List.mem_append_right _ h)) (by decide +kernel))
set_option maxRecDepth 20000 in
theorem gL_isFeast_X4_dayDue : GoodIn wsL_isFeast (wsV RL 119 RX4 yX4_dayDue wsX4_dayDue) := goodIn_app (goodIn_of _ (by decide +kernel)) ggL_isFeast_X4_dayDue
set_option maxRecDepth 20000 in
theorem ggL_isFeast_X4_dayKept : GoodIn wsL_isFeast wsX4_dayKept := goodIn_ca (goodIn_ca (goodIn_r _ [81, 19, 20, 21, 22, 17, 23, 24, 25, 26, 27, 28, 29, 30, 31, 32, 33, 82, 83, 84, 37, 85, 86, 87, 35, 36, 38, 39, 40, 88, 42, 43, 44, 45, 46, 47, 48, 49, 50, 51, 52, 53, 54, 55, 56, 57, 58, 59, 60, 61, 62, 63, 64, 65, 66, 67, 68, 69, 70, 71, 72, 73, 74, 75, 76, 77, 89, 90, 91, 92, 93, 94, 95, 100, 101, 102, 103, 104, 105, 106, 107, 108, 96, 97, 98, 99, 109, 110, 111, 112, 113] (by decide +kernel) (by decide +kernel)) (goodIn_sub (fun _ h => List.mem_cons_of_mem _ (List.mem_append_left _ (List.mem_append_right _ h))) (by decide +kernel))) (goodIn_sub (fun _ h => List.mem_cons_of_mem _ (List.mem_append_right _ h)) (by decide +kernel))
set_option maxRecDepth 20000 in
theorem gL_isFeast_X4_dayKept : GoodIn wsL_isFeast (wsV RL 122 RX4 yX4_dayKept wsX4_dayKept) := goodIn_app (goodIn_of _ (by decide +kernel)) ggL_isFeast_X4_dayKept

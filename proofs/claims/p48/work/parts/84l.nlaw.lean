set_option maxRecDepth 20000 in
theorem hh_L_isBest_0 : GoodIn wsL_law (Cond.code yL_isBest cL_isBest 10 (some .boolean) :: wsL_isBest_r1) := goodIn_r _ [462, 457, 458, 66, 459, 426, 427, 428, 210, 211, 212, 213, 214, 215, 216, 217, 218, 219, 220, 221, 222, 223, 224, 225, 226] (by decide +kernel) (by decide +kernel)
set_option maxRecDepth 20000 in
theorem hh_L_isBest_1 : GoodIn wsL_law wsL_isBest_r2 := goodIn_r _ [227, 228, 229, 230, 463, 464, 465, 2, 466, 13, 125, 126, 127, 128, 88, 89, 90, 91, 92, 235, 236, 237, 238, 23] (by decide +kernel) (by decide +kernel)
set_option maxRecDepth 20000 in
theorem hh_L_isBest_2 : GoodIn wsL_law wsL_isBest_r3 := goodIn_r _ [239, 240, 241, 12, 242, 35, 34, 243, 94, 95, 96, 31, 32, 244, 245, 246, 30, 247, 51, 248, 249, 250, 251, 49] (by decide +kernel) (by decide +kernel)
set_option maxRecDepth 20000 in
theorem hh_L_isBest_3 : GoodIn wsL_law wsL_isBest_r4 := goodIn_r _ [47, 48, 252, 253, 254, 255, 256, 257, 258, 259, 260, 261, 262, 263, 36, 264, 265, 266, 267, 268, 269, 270, 271, 272] (by decide +kernel) (by decide +kernel)
set_option maxRecDepth 20000 in
theorem hh_L_isBest_4 : GoodIn wsL_law wsL_isBest_r5 := goodIn_r _ [273, 274, 275, 276, 277, 278, 279, 280, 281, 282, 283, 284, 285, 286, 287, 288, 289, 290, 291, 292, 293, 294, 295, 296] (by decide +kernel) (by decide +kernel)
set_option maxRecDepth 20000 in
theorem ggL_law_L_isBest : GoodIn wsL_law wsL_isBest := (goodIn_ca (goodIn_ca (goodIn_ca (goodIn_ca (goodIn_ca (goodIn_ca hh_L_isBest_0 (goodIn_app hh_L_isBest_1 (goodIn_app hh_L_isBest_2 (goodIn_app hh_L_isBest_3 hh_L_isBest_4)))) (goodIn_sub inlX1 (by decide +kernel))) (goodIn_sub inlX4 (by decide +kernel))) (goodIn_sub inlX2 (by decide +kernel))) (goodIn_sub inlX3 (by decide +kernel))) (goodIn_sub (fun _ h => List.mem_append_left _ (List.mem_append_left _ (List.mem_append_right _ h))) (by decide +kernel)))
set_option maxRecDepth 20000 in
theorem gL_law_L_isBest : GoodIn wsL_law (va_wsS RL 207 yL_isBest wsL_isBest) := goodIn_app (goodIn_of _ (by decide +kernel)) ggL_law_L_isBest

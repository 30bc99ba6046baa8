set_option maxRecDepth 20000 in
theorem hh_L_areDays_0 : GoodIn wsL_law (Cond.code yL_areDays cL_areDays 8 (some .boolean) :: wsL_areDays_r1) := goodIn_r _ [417, 210, 211, 66, 212, 213, 214, 215, 216, 217, 218, 219, 220, 221, 222, 223, 224, 225, 226, 227, 418, 419, 420, 2, 421] (by decide +kernel) (by decide +kernel)
set_option maxRecDepth 20000 in
theorem hh_L_areDays_1 : GoodIn wsL_law wsL_areDays_r2 := goodIn_r _ [13, 23, 148, 149, 150, 151, 152, 239, 240, 241, 12, 242, 35, 34, 243, 94, 95, 96, 31, 32, 244, 245, 246, 30] (by decide +kernel) (by decide +kernel)
set_option maxRecDepth 20000 in
theorem hh_L_areDays_2 : GoodIn wsL_law wsL_areDays_r3 := goodIn_r _ [247, 51, 248, 249, 250, 251, 49, 47, 48, 252, 253, 254, 255, 256, 257, 258, 259, 260, 261, 262, 263, 36, 264, 265] (by decide +kernel) (by decide +kernel)
set_option maxRecDepth 20000 in
theorem hh_L_areDays_3 : GoodIn wsL_law wsL_areDays_r4 := goodIn_r _ [266, 267, 268, 269, 270, 271, 272, 273, 274, 275, 276, 277, 278, 279, 280, 281, 282, 283, 284, 285, 286, 287, 288, 422] (by decide +kernel) (by decide +kernel)
set_option maxRecDepth 20000 in
theorem hh_L_areDays_4 : GoodIn wsL_law wsL_areDays_r5 := goodIn_r _ [423, 424, 425, 235, 236, 237, 238, 289, 290, 291, 292, 293, 294, 295, 296, 426, 427, 428, 228, 229, 230, 429, 430, 431] (by decide +kernel) (by decide +kernel)
set_option maxRecDepth 20000 in
theorem hh_L_areDays_5 : GoodIn wsL_law wsL_areDays_r6 := goodIn_r _ [432, 125, 126, 127, 128, 88, 89, 90, 91, 92, 433, 434, 435, 436] (by decide +kernel) (by decide +kernel)
set_option maxRecDepth 20000 in
theorem ggL_law_L_areDays : GoodIn wsL_law wsL_areDays := (goodIn_ca (goodIn_ca (goodIn_ca (goodIn_ca (goodIn_ca (goodIn_ca (goodIn_ca hh_L_areDays_0 (goodIn_app hh_L_areDays_1 (goodIn_app hh_L_areDays_2 (goodIn_app hh_L_areDays_3 (goodIn_app hh_L_areDays_4 hh_L_areDays_5))))) (goodIn_sub inlX4 (by decide +kernel))) (goodIn_sub inlX2 (by decide +kernel))) (goodIn_sub inlX1 (by decide +kernel))) (goodIn_sub inlX3 (by decide +kernel))) (goodIn_sub (fun _ h => List.mem_append_left _ (List.mem_append_right _ h)) (by decide +kernel))) (goodIn_sub (fun _ h => List.mem_append_left _ (List.mem_append_left _ (List.mem_append_right _ h))) (by decide +kernel)))
set_option maxRecDepth 20000 in
theorem gL_law_L_areDays : GoodIn wsL_law (va_wsS RL 199 yL_areDays wsL_areDays) := goodIn_app (goodIn_of _ (by decide +kernel)) ggL_law_L_areDays

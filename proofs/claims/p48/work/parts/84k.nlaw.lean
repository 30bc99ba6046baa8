set_option maxRecDepth 20000 in
theorem hh_L_isAhead_0 : GoodIn wsL_law (Cond.code yL_isAhead cL_isAhead 10 (some .boolean) :: wsL_isAhead_r1) := goodIn_r _ [439, 213, 214, 66, 215, 216, 217, 218, 219, 220, 221, 222, 223, 224, 225, 226, 227, 440, 441, 442, 2, 443, 13, 125, 126] (by decide +kernel) (by decide +kernel)
set_option maxRecDepth 20000 in
theorem hh_L_isAhead_1 : GoodIn wsL_law wsL_isAhead_r2 := goodIn_r _ [127, 128, 88, 89, 90, 91, 92, 433, 434, 435, 12, 436, 243, 94, 95, 96, 31, 32, 244, 245, 246, 30, 247, 51] (by decide +kernel) (by decide +kernel)
set_option maxRecDepth 20000 in
theorem hh_L_isAhead_2 : GoodIn wsL_law wsL_isAhead_r3 := goodIn_r _ [248, 249, 250, 251, 49, 47, 48, 252, 253, 254, 255, 256, 257, 258, 259, 260, 261, 262, 263, 36, 264, 265, 266, 267] (by decide +kernel) (by decide +kernel)
set_option maxRecDepth 20000 in
theorem hh_L_isAhead_3 : GoodIn wsL_law wsL_isAhead_r4 := goodIn_r _ [268, 269, 270, 271, 272, 273, 274, 275, 276, 277, 278, 279, 280, 281, 282, 283, 284, 285, 286, 287, 288, 444, 445, 446] (by decide +kernel) (by decide +kernel)
set_option maxRecDepth 20000 in
theorem hh_L_isAhead_4 : GoodIn wsL_law wsL_isAhead_r5 := goodIn_r _ [447, 151, 152, 448, 449, 450, 451, 452, 453, 454, 455, 456, 148, 149, 150, 235, 236, 237, 238, 23, 239, 240, 241, 242] (by decide +kernel) (by decide +kernel)
set_option maxRecDepth 20000 in
theorem hh_L_isAhead_5 : GoodIn wsL_law wsL_isAhead_r6 := goodIn_r _ [35, 34, 289, 290, 291, 292, 293, 294, 295, 296, 457, 458, 459, 426, 427, 428, 210, 211, 212, 228, 229, 230] (by decide +kernel) (by decide +kernel)
set_option maxRecDepth 20000 in
theorem ggL_law_L_isAhead : GoodIn wsL_law wsL_isAhead := (goodIn_ca (goodIn_ca (goodIn_ca (goodIn_ca (goodIn_ca (goodIn_ca (goodIn_ca hh_L_isAhead_0 (goodIn_app hh_L_isAhead_1 (goodIn_app hh_L_isAhead_2 (goodIn_app hh_L_isAhead_3 (goodIn_app hh_L_isAhead_4 hh_L_isAhead_5))))) (goodIn_sub inlX4 (by decide +kernel))) (goodIn_sub inlX2 (by decide +kernel))) (goodIn_sub inlX1 (by decide +kernel))) (goodIn_sub inlX3 (by decide +kernel))) (goodIn_sub (fun _ h => List.mem_append_left _ (List.mem_append_left _ (List.mem_append_right _ h))) (by decide +kernel))) (goodIn_sub (fun _ h => List.mem_append_left _ (List.mem_append_right _ h)) (by decide +kernel)))
set_option maxRecDepth 20000 in
theorem gL_law_L_isAhead : GoodIn wsL_law (va_wsS RL 203 yL_isAhead wsL_isAhead) := goodIn_app (goodIn_of _ (by decide +kernel)) ggL_law_L_isAhead

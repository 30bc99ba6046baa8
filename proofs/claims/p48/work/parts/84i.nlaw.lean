set_option maxRecDepth 20000 in
theorem hh_X4_dayKept_0 : GoodIn wsL_law (Cond.code yX4_dayKept cX4_dayKept 4 (some .int) :: wsX4_dayKept_r1) := goodIn_r _ [413, 13, 125, 126, 127, 2, 128, 88, 89, 90, 91, 92, 148, 149, 150, 151, 152, 414, 261, 262, 12, 263, 36, 243, 94] (by decide +kernel) (by decide +kernel)
set_option maxRecDepth 20000 in
theorem hh_X4_dayKept_1 : GoodIn wsL_law wsX4_dayKept_r2 := goodIn_r _ [95, 96, 31, 32, 264, 265, 266, 30, 267, 268, 269, 270, 271, 51, 272, 273, 274, 275, 276, 277, 278, 279, 280, 281] (by decide +kernel) (by decide +kernel)
set_option maxRecDepth 20000 in
theorem hh_X4_dayKept_2 : GoodIn wsL_law wsX4_dayKept_r3 := goodIn_r _ [282, 283, 284, 285, 286, 287, 49, 47, 48, 288, 245, 246, 247, 248, 249, 250, 251] (by decide +kernel) (by decide +kernel)
set_option maxRecDepth 20000 in
theorem ggL_law_X4_dayKept : GoodIn wsL_law wsX4_dayKept := (goodIn_ca (goodIn_ca (goodIn_ca (goodIn_ca (goodIn_ca (goodIn_ca (goodIn_ca hh_X4_dayKept_0 (goodIn_app hh_X4_dayKept_1 hh_X4_dayKept_2)) (goodIn_sub inlX4 (by decide +kernel))) (goodIn_sub inlX2 (by decide +kernel))) (goodIn_sub inlX1 (by decide +kernel))) (goodIn_sub inlX3 (by decide +kernel))) (goodIn_sub (fun _ h => List.mem_append_left _ (List.mem_append_left _ (List.mem_append_right _ h))) (by decide +kernel))) (goodIn_sub (fun _ h => List.mem_append_left _ (List.mem_append_right _ h)) (by decide +kernel)))
set_option maxRecDepth 20000 in
theorem gL_law_X4_dayKept : GoodIn wsL_law (wsV RL 122 RX4 yX4_dayKept wsX4_dayKept) := goodIn_app (goodIn_of _ (by decide +kernel)) ggL_law_X4_dayKept

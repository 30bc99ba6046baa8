set_option maxRecDepth 20000 in
theorem hh_X4_isKept_0 : GoodIn wsL_law (Cond.code yX4_isKept cX4_isKept 4 (some .boolean) :: wsX4_isKept_r1) := goodIn_r _ [432, 13, 125, 126, 127, 2, 128, 88, 89, 90, 91, 92, 148, 149, 150, 151, 152, 433, 434, 435, 12, 436, 243, 94, 95] (by decide +kernel) (by decide +kernel)
set_option maxRecDepth 20000 in
theorem hh_X4_isKept_1 : GoodIn wsL_law wsX4_isKept_r2 := goodIn_r _ [96, 31, 32, 244, 245, 246, 30, 247, 51, 248, 249, 250, 251, 49, 47, 48, 252, 253, 254, 255, 256, 257, 258, 259] (by decide +kernel) (by decide +kernel)
set_option maxRecDepth 20000 in
theorem hh_X4_isKept_2 : GoodIn wsL_law wsX4_isKept_r3 := goodIn_r _ [260, 261, 262, 263, 36, 264, 265, 266, 267, 268, 269, 270, 271, 272, 273, 274, 275, 276, 277, 278, 279, 280, 281, 282] (by decide +kernel) (by decide +kernel)
set_option maxRecDepth 20000 in
theorem hh_X4_isKept_3 : GoodIn wsL_law wsX4_isKept_r4 := goodIn_r _ [283, 284, 285, 286, 287, 288] (by decide +kernel) (by decide +kernel)
set_option maxRecDepth 20000 in
theorem ggL_law_X4_isKept : GoodIn wsL_law wsX4_isKept := (goodIn_ca (goodIn_ca (goodIn_ca (goodIn_ca (goodIn_ca (goodIn_ca (goodIn_ca hh_X4_isKept_0 (goodIn_app hh_X4_isKept_1 (goodIn_app hh_X4_isKept_2 hh_X4_isKept_3))) (goodIn_sub inlX4 (by decide +kernel))) (goodIn_sub inlX2 (by decide +kernel))) (goodIn_sub inlX1 (by decide +kernel))) (goodIn_sub inlX3 (by decide +kernel))) (goodIn_sub (fun _ h => List.mem_append_left _ (List.mem_append_left _ (List.mem_append_right _ h))) (by decide +kernel))) (goodIn_sub (fun _ h => List.mem_append_left _ (List.mem_append_right _ h)) (by decide +kernel)))
set_option maxRecDepth 20000 in
theorem gL_law_X4_isKept : GoodIn wsL_law (wsV RL 132 RX4 yX4_isKept wsX4_isKept) := goodIn_app (goodIn_of _ (by decide +kernel)) ggL_law_X4_isKept

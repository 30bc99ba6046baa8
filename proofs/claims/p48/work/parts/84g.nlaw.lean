set_option maxRecDepth 20000 in
theorem hh_L_isFeast_0 : GoodIn wsL_law (Cond.code yL_isFeast cL_isFeast 9 (some .boolean) :: wsL_isFeast_r1) := goodIn_r _ [404, 222, 223, 66, 224, 225, 226, 227, 219, 220, 221, 216, 217, 218, 405, 406, 407, 2, 408, 13, 125, 126, 127, 128, 88] (by decide +kernel) (by decide +kernel)
set_option maxRecDepth 20000 in
theorem hh_L_isFeast_1 : GoodIn wsL_law wsL_isFeast_r2 := goodIn_r _ [89, 90, 91, 92, 148, 149, 150, 151, 152, 93, 94, 95, 12, 96, 31, 32, 409, 265, 266, 30, 267, 268, 269, 270] (by decide +kernel) (by decide +kernel)
set_option maxRecDepth 20000 in
theorem hh_L_isFeast_2 : GoodIn wsL_law wsL_isFeast_r3 := goodIn_r _ [271, 51, 272, 273, 274, 275, 276, 277, 278, 279, 280, 281, 282, 283, 284, 285, 286, 287, 49, 47, 48, 288, 245, 246] (by decide +kernel) (by decide +kernel)
set_option maxRecDepth 20000 in
theorem hh_L_isFeast_3 : GoodIn wsL_law wsL_isFeast_r4 := goodIn_r _ [247, 248, 249, 250, 251, 410, 411, 412, 413, 414, 261, 262, 263, 36, 243, 264] (by decide +kernel) (by decide +kernel)
set_option maxRecDepth 20000 in
theorem ggL_law_L_isFeast : GoodIn wsL_law wsL_isFeast := (goodIn_ca (goodIn_ca (goodIn_ca (goodIn_ca (goodIn_ca (goodIn_ca (goodIn_ca hh_L_isFeast_0 (goodIn_app hh_L_isFeast_1 (goodIn_app hh_L_isFeast_2 hh_L_isFeast_3))) (goodIn_sub inlX4 (by decide +kernel))) (goodIn_sub inlX1 (by decide +kernel))) (goodIn_sub inlX2 (by decide +kernel))) (goodIn_sub inlX3 (by decide +kernel))) (goodIn_sub (fun _ h => List.mem_append_left _ (List.mem_append_left _ (List.mem_append_right _ h))) (by decide +kernel))) (goodIn_sub (fun _ h => List.mem_append_left _ (List.mem_append_right _ h)) (by decide +kernel)))
set_option maxRecDepth 20000 in
theorem gL_law_L_isFeast : GoodIn wsL_law (va_wsS RL 196 yL_isFeast wsL_isFeast) := goodIn_app (goodIn_of _ (by decide +kernel)) ggL_law_L_isFeast

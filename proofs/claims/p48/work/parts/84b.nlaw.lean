set_option maxRecDepth 20000 in
theorem hh_L_isAll_0 : GoodIn wsL_law (Cond.code yL_isAll cL_isAll 7 (some .boolean) :: wsL_isAll_r1) := goodIn_r _ [67, 68, 69, 70, 2, 71, 13, 72, 73, 74, 75, 76, 77, 78, 79, 80, 81, 82, 83, 84, 85, 86, 87, 88, 89] (by decide +kernel) (by decide +kernel)
set_option maxRecDepth 20000 in
theorem hh_L_isAll_1 : GoodIn wsL_law wsL_isAll_r2 := goodIn_r _ [90, 91, 92, 93, 94, 95, 12, 96, 31, 32, 97, 98, 99, 100, 101, 102, 103, 104, 105, 106, 107, 108, 109, 110] (by decide +kernel) (by decide +kernel)
set_option maxRecDepth 20000 in
theorem hh_L_isAll_2 : GoodIn wsL_law wsL_isAll_r3 := goodIn_r _ [111, 112, 113, 114, 115, 116, 117, 118, 119, 120, 121, 122, 123, 124, 125, 126, 127, 128, 129, 130, 131, 132] (by decide +kernel) (by decide +kernel)
set_option maxRecDepth 20000 in
theorem ggL_law_L_isAll : GoodIn wsL_law wsL_isAll := (goodIn_ca (goodIn_ca (goodIn_ca (goodIn_ca (goodIn_ca (goodIn_ca hh_L_isAll_0 (goodIn_app hh_L_isAll_1 hh_L_isAll_2)) (goodIn_sub inlX4 (by decide +kernel))) (goodIn_sub inlX2 (by decide +kernel))) (goodIn_sub inlX3 (by decide +kernel))) (goodIn_sub inlX1 (by decide +kernel))) (goodIn_sub (fun _ h => List.mem_append_left _ (List.mem_append_left _ (List.mem_append_right _ h))) (by decide +kernel)))
set_option maxRecDepth 20000 in
theorem gL_law_L_isAll : GoodIn wsL_law (va_wsS RL 180 yL_isAll wsL_isAll) := goodIn_app (goodIn_of _ (by decide +kernel)) ggL_law_L_isAll

set_option maxRecDepth 20000 in
theorem hh_L_isDate_0 : GoodIn wsL_law (Cond.code yL_isDate cL_isDate 11 (some .boolean) :: wsL_isDate_r1) := goodIn_r _ [310, 222, 223, 66, 224, 225, 226, 227, 311, 312, 313, 2, 314, 84, 85, 86, 87, 13, 88, 89, 90, 91, 92, 93, 94] (by decide +kernel) (by decide +kernel)
set_option maxRecDepth 20000 in
theorem hh_L_isDate_1 : GoodIn wsL_law wsL_isDate_r2 := goodIn_r _ [95, 12, 96, 31, 32, 148, 149, 150, 151, 152, 315, 316, 317, 30, 318, 319, 320, 321, 322, 51, 248, 249, 250, 251] (by decide +kernel) (by decide +kernel)
set_option maxRecDepth 20000 in
theorem hh_L_isDate_2 : GoodIn wsL_law wsL_isDate_r3 := goodIn_r _ [49, 47, 48, 323, 324, 325, 326, 280, 281, 282, 283, 327, 328, 329, 330, 331, 332, 333, 334, 335, 336, 245, 246, 247] (by decide +kernel) (by decide +kernel)
set_option maxRecDepth 20000 in
theorem hh_L_isDate_3 : GoodIn wsL_law wsL_isDate_r4 := goodIn_r _ [337, 338, 339, 340, 341, 342, 343, 344, 345, 269, 270, 271, 346, 347, 348, 349, 350, 351, 352, 353, 268, 272, 273, 274] (by decide +kernel) (by decide +kernel)
set_option maxRecDepth 20000 in
theorem hh_L_isDate_4 : GoodIn wsL_law wsL_isDate_r5 := goodIn_r _ [275, 276, 277, 278, 279, 284, 285, 286, 287, 354, 355, 356, 357, 22, 358, 359, 360, 21, 361, 63, 62, 362, 363, 364] (by decide +kernel) (by decide +kernel)
set_option maxRecDepth 20000 in
theorem hh_L_isDate_5 : GoodIn wsL_law wsL_isDate_r6 := goodIn_r _ [365, 366, 367, 368, 369, 370, 371, 372, 373, 374, 375, 376, 377, 378, 379, 380, 381, 382, 383, 384, 385, 180, 181, 386] (by decide +kernel) (by decide +kernel)
set_option maxRecDepth 20000 in
theorem hh_L_isDate_6 : GoodIn wsL_law wsL_isDate_r7 := goodIn_r _ [387, 388, 389, 390, 391, 392, 393, 394, 395, 396, 397, 398, 399, 400, 401] (by decide +kernel) (by decide +kernel)
set_option maxRecDepth 20000 in
theorem ggL_law_L_isDate : GoodIn wsL_law wsL_isDate := (goodIn_ca (goodIn_ca (goodIn_ca (goodIn_ca (goodIn_ca (goodIn_ca (goodIn_ca (goodIn_ca hh_L_isDate_0 (goodIn_app hh_L_isDate_1 (goodIn_app hh_L_isDate_2 (goodIn_app hh_L_isDate_3 (goodIn_app hh_L_isDate_4 (goodIn_app hh_L_isDate_5 hh_L_isDate_6)))))) (goodIn_sub inlX4 (by decide +kernel))) (goodIn_sub inlX2 (by decide +kernel))) (goodIn_sub inlX3 (by decide +kernel))) (goodIn_sub inlX0 (by decide +kernel))) (goodIn_sub (fun _ h => List.mem_append_left _ (List.mem_append_left _ (List.mem_append_right _ h))) (by decide +kernel))) (goodIn_sub (fun _ h => List.mem_append_left _ (List.mem_append_right _ h)) (by decide +kernel))) (goodIn_sub (fun _ h => List.mem_append_right _ h) (by decide +kernel)))
set_option maxRecDepth 20000 in
theorem gL_law_L_isDate : GoodIn wsL_law (va_wsS RL 192 yL_isDate wsL_isDate) := goodIn_app (goodIn_of _ (by decide +kernel)) ggL_law_L_isDate

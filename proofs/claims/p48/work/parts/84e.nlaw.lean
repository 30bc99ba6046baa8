theorem hh_L_acts_m : Cond.code yL_acts cL_acts 18 (some .boolean) ∈ wsL_law0_r6 := List.mem_of_getElem? (i := 23) rfl
theorem hh_L_acts_c : GoodIn wsL_law [Cond.code yL_acts cL_acts 18 (some .boolean)] := goodIn_sub (fun w h => (List.mem_singleton.mp h) ▸ (List.mem_append_left _ (List.mem_append_left _ (List.mem_append_left _ (List.mem_append_left _ (List.mem_append_left _ (List.mem_append_left _ (List.mem_append_left _ (List.mem_append_left _ (List.mem_append_left _ (List.mem_append_right _ (List.mem_append_right _ (List.mem_append_right _ (List.mem_append_right _ (List.mem_append_right _ (List.mem_append_left _ hh_L_acts_m)))))))))))))))) (by decide +kernel)
set_option maxRecDepth 20000 in
theorem hh_L_acts_r : GoodIn wsL_law wsL_acts_r1 := goodIn_r _ [137, 138, 66, 139, 140, 144, 145, 146, 2, 147, 125, 126, 127, 128, 13, 88, 89, 90, 91, 92, 148, 149, 150, 151] (by decide +kernel) (by decide +kernel)
theorem hh_L_acts_0 : GoodIn wsL_law (Cond.code yL_acts cL_acts 18 (some .boolean) :: wsL_acts_r1) := fun w h => (List.mem_cons.mp h).elim (fun e => hh_L_acts_c w (List.mem_singleton.mpr e)) (hh_L_acts_r w)
set_option maxRecDepth 20000 in
theorem hh_L_acts_1 : GoodIn wsL_law wsL_acts_r2 := goodIn_r _ [152, 153, 154, 155, 156, 15, 14, 157, 158, 159, 160, 161, 162, 163, 12, 164, 31, 32, 34, 35, 36, 37, 38, 39] (by decide +kernel) (by decide +kernel)
set_option maxRecDepth 20000 in
theorem hh_L_acts_2 : GoodIn wsL_law wsL_acts_r3 := goodIn_r _ [40, 165, 166, 167, 30, 168, 47, 48, 49, 50, 169, 170, 171, 42, 172, 55, 56, 57, 58, 173, 174, 175, 176, 177] (by decide +kernel) (by decide +kernel)
set_option maxRecDepth 20000 in
theorem hh_L_acts_3 : GoodIn wsL_law wsL_acts_r4 := goodIn_r _ [178, 179, 180, 181, 84, 85, 86, 87, 93, 94, 95, 96, 182, 183, 184, 185, 186, 187, 188, 189, 190, 191, 192, 193] (by decide +kernel) (by decide +kernel)
set_option maxRecDepth 20000 in
theorem hh_L_acts_4 : GoodIn wsL_law wsL_acts_r5 := goodIn_r _ [194, 195, 196, 197, 198, 199, 200, 201, 129, 130, 131, 132, 202, 203, 204, 205, 206, 207, 208, 209, 76, 77, 78, 79] (by decide +kernel) (by decide +kernel)
set_option maxRecDepth 20000 in
theorem hh_L_acts_5 : GoodIn wsL_law wsL_acts_r6 := goodIn_r _ [210, 211, 212, 213, 214, 215, 216, 217, 218, 219, 220, 221, 222, 223, 224, 225, 226, 227, 228, 229, 230, 231, 232, 233] (by decide +kernel) (by decide +kernel)
set_option maxRecDepth 20000 in
theorem hh_L_acts_6 : GoodIn wsL_law wsL_acts_r7 := goodIn_r _ [234, 23, 235, 236, 237, 238, 239, 240, 241, 242, 243, 244, 245, 246, 247, 51, 248, 249, 250, 251, 252, 253, 254, 255] (by decide +kernel) (by decide +kernel)
set_option maxRecDepth 20000 in
theorem hh_L_acts_7 : GoodIn wsL_law wsL_acts_r8 := goodIn_r _ [256, 257, 258, 259, 260, 261, 262, 263, 264, 265, 266, 267, 268, 269, 270, 271, 272, 273, 274, 275, 276, 277, 278, 279] (by decide +kernel) (by decide +kernel)
set_option maxRecDepth 20000 in
theorem hh_L_acts_8 : GoodIn wsL_law wsL_acts_r9 := goodIn_r _ [280, 281, 282, 283, 284, 285, 286, 287, 288, 289, 290, 291, 292, 293, 294, 295, 296, 297, 298, 299, 300, 301, 302, 303] (by decide +kernel) (by decide +kernel)
set_option maxRecDepth 20000 in
theorem hh_L_acts_9 : GoodIn wsL_law wsL_acts_r10 := goodIn_r _ [304, 305, 306, 307] (by decide +kernel) (by decide +kernel)
set_option maxRecDepth 20000 in
theorem ggL_law_L_acts : GoodIn wsL_law wsL_acts := (goodIn_ca (goodIn_ca (goodIn_ca (goodIn_ca (goodIn_ca (goodIn_ca (goodIn_ca (goodIn_ca hh_L_acts_0 (goodIn_app hh_L_acts_1 (goodIn_app hh_L_acts_2 (goodIn_app hh_L_acts_3 (goodIn_app hh_L_acts_4 (goodIn_app hh_L_acts_5 (goodIn_app hh_L_acts_6 (goodIn_app hh_L_acts_7 (goodIn_app hh_L_acts_8 hh_L_acts_9))))))))) (goodIn_sub inlX1 (by decide +kernel))) (goodIn_sub inlX4 (by decide +kernel))) (goodIn_sub inlX2 (by decide +kernel))) (goodIn_sub inlX3 (by decide +kernel))) (goodIn_sub (fun _ h => List.mem_append_left _ (List.mem_append_left _ (List.mem_append_right _ h))) (by decide +kernel))) (goodIn_sub (fun _ h => List.mem_append_left _ (List.mem_append_right _ h)) (by decide +kernel))) (goodIn_sub (fun _ h => List.mem_append_right _ h) (by decide +kernel)))
set_option maxRecDepth 20000 in
theorem gL_law_L_acts : GoodIn wsL_law (va_wsS RL 188 yL_acts wsL_acts) := goodIn_app (goodIn_of _ (by decide +kernel)) ggL_law_L_acts

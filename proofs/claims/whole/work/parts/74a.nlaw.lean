set_option maxRecDepth 20000 in
theorem ggL_law_X4_init : GoodIn wsL_law wsX4_init := goodIn_r _ [10, 11, 12, 13, 14, 15, 16, 17, 18, 19, 20, 21, 22, 23, 24, 25, 26, 27, 28, 29, 30, 31, 32, 33, 34, 35, 36, 37, 38, 39, 40, 41, 42, 43, 44, 45, 46, 47, 48, 49, 50, 51, 52, 53, 54, 55, 56, 57, 58, 59, 60, 61, 62, 63, 64, 65, 66, 67, 68, 875, 876, 877, 878, 879, 880, 881, 882, 883, 858, 859, 860, 861, 862, 863, 864, 884, 885, 886, 887, 888, 889, 890, 891, 892, 893, 894] (by decide +kernel) (by decide +kernel)
set_option maxRecDepth 20000 in
theorem gL_law_X4_init : GoodIn wsL_law (wsX4_init) := ggL_law_X4_init
set_option maxRecDepth 20000 in
theorem ggL_law_X5_init : GoodIn wsL_law wsX5_init := goodIn_r _ [71, 72, 12, 13, 27, 73, 74, 75, 21, 76, 77, 78, 865, 866, 867, 868, 869, 870, 871, 872, 873, 874] (by decide +kernel) (by decide +kernel)
set_option maxRecDepth 20000 in
theorem gL_law_X5_init : GoodIn wsL_law (wsX5_init) := ggL_law_X5_init
set_option maxRecDepth 20000 in
theorem ggL_law_L_addGap : GoodIn wsL_law wsL_addGap := goodIn_ca (goodIn_ca (goodIn_ca (goodIn_r _ [82, 83, 84, 85, 86, 87, 88, 2, 89, 90, 91, 92, 93, 94, 95, 96, 97, 17, 98, 99, 100, 101, 102, 103, 104, 105, 16, 106, 36, 37, 107, 108, 109, 110, 111, 112, 35, 113, 54, 52, 114, 115, 116, 117, 19, 18, 118, 119, 120, 121, 122, 123, 124, 125, 39, 40, 41, 42, 43, 44, 45, 126, 127, 128, 129, 53, 55, 130, 131, 132, 47, 133, 60, 61, 62, 63, 134, 135, 136, 137, 886, 887, 888, 889, 890, 858, 859, 860, 861, 862, 863, 864, 875, 876, 877, 878, 879, 880, 881, 882, 883, 891, 892, 893, 894] (by decide +kernel) (by decide +kernel)) (goodIn_sub (fun _ h => List.mem_append_left _ (List.mem_append_left _ (List.mem_append_right _ h))) (by decide +kernel))) (goodIn_sub (fun _ h => List.mem_append_left _ (List.mem_append_right _ h)) (by decide +kernel))) (goodIn_sub (fun _ h => List.mem_append_right _ h) (by decide +kernel))
set_option maxRecDepth 20000 in
theorem gL_law_L_addGap : GoodIn wsL_law (va_wsS RL 132 yL_addGap wsL_addGap) := goodIn_app (goodIn_of _ (by decide +kernel)) ggL_law_L_addGap
set_option maxRecDepth 20000 in
theorem ggL_law_X5_addGap : GoodIn wsL_law wsX5_addGap := goodIn_r _ [141, 142, 73, 143, 144, 5, 145, 146, 147, 148, 149, 150, 151, 152, 153, 154, 155, 156, 157, 158, 159, 160, 161, 162, 163, 164, 165, 74, 865, 866, 867, 868, 869, 870, 871, 872, 873, 874] (by decide +kernel) (by decide +kernel)
set_option maxRecDepth 20000 in
theorem gL_law_X5_addGap : GoodIn wsL_law (wsV RL 137 RX5 yX5_addGap wsX5_addGap) := goodIn_app (goodIn_of _ (by decide +kernel)) ggL_law_X5_addGap
set_option maxRecDepth 20000 in
theorem ggL_law_X5_thrown : GoodIn wsL_law wsX5_thrown := goodIn_r _ [169, 142, 865, 866, 867, 868, 869, 870, 871, 872, 873, 874] (by decide +kernel) (by decide +kernel)
set_option maxRecDepth 20000 in
theorem gL_law_X5_thrown : GoodIn wsL_law (wsV RL 138 RX5 yX5_thrown wsX5_thrown) := goodIn_app (goodIn_of _ (by decide +kernel)) ggL_law_X5_thrown
set_option maxRecDepth 20000 in
theorem ggL_law_L_gapCount : GoodIn wsL_law wsL_gapCount := goodIn_ca (goodIn_r _ [172, 83, 173, 174, 175, 2, 176, 94, 95, 96, 97, 17, 98, 99, 100, 101, 102, 103, 104, 105, 16, 106, 36, 37, 886, 887, 888, 889, 890, 858, 859, 860, 861, 862, 863, 864, 875, 876, 877, 878, 879, 880, 881, 882, 883] (by decide +kernel) (by decide +kernel)) (goodIn_sub (fun _ h => List.mem_append_right _ h) (by decide +kernel))
set_option maxRecDepth 20000 in
theorem gL_law_L_gapCount : GoodIn wsL_law (va_wsS RL 141 yL_gapCount wsL_gapCount) := goodIn_app (goodIn_of _ (by decide +kernel)) ggL_law_L_gapCount
set_option maxRecDepth 20000 in
theorem ggL_law_X5_gapCount : GoodIn wsL_law wsX5_gapCount := goodIn_r _ [180, 142, 143, 144, 5, 145, 146, 147, 148, 153, 154, 155, 156, 73, 149, 150, 151, 152, 865, 866, 867, 868, 869, 870, 871, 872, 873, 874] (by decide +kernel) (by decide +kernel)
set_option maxRecDepth 20000 in
theorem gL_law_X5_gapCount : GoodIn wsL_law (wsV RL 144 RX5 yX5_gapCount wsX5_gapCount) := goodIn_app (goodIn_of _ (by decide +kernel)) ggL_law_X5_gapCount
set_option maxRecDepth 20000 in
theorem ggL_law_L_gapDay : GoodIn wsL_law wsL_gapDay := goodIn_ca (goodIn_r _ [183, 83, 184, 185, 186, 2, 187, 94, 95, 96, 97, 17, 98, 99, 100, 101, 102, 103, 104, 105, 16, 106, 36, 37, 886, 887, 888, 889, 890, 858, 859, 860, 861, 862, 863, 864, 875, 876, 877, 878, 879, 880, 881, 882, 883] (by decide +kernel) (by decide +kernel)) (goodIn_sub (fun _ h => List.mem_append_right _ h) (by decide +kernel))
set_option maxRecDepth 20000 in
theorem gL_law_L_gapDay : GoodIn wsL_law (va_wsS RL 145 yL_gapDay wsL_gapDay) := goodIn_app (goodIn_of _ (by decide +kernel)) ggL_law_L_gapDay
set_option maxRecDepth 20000 in
theorem ggL_law_X5_gapDay : GoodIn wsL_law wsX5_gapDay := goodIn_r _ [191, 142, 143, 144, 5, 145, 146, 147, 148, 153, 154, 155, 156, 73, 157, 158, 159, 160, 149, 150, 151, 152, 865, 866, 867, 868, 869, 870, 871, 872, 873, 874] (by decide +kernel) (by decide +kernel)
set_option maxRecDepth 20000 in
theorem gL_law_X5_gapDay : GoodIn wsL_law (wsV RL 148 RX5 yX5_gapDay wsX5_gapDay) := goodIn_app (goodIn_of _ (by decide +kernel)) ggL_law_X5_gapDay
set_option maxRecDepth 20000 in
theorem ggL_law_L_gapLength : GoodIn wsL_law wsL_gapLength := goodIn_ca (goodIn_r _ [194, 83, 195, 196, 197, 2, 198, 94, 95, 96, 97, 17, 98, 99, 100, 101, 102, 103, 104, 105, 16, 106, 36, 37, 886, 887, 888, 889, 890, 858, 859, 860, 861, 862, 863, 864, 875, 876, 877, 878, 879, 880, 881, 882, 883] (by decide +kernel) (by decide +kernel)) (goodIn_sub (fun _ h => List.mem_append_right _ h) (by decide +kernel))
set_option maxRecDepth 20000 in
theorem gL_law_L_gapLength : GoodIn wsL_law (va_wsS RL 149 yL_gapLength wsL_gapLength) := goodIn_app (goodIn_of _ (by decide +kernel)) ggL_law_L_gapLength
set_option maxRecDepth 20000 in
theorem ggL_law_X5_gapLength : GoodIn wsL_law wsX5_gapLength := goodIn_r _ [202, 142, 143, 144, 5, 145, 146, 147, 148, 153, 154, 155, 156, 73, 157, 158, 159, 160, 149, 150, 151, 152, 865, 866, 867, 868, 869, 870, 871, 872, 873, 874] (by decide +kernel) (by decide +kernel)
set_option maxRecDepth 20000 in
theorem gL_law_X5_gapLength : GoodIn wsL_law (wsV RL 151 RX5 yX5_gapLength wsX5_gapLength) := goodIn_app (goodIn_of _ (by decide +kernel)) ggL_law_X5_gapLength
set_option maxRecDepth 20000 in
theorem ggL_law_L_monthLength : GoodIn wsL_law wsL_monthLength := goodIn_ca (goodIn_ca (goodIn_r _ [205, 83, 84, 206, 207, 208, 2, 209, 94, 95, 96, 97, 17, 98, 99, 100, 101, 102, 103, 104, 105, 16, 106, 36, 37, 107, 108, 109, 90, 91, 210, 211, 212, 35, 213, 56, 858, 859, 860, 861, 862, 863, 864, 875, 876, 877, 878, 879, 880, 881, 882, 883, 886, 887, 888, 889, 890] (by decide +kernel) (by decide +kernel)) (goodIn_sub (fun _ h => List.mem_append_right _ h) (by decide +kernel))) (goodIn_sub (fun _ h => List.mem_append_left _ (List.mem_append_left _ (List.mem_append_right _ h))) (by decide +kernel))
set_option maxRecDepth 20000 in
theorem gL_law_L_monthLength : GoodIn wsL_law (va_wsS RL 152 yL_monthLength wsL_monthLength) := goodIn_app (goodIn_of _ (by decide +kernel)) ggL_law_L_monthLength
set_option maxRecDepth 20000 in
theorem ggL_law_X5_monthLength : GoodIn wsL_law wsX5_monthLength := goodIn_r _ [217, 142, 143, 144, 5, 145, 146, 147, 148, 149, 150, 151, 152, 218, 219, 220, 865, 866, 867, 868, 869, 870, 871, 872, 873, 874] (by decide +kernel) (by decide +kernel)
set_option maxRecDepth 20000 in
theorem gL_law_X5_monthLength : GoodIn wsL_law (wsV RL 154 RX5 yX5_monthLength wsX5_monthLength) := goodIn_app (goodIn_of _ (by decide +kernel)) ggL_law_X5_monthLength
set_option maxRecDepth 20000 in
theorem ggL_law_L_dayOfMonth : GoodIn wsL_law wsL_dayOfMonth := goodIn_ca (goodIn_ca (goodIn_r _ [223, 83, 84, 224, 225, 226, 2, 227, 94, 95, 96, 97, 17, 98, 99, 100, 101, 102, 103, 104, 105, 16, 106, 36, 37, 107, 108, 109, 90, 91, 228, 229, 230, 35, 231, 232, 233, 234, 235, 56, 236, 237, 238, 239, 54, 52, 53, 240, 241, 242, 243, 244, 245, 246, 247, 858, 859, 860, 861, 862, 863, 864, 875, 876, 877, 878, 879, 880, 881, 882, 883, 886, 887, 888, 889, 890] (by decide +kernel) (by decide +kernel)) (goodIn_sub (fun _ h => List.mem_append_right _ h) (by decide +kernel))) (goodIn_sub (fun _ h => List.mem_append_left _ (List.mem_append_left _ (List.mem_append_right _ h))) (by decide +kernel))
set_option maxRecDepth 20000 in
theorem gL_law_L_dayOfMonth : GoodIn wsL_law (va_wsS RL 155 yL_dayOfMonth wsL_dayOfMonth) := goodIn_app (goodIn_of _ (by decide +kernel)) ggL_law_L_dayOfMonth
set_option maxRecDepth 20000 in
theorem ggL_law_X5_dayOfMonth : GoodIn wsL_law wsX5_dayOfMonth := goodIn_r _ [251, 142, 143, 144, 5, 145, 146, 147, 148, 149, 150, 151, 152, 252, 253, 254, 255, 256, 257, 258, 259, 153, 154, 155, 156, 73, 157, 158, 159, 160, 260, 261, 262, 263, 264, 265, 218, 219, 220, 266, 267, 268, 269, 865, 866, 867, 868, 869, 870, 871, 872, 873, 874] (by decide +kernel) (by decide +kernel)
set_option maxRecDepth 20000 in
theorem gL_law_X5_dayOfMonth : GoodIn wsL_law (wsV RL 157 RX5 yX5_dayOfMonth wsX5_dayOfMonth) := goodIn_app (goodIn_of _ (by decide +kernel)) ggL_law_X5_dayOfMonth
set_option maxRecDepth 20000 in
theorem ggL_law_L_monthOf : GoodIn wsL_law wsL_monthOf := goodIn_ca (goodIn_ca (goodIn_r _ [272, 83, 84, 273, 274, 275, 2, 276, 94, 95, 96, 97, 17, 98, 99, 100, 101, 102, 103, 104, 105, 16, 106, 36, 37, 107, 108, 109, 90, 91, 277, 241, 242, 35, 243, 232, 233, 234, 235, 56, 236, 237, 238, 239, 54, 52, 53, 244, 245, 246, 247, 858, 859, 860, 861, 862, 863, 864, 875, 876, 877, 878, 879, 880, 881, 882, 883, 886, 887, 888, 889, 890] (by decide +kernel) (by decide +kernel)) (goodIn_sub (fun _ h => List.mem_append_right _ h) (by decide +kernel))) (goodIn_sub (fun _ h => List.mem_append_left _ (List.mem_append_left _ (List.mem_append_right _ h))) (by decide +kernel))
set_option maxRecDepth 20000 in
theorem gL_law_L_monthOf : GoodIn wsL_law (va_wsS RL 158 yL_monthOf wsL_monthOf) := goodIn_app (goodIn_of _ (by decide +kernel)) ggL_law_L_monthOf
set_option maxRecDepth 20000 in
theorem ggL_law_X5_monthOf : GoodIn wsL_law wsX5_monthOf := goodIn_r _ [281, 142, 143, 144, 5, 145, 146, 147, 148, 149, 150, 151, 152, 266, 267, 268, 269, 256, 257, 258, 259, 153, 154, 155, 156, 73, 157, 158, 159, 160, 260, 261, 262, 263, 264, 265, 218, 219, 220, 865, 866, 867, 868, 869, 870, 871, 872, 873, 874] (by decide +kernel) (by decide +kernel)
set_option maxRecDepth 20000 in
theorem gL_law_X5_monthOf : GoodIn wsL_law (wsV RL 160 RX5 yX5_monthOf wsX5_monthOf) := goodIn_app (goodIn_of _ (by decide +kernel)) ggL_law_X5_monthOf
set_option maxRecDepth 20000 in
theorem ggL_law_L_yearOf : GoodIn wsL_law wsL_yearOf := goodIn_ca (goodIn_ca (goodIn_r _ [284, 83, 84, 285, 286, 287, 2, 288, 94, 95, 96, 97, 17, 98, 99, 100, 101, 102, 103, 104, 105, 16, 106, 36, 37, 107, 108, 109, 90, 91, 289, 290, 291, 35, 292, 56, 236, 237, 238, 239, 54, 52, 53, 858, 859, 860, 861, 862, 863, 864, 875, 876, 877, 878, 879, 880, 881, 882, 883, 886, 887, 888, 889, 890] (by decide +kernel) (by decide +kernel)) (goodIn_sub (fun _ h => List.mem_append_right _ h) (by decide +kernel))) (goodIn_sub (fun _ h => List.mem_append_left _ (List.mem_append_left _ (List.mem_append_right _ h))) (by decide +kernel))
set_option maxRecDepth 20000 in
theorem gL_law_L_yearOf : GoodIn wsL_law (va_wsS RL 161 yL_yearOf wsL_yearOf) := goodIn_app (goodIn_of _ (by decide +kernel)) ggL_law_L_yearOf
set_option maxRecDepth 20000 in
theorem ggL_law_X5_yearOf : GoodIn wsL_law wsX5_yearOf := goodIn_r _ [296, 142, 143, 144, 5, 145, 146, 147, 148, 149, 150, 151, 152, 297, 298, 299, 300, 256, 257, 258, 259, 153, 154, 155, 156, 73, 157, 158, 159, 160, 260, 261, 262, 263, 264, 265, 218, 219, 220, 865, 866, 867, 868, 869, 870, 871, 872, 873, 874] (by decide +kernel) (by decide +kernel)
set_option maxRecDepth 20000 in
theorem gL_law_X5_yearOf : GoodIn wsL_law (wsV RL 163 RX5 yX5_yearOf wsX5_yearOf) := goodIn_app (goodIn_of _ (by decide +kernel)) ggL_law_X5_yearOf
set_option maxRecDepth 20000 in
theorem ggL_law_L_weekday : GoodIn wsL_law wsL_weekday := goodIn_ca (goodIn_r _ [303, 84, 304, 305, 306, 2, 307, 107, 108, 109, 90, 91] (by decide +kernel) (by decide +kernel)) (goodIn_sub (fun _ h => List.mem_append_left _ (List.mem_append_left _ (List.mem_append_right _ h))) (by decide +kernel))
set_option maxRecDepth 20000 in
theorem gL_law_L_weekday : GoodIn wsL_law (va_wsS RL 164 yL_weekday wsL_weekday) := goodIn_app (goodIn_of _ (by decide +kernel)) ggL_law_L_weekday
set_option maxRecDepth 20000 in
theorem ggL_law_X5_weekday : GoodIn wsL_law wsX5_weekday := goodIn_r _ [311, 142, 146, 147, 5, 148, 149, 150, 151, 152, 865, 866, 867, 868, 869, 870, 871, 872, 873, 874] (by decide +kernel) (by decide +kernel)
set_option maxRecDepth 20000 in
theorem gL_law_X5_weekday : GoodIn wsL_law (wsV RL 166 RX5 yX5_weekday wsX5_weekday) := goodIn_app (goodIn_of _ (by decide +kernel)) ggL_law_X5_weekday
set_option maxRecDepth 20000 in
theorem ggL_law_L_dayOfDate : GoodIn wsL_law wsL_dayOfDate := goodIn_ca (goodIn_ca (goodIn_r _ [314, 83, 84, 315, 316, 317, 2, 318, 94, 95, 96, 97, 17, 98, 99, 100, 101, 102, 103, 104, 105, 16, 106, 36, 37, 107, 108, 109, 90, 91, 319, 320, 321, 35, 322, 323, 211, 212, 213, 56, 324, 325, 326, 327, 328, 329, 330, 331, 244, 245, 246, 247, 332, 333, 334, 335, 54, 52, 53, 236, 237, 238, 239, 858, 859, 860, 861, 862, 863, 864, 875, 876, 877, 878, 879, 880, 881, 882, 883, 886, 887, 888, 889, 890] (by decide +kernel) (by decide +kernel)) (goodIn_sub (fun _ h => List.mem_append_right _ h) (by decide +kernel))) (goodIn_sub (fun _ h => List.mem_append_left _ (List.mem_append_left _ (List.mem_append_right _ h))) (by decide +kernel))
set_option maxRecDepth 20000 in
theorem gL_law_L_dayOfDate : GoodIn wsL_law (va_wsS RL 167 yL_dayOfDate wsL_dayOfDate) := goodIn_app (goodIn_of _ (by decide +kernel)) ggL_law_L_dayOfDate
set_option maxRecDepth 20000 in
theorem ggL_law_X5_dayOfDate : GoodIn wsL_law wsX5_dayOfDate := goodIn_r _ [339, 142, 143, 144, 5, 145, 146, 147, 148, 149, 150, 151, 152, 340, 341, 342, 343, 218, 219, 220, 260, 261, 262, 263, 264, 265, 344, 345, 346, 347, 153, 154, 155, 156, 73, 157, 158, 159, 160, 256, 257, 258, 259, 865, 866, 867, 868, 869, 870, 871, 872, 873, 874] (by decide +kernel) (by decide +kernel)
set_option maxRecDepth 20000 in
theorem gL_law_X5_dayOfDate : GoodIn wsL_law (wsV RL 170 RX5 yX5_dayOfDate wsX5_dayOfDate) := goodIn_app (goodIn_of _ (by decide +kernel)) ggL_law_X5_dayOfDate

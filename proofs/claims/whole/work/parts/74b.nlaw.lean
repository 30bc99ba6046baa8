set_option maxRecDepth 20000 in
theorem ggL_law_L_addFeast : GoodIn wsL_law wsL_addFeast := goodIn_ca (goodIn_ca (goodIn_ca (goodIn_r _ [350, 83, 84, 85, 351, 352, 353, 2, 354, 92, 93, 17, 94, 95, 96, 97, 98, 99, 100, 101, 102, 103, 104, 105, 16, 106, 36, 37, 107, 108, 109, 90, 91, 114, 115, 116, 117, 19, 18, 118, 119, 120, 121, 122, 123, 124, 125, 39, 40, 41, 42, 43, 44, 45, 126, 127, 128, 35, 129, 52, 53, 54, 55, 130, 131, 132, 47, 133, 60, 61, 62, 63, 355, 356, 357, 358, 858, 859, 860, 861, 862, 863, 864, 875, 876, 877, 878, 879, 880, 881, 882, 883, 886, 887, 888, 889, 890, 891, 892, 893, 894] (by decide +kernel) (by decide +kernel)) (goodIn_sub (fun _ h => List.mem_append_left _ (List.mem_append_right _ h)) (by decide +kernel))) (goodIn_sub (fun _ h => List.mem_append_right _ h) (by decide +kernel))) (goodIn_sub (fun _ h => List.mem_append_left _ (List.mem_append_left _ (List.mem_append_right _ h))) (by decide +kernel))
set_option maxRecDepth 20000 in
theorem gL_law_L_addFeast : GoodIn wsL_law (va_wsS RL 171 yL_addFeast wsL_addFeast) := goodIn_app (goodIn_of _ (by decide +kernel)) ggL_law_L_addFeast
set_option maxRecDepth 20000 in
theorem ggL_law_X5_addFeast : GoodIn wsL_law wsX5_addFeast := goodIn_r _ [362, 142, 73, 143, 144, 5, 145, 146, 147, 148, 149, 150, 151, 152, 161, 162, 163, 164, 165, 74, 865, 866, 867, 868, 869, 870, 871, 872, 873, 874] (by decide +kernel) (by decide +kernel)
set_option maxRecDepth 20000 in
theorem gL_law_X5_addFeast : GoodIn wsL_law (wsV RL 173 RX5 yX5_addFeast wsX5_addFeast) := goodIn_app (goodIn_of _ (by decide +kernel)) ggL_law_X5_addFeast
set_option maxRecDepth 20000 in
theorem ggL_law_L_barWeekday : GoodIn wsL_law wsL_barWeekday := goodIn_ca (goodIn_ca (goodIn_r _ [365, 83, 84, 366, 367, 368, 2, 369, 370, 371, 372, 373, 17, 98, 99, 100, 101, 102, 107, 108, 109, 90, 91, 114, 115, 116, 117, 19, 18, 118, 119, 120, 121, 122, 123, 124, 16, 125, 36, 37, 39, 40, 41, 42, 43, 44, 45, 126, 127, 128, 35, 129, 52, 53, 54, 55, 130, 131, 132, 47, 133, 60, 61, 62, 63, 891, 892, 893, 894, 858, 859, 860, 861, 862, 863, 864, 875, 876, 877, 878, 879, 880, 881, 882, 883, 886, 887, 888, 889, 890] (by decide +kernel) (by decide +kernel)) (goodIn_sub (fun _ h => List.mem_append_right _ h) (by decide +kernel))) (goodIn_sub (fun _ h => List.mem_append_left _ (List.mem_append_left _ (List.mem_append_right _ h))) (by decide +kernel))
set_option maxRecDepth 20000 in
theorem gL_law_L_barWeekday : GoodIn wsL_law (va_wsS RL 174 yL_barWeekday wsL_barWeekday) := goodIn_app (goodIn_of _ (by decide +kernel)) ggL_law_L_barWeekday
set_option maxRecDepth 20000 in
theorem ggL_law_X5_barWeekday : GoodIn wsL_law wsX5_barWeekday := goodIn_r _ [377, 142, 73, 378, 379, 380, 5, 381, 146, 147, 148, 149, 150, 151, 152, 161, 162, 163, 164, 165, 74, 382, 383, 384, 385, 865, 866, 867, 868, 869, 870, 871, 872, 873, 874] (by decide +kernel) (by decide +kernel)
set_option maxRecDepth 20000 in
theorem gL_law_X5_barWeekday : GoodIn wsL_law (wsV RL 176 RX5 yX5_barWeekday wsX5_barWeekday) := goodIn_app (goodIn_of _ (by decide +kernel)) ggL_law_X5_barWeekday
set_option maxRecDepth 20000 in
theorem ggL_law_L_allowAllWeekdays : GoodIn wsL_law wsL_allowAllWeekdays := goodIn_ca (goodIn_ca (goodIn_r _ [388, 83, 85, 389, 390, 391, 2, 392, 92, 93, 370, 371, 372, 373, 17, 98, 99, 100, 101, 102, 114, 115, 116, 117, 19, 18, 118, 119, 120, 121, 122, 123, 124, 16, 125, 36, 37, 39, 40, 41, 42, 43, 44, 45, 126, 127, 128, 35, 129, 52, 53, 54, 55, 130, 131, 132, 47, 133, 60, 61, 62, 63, 891, 892, 893, 894, 858, 859, 860, 861, 862, 863, 864, 875, 876, 877, 878, 879, 880, 881, 882, 883, 886, 887, 888, 889, 890] (by decide +kernel) (by decide +kernel)) (goodIn_sub (fun _ h => List.mem_append_left _ (List.mem_append_right _ h)) (by decide +kernel))) (goodIn_sub (fun _ h => List.mem_append_right _ h) (by decide +kernel))
set_option maxRecDepth 20000 in
theorem gL_law_L_allowAllWeekdays : GoodIn wsL_law (va_wsS RL 177 yL_allowAllWeekdays wsL_allowAllWeekdays) := goodIn_app (goodIn_of _ (by decide +kernel)) ggL_law_L_allowAllWeekdays
set_option maxRecDepth 20000 in
theorem ggL_law_X5_allowAllWeekdays : GoodIn wsL_law wsX5_allowAllWeekdays := goodIn_r _ [396, 142, 73, 378, 379, 380, 5, 381, 146, 147, 148, 149, 150, 151, 152, 382, 383, 384, 385, 161, 162, 163, 164, 165, 74, 865, 866, 867, 868, 869, 870, 871, 872, 873, 874] (by decide +kernel) (by decide +kernel)
set_option maxRecDepth 20000 in
theorem gL_law_X5_allowAllWeekdays : GoodIn wsL_law (wsV RL 179 RX5 yX5_allowAllWeekdays wsX5_allowAllWeekdays) := goodIn_app (goodIn_of _ (by decide +kernel)) ggL_law_X5_allowAllWeekdays
set_option maxRecDepth 20000 in
theorem ggL_law_X4_feastCount : GoodIn wsL_law wsX4_feastCount := goodIn_r _ [400, 17, 858, 859, 860, 861, 862, 863, 864, 875, 876, 877, 878, 879, 880, 881, 882, 883] (by decide +kernel) (by decide +kernel)
set_option maxRecDepth 20000 in
theorem gL_law_X4_feastCount : GoodIn wsL_law (wsV RL 180 RX4 yX4_feastCount wsX4_feastCount) := goodIn_app (goodIn_of _ (by decide +kernel)) ggL_law_X4_feastCount
set_option maxRecDepth 20000 in
theorem ggL_law_X5_feastCount : GoodIn wsL_law wsX5_feastCount := goodIn_r _ [404, 142, 73, 865, 866, 867, 868, 869, 870, 871, 872, 873, 874] (by decide +kernel) (by decide +kernel)
set_option maxRecDepth 20000 in
theorem gL_law_X5_feastCount : GoodIn wsL_law (wsV RL 183 RX5 yX5_feastCount wsX5_feastCount) := goodIn_app (goodIn_of _ (by decide +kernel)) ggL_law_X5_feastCount
set_option maxRecDepth 20000 in
theorem ggL_law_L_feastTown : GoodIn wsL_law wsL_feastTown := goodIn_ca (goodIn_r _ [407, 83, 408, 409, 410, 2, 411, 370, 371, 372, 373, 17, 98, 99, 100, 101, 102, 891, 892, 893, 894, 858, 859, 860, 861, 862, 863, 864, 875, 876, 877, 878, 879, 880, 881, 882, 883] (by decide +kernel) (by decide +kernel)) (goodIn_sub (fun _ h => List.mem_append_right _ h) (by decide +kernel))
set_option maxRecDepth 20000 in
theorem gL_law_L_feastTown : GoodIn wsL_law (va_wsS RL 184 yL_feastTown wsL_feastTown) := goodIn_app (goodIn_of _ (by decide +kernel)) ggL_law_L_feastTown
set_option maxRecDepth 20000 in
theorem ggL_law_X5_feastTown : GoodIn wsL_law wsX5_feastTown := goodIn_r _ [415, 142, 378, 379, 380, 5, 381, 73, 146, 147, 148, 382, 383, 384, 385, 149, 150, 151, 152, 865, 866, 867, 868, 869, 870, 871, 872, 873, 874] (by decide +kernel) (by decide +kernel)
set_option maxRecDepth 20000 in
theorem gL_law_X5_feastTown : GoodIn wsL_law (wsV RL 186 RX5 yX5_feastTown wsX5_feastTown) := goodIn_app (goodIn_of _ (by decide +kernel)) ggL_law_X5_feastTown
set_option maxRecDepth 20000 in
theorem ggL_law_L_barredWeekday : GoodIn wsL_law wsL_barredWeekday := goodIn_ca (goodIn_r _ [418, 83, 419, 420, 421, 2, 422, 370, 371, 372, 373, 17, 98, 99, 100, 101, 102, 891, 892, 893, 894, 858, 859, 860, 861, 862, 863, 864, 875, 876, 877, 878, 879, 880, 881, 882, 883] (by decide +kernel) (by decide +kernel)) (goodIn_sub (fun _ h => List.mem_append_right _ h) (by decide +kernel))
set_option maxRecDepth 20000 in
theorem gL_law_L_barredWeekday : GoodIn wsL_law (va_wsS RL 187 yL_barredWeekday wsL_barredWeekday) := goodIn_app (goodIn_of _ (by decide +kernel)) ggL_law_L_barredWeekday
set_option maxRecDepth 20000 in
theorem ggL_law_X5_barredWeekday : GoodIn wsL_law wsX5_barredWeekday := goodIn_r _ [426, 142, 378, 379, 380, 5, 381, 73, 146, 147, 148, 382, 383, 384, 385, 149, 150, 151, 152, 865, 866, 867, 868, 869, 870, 871, 872, 873, 874] (by decide +kernel) (by decide +kernel)
set_option maxRecDepth 20000 in
theorem gL_law_X5_barredWeekday : GoodIn wsL_law (wsV RL 189 RX5 yX5_barredWeekday wsX5_barredWeekday) := goodIn_app (goodIn_of _ (by decide +kernel)) ggL_law_X5_barredWeekday
set_option maxRecDepth 20000 in
theorem ggL_law_L_dayDue : GoodIn wsL_law wsL_dayDue := goodIn_ca (goodIn_ca (goodIn_r _ [429, 83, 84, 430, 431, 432, 2, 433, 17, 370, 371, 372, 373, 98, 99, 100, 101, 102, 107, 108, 109, 90, 91, 103, 104, 105, 16, 106, 36, 37, 434, 435, 436, 35, 437, 323, 211, 212, 213, 56, 324, 325, 326, 327, 328, 329, 330, 331, 244, 245, 246, 247, 332, 333, 334, 335, 54, 52, 53, 438, 290, 291, 292, 236, 237, 238, 239, 858, 859, 860, 861, 862, 863, 864, 891, 892, 893, 894, 875, 876, 877, 878, 879, 880, 881, 882, 883, 886, 887, 888, 889, 890] (by decide +kernel) (by decide +kernel)) (goodIn_sub (fun _ h => List.mem_append_right _ h) (by decide +kernel))) (goodIn_sub (fun _ h => List.mem_append_left _ (List.mem_append_left _ (List.mem_append_right _ h))) (by decide +kernel))
set_option maxRecDepth 20000 in
theorem gL_law_L_dayDue : GoodIn wsL_law (va_wsS RL 190 yL_dayDue wsL_dayDue) := goodIn_app (goodIn_of _ (by decide +kernel)) ggL_law_L_dayDue
set_option maxRecDepth 20000 in
theorem ggL_law_X5_dayDue : GoodIn wsL_law wsX5_dayDue := goodIn_r _ [442, 142, 378, 379, 380, 5, 381, 73, 146, 147, 148, 149, 150, 151, 152, 443, 444, 445, 446, 382, 383, 384, 385, 218, 219, 220, 260, 261, 262, 263, 264, 265, 344, 345, 346, 347, 153, 154, 155, 156, 157, 158, 159, 160, 256, 257, 258, 259, 865, 866, 867, 868, 869, 870, 871, 872, 873, 874] (by decide +kernel) (by decide +kernel)
set_option maxRecDepth 20000 in
theorem gL_law_X5_dayDue : GoodIn wsL_law (wsV RL 192 RX5 yX5_dayDue wsX5_dayDue) := goodIn_app (goodIn_of _ (by decide +kernel)) ggL_law_X5_dayDue
set_option maxRecDepth 20000 in
theorem ggL_law_L_dayKept : GoodIn wsL_law wsL_dayKept := goodIn_ca (goodIn_ca (goodIn_r _ [449, 83, 84, 450, 451, 452, 2, 453, 17, 370, 371, 372, 373, 98, 99, 100, 101, 102, 107, 108, 109, 90, 91, 454, 455, 456, 16, 457, 41, 458, 104, 105, 106, 36, 37, 459, 435, 436, 35, 437, 323, 211, 212, 213, 56, 324, 325, 326, 327, 328, 329, 330, 331, 244, 245, 246, 247, 332, 333, 334, 335, 54, 52, 53, 438, 290, 291, 292, 236, 237, 238, 239, 858, 859, 860, 861, 862, 863, 864, 875, 876, 877, 878, 879, 880, 881, 882, 883, 891, 892, 893, 894, 886, 887, 888, 889, 890] (by decide +kernel) (by decide +kernel)) (goodIn_sub (fun _ h => List.mem_append_right _ h) (by decide +kernel))) (goodIn_sub (fun _ h => List.mem_append_left _ (List.mem_append_left _ (List.mem_append_right _ h))) (by decide +kernel))
set_option maxRecDepth 20000 in
theorem gL_law_L_dayKept : GoodIn wsL_law (va_wsS RL 193 yL_dayKept wsL_dayKept) := goodIn_app (goodIn_of _ (by decide +kernel)) ggL_law_L_dayKept
set_option maxRecDepth 20000 in
theorem ggL_law_X5_dayKept : GoodIn wsL_law wsX5_dayKept := goodIn_r _ [463, 142, 378, 379, 380, 5, 381, 73, 146, 147, 148, 149, 150, 151, 152, 464, 465, 466, 467, 443, 444, 445, 446, 382, 383, 384, 385, 218, 219, 220, 260, 261, 262, 263, 264, 265, 344, 345, 346, 347, 153, 154, 155, 156, 157, 158, 159, 160, 256, 257, 258, 259, 865, 866, 867, 868, 869, 870, 871, 872, 873, 874] (by decide +kernel) (by decide +kernel)
set_option maxRecDepth 20000 in
theorem gL_law_X5_dayKept : GoodIn wsL_law (wsV RL 195 RX5 yX5_dayKept wsX5_dayKept) := goodIn_app (goodIn_of _ (by decide +kernel)) ggL_law_X5_dayKept
set_option maxRecDepth 20000 in
theorem ggL_law_L_isKept : GoodIn wsL_law wsL_isKept := goodIn_ca (goodIn_ca (goodIn_r _ [470, 83, 84, 471, 472, 473, 2, 474, 17, 370, 371, 372, 373, 98, 99, 100, 101, 102, 107, 108, 109, 90, 91, 475, 476, 477, 16, 478, 458, 104, 105, 106, 36, 37, 479, 290, 291, 35, 292, 56, 236, 237, 238, 239, 54, 52, 53, 480, 481, 482, 483, 484, 485, 486, 487, 488, 455, 456, 457, 41, 459, 435, 436, 437, 323, 211, 212, 213, 324, 325, 326, 327, 328, 329, 330, 331, 244, 245, 246, 247, 332, 333, 334, 335, 438, 858, 859, 860, 861, 862, 863, 864, 875, 876, 877, 878, 879, 880, 881, 882, 883, 891, 892, 893, 894, 886, 887, 888, 889, 890] (by decide +kernel) (by decide +kernel)) (goodIn_sub (fun _ h => List.mem_append_right _ h) (by decide +kernel))) (goodIn_sub (fun _ h => List.mem_append_left _ (List.mem_append_left _ (List.mem_append_right _ h))) (by decide +kernel))
set_option maxRecDepth 20000 in
theorem gL_law_L_isKept : GoodIn wsL_law (va_wsS RL 196 yL_isKept wsL_isKept) := goodIn_app (goodIn_of _ (by decide +kernel)) ggL_law_L_isKept
set_option maxRecDepth 20000 in
theorem ggL_law_X5_isKept : GoodIn wsL_law wsX5_isKept := goodIn_r _ [492, 142, 378, 379, 380, 5, 381, 73, 146, 147, 148, 149, 150, 151, 152, 493, 494, 495, 496, 382, 383, 384, 385, 297, 298, 299, 300, 256, 257, 258, 259, 153, 154, 155, 156, 157, 158, 159, 160, 260, 261, 262, 263, 264, 265, 218, 219, 220, 464, 465, 466, 467, 443, 444, 445, 446, 344, 345, 346, 347, 865, 866, 867, 868, 869, 870, 871, 872, 873, 874] (by decide +kernel) (by decide +kernel)
set_option maxRecDepth 20000 in
theorem gL_law_X5_isKept : GoodIn wsL_law (wsV RL 198 RX5 yX5_isKept wsX5_isKept) := goodIn_app (goodIn_of _ (by decide +kernel)) ggL_law_X5_isKept
set_option maxRecDepth 20000 in
theorem ggL_law_L_feastsOn : GoodIn wsL_law wsL_feastsOn := goodIn_ca (goodIn_r _ [499, 84, 500, 501, 502, 2, 503, 17, 28, 107, 108, 109, 90, 91, 504, 505, 506, 16, 507, 40, 39, 458, 104, 105, 106, 36, 37, 479, 290, 291, 35, 292, 56, 236, 237, 238, 239, 54, 52, 53, 480, 481, 482, 483, 484, 485, 486, 487, 488, 455, 456, 457, 41, 459, 435, 436, 437, 323, 211, 212, 213, 324, 325, 326, 327, 328, 329, 330, 331, 244, 245, 246, 247, 332, 333, 334, 335, 438, 858, 859, 860, 861, 862, 863, 864, 875, 876, 877, 878, 879, 880, 881, 882, 883, 891, 892, 893, 894, 886, 887, 888, 889, 890] (by decide +kernel) (by decide +kernel)) (goodIn_sub (fun _ h => List.mem_append_left _ (List.mem_append_left _ (List.mem_append_right _ h))) (by decide +kernel))
set_option maxRecDepth 20000 in
theorem gL_law_L_feastsOn : GoodIn wsL_law (va_wsS RL 199 yL_feastsOn wsL_feastsOn) := goodIn_app (goodIn_of _ (by decide +kernel)) ggL_law_L_feastsOn
set_option maxRecDepth 20000 in
theorem ggL_law_X5_feastsOn : GoodIn wsL_law wsX5_feastsOn := goodIn_r _ [511, 142, 146, 147, 5, 148, 512, 513, 514, 515, 73, 493, 494, 495, 496, 382, 383, 384, 385, 297, 298, 299, 300, 256, 257, 258, 259, 153, 154, 155, 156, 157, 158, 159, 160, 260, 261, 262, 263, 264, 265, 218, 219, 220, 464, 465, 466, 467, 443, 444, 445, 446, 344, 345, 346, 347, 149, 150, 151, 152, 865, 866, 867, 868, 869, 870, 871, 872, 873, 874] (by decide +kernel) (by decide +kernel)
set_option maxRecDepth 20000 in
theorem gL_law_X5_feastsOn : GoodIn wsL_law (wsV RL 201 RX5 yX5_feastsOn wsX5_feastsOn) := goodIn_app (goodIn_of _ (by decide +kernel)) ggL_law_X5_feastsOn
set_option maxRecDepth 20000 in
theorem ggL_law_L_isQuarrel : GoodIn wsL_law wsL_isQuarrel := goodIn_ca (goodIn_r _ [518, 84, 519, 520, 521, 2, 522, 107, 108, 109, 90, 91, 523, 524, 525, 526, 17, 28, 504, 505, 506, 16, 507, 40, 39, 458, 104, 105, 106, 36, 37, 479, 290, 291, 35, 292, 56, 236, 237, 238, 239, 54, 52, 53, 480, 481, 482, 483, 484, 485, 486, 487, 488, 455, 456, 457, 41, 459, 435, 436, 437, 323, 211, 212, 213, 324, 325, 326, 327, 328, 329, 330, 331, 244, 245, 246, 247, 332, 333, 334, 335, 438, 527, 528, 529, 530, 531, 532, 533, 534, 858, 859, 860, 861, 862, 863, 864, 875, 876, 877, 878, 879, 880, 881, 882, 883, 891, 892, 893, 894, 886, 887, 888, 889, 890] (by decide +kernel) (by decide +kernel)) (goodIn_sub (fun _ h => List.mem_append_left _ (List.mem_append_left _ (List.mem_append_right _ h))) (by decide +kernel))
set_option maxRecDepth 20000 in
theorem gL_law_L_isQuarrel : GoodIn wsL_law (va_wsS RL 202 yL_isQuarrel wsL_isQuarrel) := goodIn_app (goodIn_of _ (by decide +kernel)) ggL_law_L_isQuarrel
set_option maxRecDepth 20000 in
theorem ggL_law_X5_isQuarrel : GoodIn wsL_law wsX5_isQuarrel := goodIn_r _ [538, 142, 146, 147, 5, 148, 539, 540, 541, 542, 512, 513, 514, 515, 73, 493, 494, 495, 496, 382, 383, 384, 385, 297, 298, 299, 300, 256, 257, 258, 259, 153, 154, 155, 156, 157, 158, 159, 160, 260, 261, 262, 263, 264, 265, 218, 219, 220, 464, 465, 466, 467, 443, 444, 445, 446, 344, 345, 346, 347, 543, 544, 545, 546, 149, 150, 151, 152, 865, 866, 867, 868, 869, 870, 871, 872, 873, 874] (by decide +kernel) (by decide +kernel)
set_option maxRecDepth 20000 in
theorem gL_law_X5_isQuarrel : GoodIn wsL_law (wsV RL 204 RX5 yX5_isQuarrel wsX5_isQuarrel) := goodIn_app (goodIn_of _ (by decide +kernel)) ggL_law_X5_isQuarrel
set_option maxRecDepth 20000 in
theorem ggL_law_L_setShift : GoodIn wsL_law wsL_setShift := goodIn_ca (goodIn_r _ [549, 84, 550, 551, 552, 2, 553, 17, 107, 108, 109, 90, 91, 114, 115, 116, 117, 19, 18, 118, 119, 120, 121, 122, 123, 124, 16, 125, 36, 37, 39, 40, 41, 42, 43, 44, 45, 126, 127, 128, 35, 129, 52, 53, 54, 55, 130, 131, 132, 47, 133, 60, 61, 62, 63, 858, 859, 860, 861, 862, 863, 864, 875, 876, 877, 878, 879, 880, 881, 882, 883, 886, 887, 888, 889, 890, 891, 892, 893, 894] (by decide +kernel) (by decide +kernel)) (goodIn_sub (fun _ h => List.mem_append_left _ (List.mem_append_left _ (List.mem_append_right _ h))) (by decide +kernel))
set_option maxRecDepth 20000 in
theorem gL_law_L_setShift : GoodIn wsL_law (va_wsS RL 205 yL_setShift wsL_setShift) := goodIn_app (goodIn_of _ (by decide +kernel)) ggL_law_L_setShift

set_option maxRecDepth 20000 in
theorem ggL_law_X5_bestBarredWeekday : GoodIn wsL_law wsX5_bestBarredWeekday := goodIn_r _ [694, 142, 73, 378, 379, 380, 5, 381, 146, 147, 148, 149, 150, 151, 152, 680, 681, 682, 683, 539, 540, 541, 542, 512, 513, 514, 515, 493, 494, 495, 496, 382, 383, 384, 385, 297, 298, 299, 300, 256, 257, 258, 259, 153, 154, 155, 156, 157, 158, 159, 160, 260, 261, 262, 263, 264, 265, 218, 219, 220, 464, 465, 466, 467, 443, 444, 445, 446, 344, 345, 346, 347, 543, 544, 545, 546, 865, 866, 867, 868, 869, 870, 871, 872, 873, 874] (by decide +kernel) (by decide +kernel)
set_option maxRecDepth 20000 in
theorem gL_law_X5_bestBarredWeekday : GoodIn wsL_law (wsV RL 248 RX5 yX5_bestBarredWeekday wsX5_bestBarredWeekday) := goodIn_app (goodIn_of _ (by decide +kernel)) ggL_law_X5_bestBarredWeekday
set_option maxRecDepth 20000 in
theorem ggL_law_L_appendText : GoodIn wsL_law wsL_appendText := goodIn_ca (goodIn_ca (goodIn_r _ [697, 84, 85, 698, 699, 700, 2, 701, 90, 91, 92, 93, 26, 702, 703, 704, 705, 706, 707, 708, 709, 710, 711, 25, 712, 68, 67, 858, 859, 860, 861, 862, 863, 864, 884, 885] (by decide +kernel) (by decide +kernel)) (goodIn_sub (fun _ h => List.mem_append_left _ (List.mem_append_left _ (List.mem_append_right _ h))) (by decide +kernel))) (goodIn_sub (fun _ h => List.mem_append_left _ (List.mem_append_right _ h)) (by decide +kernel))
set_option maxRecDepth 20000 in
theorem gL_law_L_appendText : GoodIn wsL_law (va_wsS RL 251 yL_appendText wsL_appendText) := goodIn_app (goodIn_of _ (by decide +kernel)) ggL_law_L_appendText
set_option maxRecDepth 20000 in
theorem ggL_law_X5_appendText : GoodIn wsL_law wsX5_appendText := goodIn_r _ [716, 142, 717, 718, 77, 146, 147, 5, 148, 149, 150, 151, 152, 865, 866, 867, 868, 869, 870, 871, 872, 873, 874] (by decide +kernel) (by decide +kernel)
set_option maxRecDepth 20000 in
theorem gL_law_X5_appendText : GoodIn wsL_law (wsV RL 254 RX5 yX5_appendText wsX5_appendText) := goodIn_app (goodIn_of _ (by decide +kernel)) ggL_law_X5_appendText
set_option maxRecDepth 20000 in
theorem ggL_law_X4_clearText : GoodIn wsL_law wsX4_clearText := goodIn_r _ [722, 26, 858, 859, 860, 861, 862, 863, 864, 884, 885] (by decide +kernel) (by decide +kernel)
set_option maxRecDepth 20000 in
theorem gL_law_X4_clearText : GoodIn wsL_law (wsV RL 255 RX4 yX4_clearText wsX4_clearText) := goodIn_app (goodIn_of _ (by decide +kernel)) ggL_law_X4_clearText
set_option maxRecDepth 20000 in
theorem ggL_law_X5_clearText : GoodIn wsL_law wsX5_clearText := goodIn_r _ [726, 142, 718, 865, 866, 867, 868, 869, 870, 871, 872, 873, 874] (by decide +kernel) (by decide +kernel)
set_option maxRecDepth 20000 in
theorem gL_law_X5_clearText : GoodIn wsL_law (wsV RL 258 RX5 yX5_clearText wsX5_clearText) := goodIn_app (goodIn_of _ (by decide +kernel)) ggL_law_X5_clearText
set_option maxRecDepth 20000 in
theorem ggL_law_X4_textLength : GoodIn wsL_law wsX4_textLength := goodIn_r _ [730, 26, 858, 859, 860, 861, 862, 863, 864, 884, 885] (by decide +kernel) (by decide +kernel)
set_option maxRecDepth 20000 in
theorem gL_law_X4_textLength : GoodIn wsL_law (wsV RL 259 RX4 yX4_textLength wsX4_textLength) := goodIn_app (goodIn_of _ (by decide +kernel)) ggL_law_X4_textLength
set_option maxRecDepth 20000 in
theorem ggL_law_X5_textLength : GoodIn wsL_law wsX5_textLength := goodIn_r _ [734, 142, 718, 865, 866, 867, 868, 869, 870, 871, 872, 873, 874] (by decide +kernel) (by decide +kernel)
set_option maxRecDepth 20000 in
theorem gL_law_X5_textLength : GoodIn wsL_law (wsV RL 262 RX5 yX5_textLength wsX5_textLength) := goodIn_app (goodIn_of _ (by decide +kernel)) ggL_law_X5_textLength
set_option maxRecDepth 20000 in
theorem ggL_law_X4_textError : GoodIn wsL_law wsX4_textError := goodIn_r _ [738, 26, 739, 740, 741, 25, 742, 68, 67, 743, 744, 745, 858, 859, 860, 861, 862, 863, 864, 884, 885] (by decide +kernel) (by decide +kernel)
set_option maxRecDepth 20000 in
theorem gL_law_X4_textError : GoodIn wsL_law (wsV RL 263 RX4 yX4_textError wsX4_textError) := goodIn_app (goodIn_of _ (by decide +kernel)) ggL_law_X4_textError
set_option maxRecDepth 20000 in
theorem ggL_law_X5_textError : GoodIn wsL_law wsX5_textError := goodIn_r _ [749, 142, 750, 751, 752, 753, 5, 754, 78, 77, 718, 755, 756, 757, 758, 146, 147, 148, 759, 760, 761, 762, 865, 866, 867, 868, 869, 870, 871, 872, 873, 874] (by decide +kernel) (by decide +kernel)
set_option maxRecDepth 20000 in
theorem gL_law_X5_textError : GoodIn wsL_law (wsV RL 266 RX5 yX5_textError wsX5_textError) := goodIn_app (goodIn_of _ (by decide +kernel)) ggL_law_X5_textError
set_option maxRecDepth 20000 in
theorem ggL_law_L_textCharacter : GoodIn wsL_law wsL_textCharacter := goodIn_ca (goodIn_r _ [765, 83, 766, 767, 768, 2, 769, 26, 98, 99, 100, 101, 102, 858, 859, 860, 861, 862, 863, 864, 884, 885] (by decide +kernel) (by decide +kernel)) (goodIn_sub (fun _ h => List.mem_append_right _ h) (by decide +kernel))
set_option maxRecDepth 20000 in
theorem gL_law_L_textCharacter : GoodIn wsL_law (va_wsS RL 267 yL_textCharacter wsL_textCharacter) := goodIn_app (goodIn_of _ (by decide +kernel)) ggL_law_L_textCharacter
set_option maxRecDepth 20000 in
theorem ggL_law_X5_textCharacter : GoodIn wsL_law wsX5_textCharacter := goodIn_r _ [773, 142, 718, 77, 146, 147, 5, 148, 149, 150, 151, 152, 865, 866, 867, 868, 869, 870, 871, 872, 873, 874] (by decide +kernel) (by decide +kernel)
set_option maxRecDepth 20000 in
theorem gL_law_X5_textCharacter : GoodIn wsL_law (wsV RL 269 RX5 yX5_textCharacter wsX5_textCharacter) := goodIn_app (goodIn_of _ (by decide +kernel)) ggL_law_X5_textCharacter
set_option maxRecDepth 20000 in
theorem ggL_law_L_dayOfText : GoodIn wsL_law wsL_dayOfText := goodIn_ca (goodIn_r _ [776, 85, 777, 778, 779, 2, 780, 92, 93, 26, 17, 739, 740, 741, 25, 742, 68, 67, 743, 744, 745, 781, 782, 783, 784, 103, 104, 105, 16, 106, 36, 37, 785, 786, 787, 788, 319, 320, 321, 35, 322, 323, 211, 212, 213, 56, 324, 325, 326, 327, 328, 329, 330, 331, 244, 245, 246, 247, 332, 333, 334, 335, 54, 52, 53, 236, 237, 238, 239, 858, 859, 860, 861, 862, 863, 864, 884, 885, 875, 876, 877, 878, 879, 880, 881, 882, 883, 886, 887, 888, 889, 890] (by decide +kernel) (by decide +kernel)) (goodIn_sub (fun _ h => List.mem_append_left _ (List.mem_append_right _ h)) (by decide +kernel))
set_option maxRecDepth 20000 in
theorem gL_law_L_dayOfText : GoodIn wsL_law (va_wsS RL 270 yL_dayOfText wsL_dayOfText) := goodIn_app (goodIn_of _ (by decide +kernel)) ggL_law_L_dayOfText
set_option maxRecDepth 20000 in
theorem ggL_law_X5_dayOfText : GoodIn wsL_law wsX5_dayOfText := goodIn_r _ [792, 142, 78, 751, 752, 753, 5, 754, 750, 77, 718, 755, 756, 757, 758, 146, 147, 148, 759, 760, 761, 762, 340, 341, 342, 343, 218, 219, 220, 260, 261, 262, 263, 264, 265, 344, 345, 346, 347, 153, 154, 155, 156, 73, 157, 158, 159, 160, 256, 257, 258, 259, 149, 150, 151, 152, 865, 866, 867, 868, 869, 870, 871, 872, 873, 874] (by decide +kernel) (by decide +kernel)
set_option maxRecDepth 20000 in
theorem gL_law_X5_dayOfText : GoodIn wsL_law (wsV RL 273 RX5 yX5_dayOfText wsX5_dayOfText) := goodIn_app (goodIn_of _ (by decide +kernel)) ggL_law_X5_dayOfText
set_option maxRecDepth 20000 in
theorem ggL_law_L_writeDate : GoodIn wsL_law wsL_writeDate := goodIn_ca (goodIn_ca (goodIn_r _ [795, 83, 84, 796, 797, 798, 2, 799, 26, 94, 95, 96, 97, 17, 98, 99, 100, 101, 102, 103, 104, 105, 16, 106, 36, 37, 107, 108, 109, 90, 91, 709, 710, 711, 25, 712, 68, 67, 228, 229, 230, 35, 231, 232, 233, 234, 235, 56, 236, 237, 238, 239, 54, 52, 53, 240, 241, 242, 243, 244, 245, 246, 247, 800, 801, 802, 803, 804, 277, 289, 290, 291, 292, 858, 859, 860, 861, 862, 863, 864, 884, 885, 875, 876, 877, 878, 879, 880, 881, 882, 883, 886, 887, 888, 889, 890] (by decide +kernel) (by decide +kernel)) (goodIn_sub (fun _ h => List.mem_append_right _ h) (by decide +kernel))) (goodIn_sub (fun _ h => List.mem_append_left _ (List.mem_append_left _ (List.mem_append_right _ h))) (by decide +kernel))
set_option maxRecDepth 20000 in
theorem gL_law_L_writeDate : GoodIn wsL_law (va_wsS RL 274 yL_writeDate wsL_writeDate) := goodIn_app (goodIn_of _ (by decide +kernel)) ggL_law_L_writeDate
set_option maxRecDepth 20000 in
theorem ggL_law_X5_writeDate : GoodIn wsL_law wsX5_writeDate := goodIn_r _ [808, 142, 718, 143, 144, 5, 145, 146, 147, 148, 149, 150, 151, 152, 809, 810, 811, 812, 77, 252, 253, 254, 255, 256, 257, 258, 259, 153, 154, 155, 156, 73, 157, 158, 159, 160, 260, 261, 262, 263, 264, 265, 218, 219, 220, 266, 267, 268, 269, 813, 814, 815, 816, 297, 298, 299, 300, 865, 866, 867, 868, 869, 870, 871, 872, 873, 874] (by decide +kernel) (by decide +kernel)
set_option maxRecDepth 20000 in
theorem gL_law_X5_writeDate : GoodIn wsL_law (wsV RL 276 RX5 yX5_writeDate wsX5_writeDate) := goodIn_app (goodIn_of _ (by decide +kernel)) ggL_law_X5_writeDate
set_option maxRecDepth 20000 in
theorem ggL_law_L_undo : GoodIn wsL_law wsL_undo := goodIn_ca (goodIn_r _ [819, 85, 820, 821, 822, 2, 823, 92, 93, 19, 17, 18, 122, 123, 124, 16, 125, 36, 37, 39, 40, 41, 42, 43, 44, 45, 126, 127, 128, 35, 129, 52, 53, 54, 55, 130, 131, 132, 47, 133, 60, 61, 62, 63, 858, 859, 860, 861, 862, 863, 864, 875, 876, 877, 878, 879, 880, 881, 882, 883, 886, 887, 888, 889, 890, 891, 892, 893, 894] (by decide +kernel) (by decide +kernel)) (goodIn_sub (fun _ h => List.mem_append_left _ (List.mem_append_right _ h)) (by decide +kernel))
set_option maxRecDepth 20000 in
theorem gL_law_L_undo : GoodIn wsL_law (va_wsS RL 277 yL_undo wsL_undo) := goodIn_app (goodIn_of _ (by decide +kernel)) ggL_law_L_undo
set_option maxRecDepth 20000 in
theorem ggL_law_X5_undo : GoodIn wsL_law wsX5_undo := goodIn_r _ [827, 142, 165, 73, 74, 149, 150, 151, 5, 152, 865, 866, 867, 868, 869, 870, 871, 872, 873, 874] (by decide +kernel) (by decide +kernel)
set_option maxRecDepth 20000 in
theorem gL_law_X5_undo : GoodIn wsL_law (wsV RL 279 RX5 yX5_undo wsX5_undo) := goodIn_app (goodIn_of _ (by decide +kernel)) ggL_law_X5_undo
set_option maxRecDepth 20000 in
theorem ggL_law_X4_undoCount : GoodIn wsL_law wsX4_undoCount := goodIn_r _ [831, 19, 858, 859, 860, 861, 862, 863, 864] (by decide +kernel) (by decide +kernel)
set_option maxRecDepth 20000 in
theorem gL_law_X4_undoCount : GoodIn wsL_law (wsV RL 280 RX4 yX4_undoCount wsX4_undoCount) := goodIn_app (goodIn_of _ (by decide +kernel)) ggL_law_X4_undoCount
set_option maxRecDepth 20000 in
theorem ggL_law_X5_undoCount : GoodIn wsL_law wsX5_undoCount := goodIn_r _ [835, 142, 165, 865, 866, 867, 868, 869, 870, 871, 872, 873, 874] (by decide +kernel) (by decide +kernel)
set_option maxRecDepth 20000 in
theorem gL_law_X5_undoCount : GoodIn wsL_law (wsV RL 283 RX5 yX5_undoCount wsX5_undoCount) := goodIn_app (goodIn_of _ (by decide +kernel)) ggL_law_X5_undoCount
set_option maxRecDepth 20000 in
theorem ggL_law_L_saveState : GoodIn wsL_law wsL_saveState := goodIn_ca (goodIn_r _ [838, 83, 839, 840, 841, 2, 842, 20, 17, 22, 98, 99, 100, 101, 102, 122, 123, 124, 16, 125, 36, 37, 39, 40, 41, 42, 43, 44, 45, 126, 127, 128, 35, 129, 52, 53, 54, 55, 130, 131, 132, 47, 133, 60, 61, 62, 63, 858, 859, 860, 861, 862, 863, 864, 875, 876, 877, 878, 879, 880, 881, 882, 883, 886, 887, 888, 889, 890, 891, 892, 893, 894] (by decide +kernel) (by decide +kernel)) (goodIn_sub (fun _ h => List.mem_append_right _ h) (by decide +kernel))
set_option maxRecDepth 20000 in
theorem gL_law_L_saveState : GoodIn wsL_law (va_wsS RL 284 yL_saveState wsL_saveState) := goodIn_app (goodIn_of _ (by decide +kernel)) ggL_law_L_saveState
set_option maxRecDepth 20000 in
theorem ggL_law_X5_saveState : GoodIn wsL_law wsX5_saveState := goodIn_r _ [846, 142, 75, 73, 76, 146, 147, 5, 148, 149, 150, 151, 152, 865, 866, 867, 868, 869, 870, 871, 872, 873, 874] (by decide +kernel) (by decide +kernel)
set_option maxRecDepth 20000 in
theorem gL_law_X5_saveState : GoodIn wsL_law (wsV RL 286 RX5 yX5_saveState wsX5_saveState) := goodIn_app (goodIn_of _ (by decide +kernel)) ggL_law_X5_saveState
set_option maxRecDepth 20000 in
theorem ggL_law_L_loadState : GoodIn wsL_law wsL_loadState := goodIn_ca (goodIn_ca (goodIn_r _ [849, 83, 85, 850, 851, 852, 2, 853, 92, 93, 22, 17, 20, 98, 99, 100, 101, 102, 114, 115, 116, 117, 19, 18, 118, 119, 120, 121, 122, 123, 124, 16, 125, 36, 37, 39, 40, 41, 42, 43, 44, 45, 126, 127, 128, 35, 129, 52, 53, 54, 55, 130, 131, 132, 47, 133, 60, 61, 62, 63, 858, 859, 860, 861, 862, 863, 864, 875, 876, 877, 878, 879, 880, 881, 882, 883, 886, 887, 888, 889, 890, 891, 892, 893, 894] (by decide +kernel) (by decide +kernel)) (goodIn_sub (fun _ h => List.mem_append_left _ (List.mem_append_right _ h)) (by decide +kernel))) (goodIn_sub (fun _ h => List.mem_append_right _ h) (by decide +kernel))
set_option maxRecDepth 20000 in
theorem gL_law_L_loadState : GoodIn wsL_law (va_wsS RL 287 yL_loadState wsL_loadState) := goodIn_app (goodIn_of _ (by decide +kernel)) ggL_law_L_loadState
set_option maxRecDepth 20000 in
theorem ggL_law_X5_loadState : GoodIn wsL_law wsX5_loadState := goodIn_r _ [857, 142, 76, 73, 75, 146, 147, 5, 148, 149, 150, 151, 152, 161, 162, 163, 164, 165, 74, 865, 866, 867, 868, 869, 870, 871, 872, 873, 874] (by decide +kernel) (by decide +kernel)
set_option maxRecDepth 20000 in
theorem gL_law_X5_loadState : GoodIn wsL_law (wsV RL 289 RX5 yX5_loadState wsX5_loadState) := goodIn_app (goodIn_of _ (by decide +kernel)) ggL_law_X5_loadState

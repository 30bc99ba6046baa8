set_option maxRecDepth 20000 in
theorem ggL_law_X5_setShift : GoodIn wsL_law wsX5_setShift := goodIn_r _ [557, 142, 73, 146, 147, 5, 148, 149, 150, 151, 152, 161, 162, 163, 164, 165, 74, 865, 866, 867, 868, 869, 870, 871, 872, 873, 874] (by decide +kernel) (by decide +kernel)
set_option maxRecDepth 20000 in
theorem gL_law_X5_setShift : GoodIn wsL_law (wsV RL 207 RX5 yX5_setShift wsX5_setShift) := goodIn_app (goodIn_of _ (by decide +kernel)) ggL_law_X5_setShift
set_option maxRecDepth 20000 in
theorem ggL_law_X4_shift : GoodIn wsL_law wsX4_shift := goodIn_r _ [561, 17, 858, 859, 860, 861, 862, 863, 864, 875, 876, 877, 878, 879, 880, 881, 882, 883] (by decide +kernel) (by decide +kernel)
set_option maxRecDepth 20000 in
theorem gL_law_X4_shift : GoodIn wsL_law (wsV RL 208 RX4 yX4_shift wsX4_shift) := goodIn_app (goodIn_of _ (by decide +kernel)) ggL_law_X4_shift
set_option maxRecDepth 20000 in
theorem ggL_law_X5_shift : GoodIn wsL_law wsX5_shift := goodIn_r _ [565, 142, 73, 865, 866, 867, 868, 869, 870, 871, 872, 873, 874] (by decide +kernel) (by decide +kernel)
set_option maxRecDepth 20000 in
theorem gL_law_X5_shift : GoodIn wsL_law (wsV RL 211 RX5 yX5_shift wsX5_shift) := goodIn_app (goodIn_of _ (by decide +kernel)) ggL_law_X5_shift
set_option maxRecDepth 20000 in
theorem ggL_law_L_setCopiesPerDay : GoodIn wsL_law wsL_setCopiesPerDay := goodIn_ca (goodIn_r _ [568, 84, 569, 570, 571, 2, 572, 17, 107, 108, 109, 90, 91, 114, 115, 116, 117, 19, 18, 118, 119, 120, 121, 122, 123, 124, 16, 125, 36, 37, 39, 40, 41, 42, 43, 44, 45, 126, 127, 128, 35, 129, 52, 53, 54, 55, 130, 131, 132, 47, 133, 60, 61, 62, 63, 858, 859, 860, 861, 862, 863, 864, 875, 876, 877, 878, 879, 880, 881, 882, 883, 886, 887, 888, 889, 890, 891, 892, 893, 894] (by decide +kernel) (by decide +kernel)) (goodIn_sub (fun _ h => List.mem_append_left _ (List.mem_append_left _ (List.mem_append_right _ h))) (by decide +kernel))
set_option maxRecDepth 20000 in
theorem gL_law_L_setCopiesPerDay : GoodIn wsL_law (va_wsS RL 212 yL_setCopiesPerDay wsL_setCopiesPerDay) := goodIn_app (goodIn_of _ (by decide +kernel)) ggL_law_L_setCopiesPerDay
set_option maxRecDepth 20000 in
theorem ggL_law_X5_setCopiesPerDay : GoodIn wsL_law wsX5_setCopiesPerDay := goodIn_r _ [576, 142, 73, 146, 147, 5, 148, 149, 150, 151, 152, 161, 162, 163, 164, 165, 74, 865, 866, 867, 868, 869, 870, 871, 872, 873, 874] (by decide +kernel) (by decide +kernel)
set_option maxRecDepth 20000 in
theorem gL_law_X5_setCopiesPerDay : GoodIn wsL_law (wsV RL 214 RX5 yX5_setCopiesPerDay wsX5_setCopiesPerDay) := goodIn_app (goodIn_of _ (by decide +kernel)) ggL_law_X5_setCopiesPerDay
set_option maxRecDepth 20000 in
theorem ggL_law_X4_copiesPerDay : GoodIn wsL_law wsX4_copiesPerDay := goodIn_r _ [580, 17, 858, 859, 860, 861, 862, 863, 864, 875, 876, 877, 878, 879, 880, 881, 882, 883] (by decide +kernel) (by decide +kernel)
set_option maxRecDepth 20000 in
theorem gL_law_X4_copiesPerDay : GoodIn wsL_law (wsV RL 215 RX4 yX4_copiesPerDay wsX4_copiesPerDay) := goodIn_app (goodIn_of _ (by decide +kernel)) ggL_law_X4_copiesPerDay
set_option maxRecDepth 20000 in
theorem ggL_law_X5_copiesPerDay : GoodIn wsL_law wsX5_copiesPerDay := goodIn_r _ [584, 142, 73, 865, 866, 867, 868, 869, 870, 871, 872, 873, 874] (by decide +kernel) (by decide +kernel)
set_option maxRecDepth 20000 in
theorem gL_law_X5_copiesPerDay : GoodIn wsL_law (wsV RL 218 RX5 yX5_copiesPerDay wsX5_copiesPerDay) := goodIn_app (goodIn_of _ (by decide +kernel)) ggL_law_X5_copiesPerDay
set_option maxRecDepth 20000 in
theorem ggL_law_L_passDays : GoodIn wsL_law wsL_passDays := goodIn_ca (goodIn_ca (goodIn_r _ [587, 84, 85, 588, 589, 590, 2, 591, 92, 93, 17, 28, 107, 108, 109, 90, 91, 114, 115, 116, 117, 19, 18, 118, 119, 120, 121, 122, 123, 124, 16, 125, 36, 37, 39, 40, 41, 42, 43, 44, 45, 126, 127, 128, 35, 129, 52, 53, 54, 55, 130, 131, 132, 47, 133, 60, 61, 62, 63, 523, 524, 525, 526, 504, 505, 506, 507, 458, 104, 105, 106, 479, 290, 291, 292, 56, 236, 237, 238, 239, 480, 481, 482, 483, 484, 485, 486, 487, 488, 455, 456, 457, 459, 435, 436, 437, 323, 211, 212, 213, 324, 325, 326, 327, 328, 329, 330, 331, 244, 245, 246, 247, 332, 333, 334, 335, 438, 527, 528, 529, 530, 531, 532, 533, 534, 592, 593, 594, 595, 596, 597, 598, 599, 600, 601, 602, 858, 859, 860, 861, 862, 863, 864, 875, 876, 877, 878, 879, 880, 881, 882, 883, 886, 887, 888, 889, 890, 891, 892, 893, 894] (by decide +kernel) (by decide +kernel)) (goodIn_sub (fun _ h => List.mem_append_left _ (List.mem_append_right _ h)) (by decide +kernel))) (goodIn_sub (fun _ h => List.mem_append_left _ (List.mem_append_left _ (List.mem_append_right _ h))) (by decide +kernel))
set_option maxRecDepth 20000 in
theorem gL_law_L_passDays : GoodIn wsL_law (va_wsS RL 219 yL_passDays wsL_passDays) := goodIn_app (goodIn_of _ (by decide +kernel)) ggL_law_L_passDays
set_option maxRecDepth 20000 in
theorem ggL_law_X5_passDays : GoodIn wsL_law wsX5_passDays := goodIn_r _ [606, 142, 73, 146, 147, 5, 148, 149, 150, 151, 152, 161, 162, 163, 164, 165, 74, 512, 513, 514, 515, 493, 494, 495, 496, 382, 383, 384, 385, 297, 298, 299, 300, 256, 257, 258, 259, 153, 154, 155, 156, 157, 158, 159, 160, 260, 261, 262, 263, 264, 265, 218, 219, 220, 464, 465, 466, 467, 443, 444, 445, 446, 344, 345, 346, 347, 543, 544, 545, 546, 865, 866, 867, 868, 869, 870, 871, 872, 873, 874] (by decide +kernel) (by decide +kernel)
set_option maxRecDepth 20000 in
theorem gL_law_X5_passDays : GoodIn wsL_law (wsV RL 221 RX5 yX5_passDays wsX5_passDays) := goodIn_app (goodIn_of _ (by decide +kernel)) ggL_law_X5_passDays
set_option maxRecDepth 20000 in
theorem ggL_law_X4_today : GoodIn wsL_law wsX4_today := goodIn_r _ [610, 17, 858, 859, 860, 861, 862, 863, 864, 875, 876, 877, 878, 879, 880, 881, 882, 883] (by decide +kernel) (by decide +kernel)
set_option maxRecDepth 20000 in
theorem gL_law_X4_today : GoodIn wsL_law (wsV RL 222 RX4 yX4_today wsX4_today) := goodIn_app (goodIn_of _ (by decide +kernel)) ggL_law_X4_today
set_option maxRecDepth 20000 in
theorem ggL_law_X5_today : GoodIn wsL_law wsX5_today := goodIn_r _ [614, 142, 73, 865, 866, 867, 868, 869, 870, 871, 872, 873, 874] (by decide +kernel) (by decide +kernel)
set_option maxRecDepth 20000 in
theorem gL_law_X5_today : GoodIn wsL_law (wsV RL 225 RX5 yX5_today wsX5_today) := goodIn_app (goodIn_of _ (by decide +kernel)) ggL_law_X5_today
set_option maxRecDepth 20000 in
theorem ggL_law_L_feastsKept : GoodIn wsL_law wsL_feastsKept := goodIn_ca (goodIn_r _ [617, 83, 618, 619, 620, 2, 621, 94, 95, 96, 97, 17, 98, 99, 100, 101, 102, 103, 104, 105, 16, 106, 36, 37, 886, 887, 888, 889, 890, 858, 859, 860, 861, 862, 863, 864, 875, 876, 877, 878, 879, 880, 881, 882, 883] (by decide +kernel) (by decide +kernel)) (goodIn_sub (fun _ h => List.mem_append_right _ h) (by decide +kernel))
set_option maxRecDepth 20000 in
theorem gL_law_L_feastsKept : GoodIn wsL_law (va_wsS RL 226 yL_feastsKept wsL_feastsKept) := goodIn_app (goodIn_of _ (by decide +kernel)) ggL_law_L_feastsKept
set_option maxRecDepth 20000 in
theorem ggL_law_X5_feastsKept : GoodIn wsL_law wsX5_feastsKept := goodIn_r _ [625, 142, 73, 143, 144, 5, 145, 146, 147, 148, 149, 150, 151, 152, 865, 866, 867, 868, 869, 870, 871, 872, 873, 874] (by decide +kernel) (by decide +kernel)
set_option maxRecDepth 20000 in
theorem gL_law_X5_feastsKept : GoodIn wsL_law (wsV RL 228 RX5 yX5_feastsKept wsX5_feastsKept) := goodIn_app (goodIn_of _ (by decide +kernel)) ggL_law_X5_feastsKept
set_option maxRecDepth 20000 in
theorem ggL_law_X4_quarrelCount : GoodIn wsL_law wsX4_quarrelCount := goodIn_r _ [629, 17, 858, 859, 860, 861, 862, 863, 864, 875, 876, 877, 878, 879, 880, 881, 882, 883] (by decide +kernel) (by decide +kernel)
set_option maxRecDepth 20000 in
theorem gL_law_X4_quarrelCount : GoodIn wsL_law (wsV RL 229 RX4 yX4_quarrelCount wsX4_quarrelCount) := goodIn_app (goodIn_of _ (by decide +kernel)) ggL_law_X4_quarrelCount
set_option maxRecDepth 20000 in
theorem ggL_law_X5_quarrelCount : GoodIn wsL_law wsX5_quarrelCount := goodIn_r _ [633, 142, 73, 865, 866, 867, 868, 869, 870, 871, 872, 873, 874] (by decide +kernel) (by decide +kernel)
set_option maxRecDepth 20000 in
theorem gL_law_X5_quarrelCount : GoodIn wsL_law (wsV RL 232 RX5 yX5_quarrelCount wsX5_quarrelCount) := goodIn_app (goodIn_of _ (by decide +kernel)) ggL_law_X5_quarrelCount
set_option maxRecDepth 20000 in
theorem ggL_law_X4_copiesMade : GoodIn wsL_law wsX4_copiesMade := goodIn_r _ [637, 17, 858, 859, 860, 861, 862, 863, 864, 875, 876, 877, 878, 879, 880, 881, 882, 883] (by decide +kernel) (by decide +kernel)
set_option maxRecDepth 20000 in
theorem gL_law_X4_copiesMade : GoodIn wsL_law (wsV RL 233 RX4 yX4_copiesMade wsX4_copiesMade) := goodIn_app (goodIn_of _ (by decide +kernel)) ggL_law_X4_copiesMade
set_option maxRecDepth 20000 in
theorem ggL_law_X5_copiesMade : GoodIn wsL_law wsX5_copiesMade := goodIn_r _ [641, 142, 73, 865, 866, 867, 868, 869, 870, 871, 872, 873, 874] (by decide +kernel) (by decide +kernel)
set_option maxRecDepth 20000 in
theorem gL_law_X5_copiesMade : GoodIn wsL_law (wsV RL 236 RX5 yX5_copiesMade wsX5_copiesMade) := goodIn_app (goodIn_of _ (by decide +kernel)) ggL_law_X5_copiesMade
set_option maxRecDepth 20000 in
theorem ggL_law_L_nextDay : GoodIn wsL_law wsL_nextDay := goodIn_ca (goodIn_r _ [644, 83, 645, 646, 647, 2, 648, 17, 370, 371, 372, 373, 98, 99, 100, 101, 102, 475, 476, 477, 16, 478, 458, 104, 105, 106, 36, 37, 479, 290, 291, 35, 292, 56, 236, 237, 238, 239, 54, 52, 53, 480, 481, 482, 483, 484, 485, 486, 487, 488, 455, 456, 457, 41, 459, 435, 436, 437, 323, 211, 212, 213, 324, 325, 326, 327, 328, 329, 330, 331, 244, 245, 246, 247, 332, 333, 334, 335, 438, 858, 859, 860, 861, 862, 863, 864, 875, 876, 877, 878, 879, 880, 881, 882, 883, 891, 892, 893, 894, 886, 887, 888, 889, 890] (by decide +kernel) (by decide +kernel)) (goodIn_sub (fun _ h => List.mem_append_right _ h) (by decide +kernel))
set_option maxRecDepth 20000 in
theorem gL_law_L_nextDay : GoodIn wsL_law (va_wsS RL 237 yL_nextDay wsL_nextDay) := goodIn_app (goodIn_of _ (by decide +kernel)) ggL_law_L_nextDay
set_option maxRecDepth 20000 in
theorem ggL_law_X5_nextDay : GoodIn wsL_law wsX5_nextDay := goodIn_r _ [652, 142, 73, 378, 379, 380, 5, 381, 146, 147, 148, 149, 150, 151, 152, 493, 494, 495, 496, 382, 383, 384, 385, 297, 298, 299, 300, 256, 257, 258, 259, 153, 154, 155, 156, 157, 158, 159, 160, 260, 261, 262, 263, 264, 265, 218, 219, 220, 464, 465, 466, 467, 443, 444, 445, 446, 344, 345, 346, 347, 865, 866, 867, 868, 869, 870, 871, 872, 873, 874] (by decide +kernel) (by decide +kernel)
set_option maxRecDepth 20000 in
theorem gL_law_X5_nextDay : GoodIn wsL_law (wsV RL 239 RX5 yX5_nextDay wsX5_nextDay) := goodIn_app (goodIn_of _ (by decide +kernel)) ggL_law_X5_nextDay
set_option maxRecDepth 20000 in
theorem ggL_law_L_daysUntilMeeting : GoodIn wsL_law wsL_daysUntilMeeting := goodIn_ca (goodIn_ca (goodIn_r _ [655, 83, 84, 656, 657, 658, 2, 659, 90, 91, 17, 370, 371, 372, 373, 98, 99, 100, 101, 102, 660, 661, 662, 16, 663, 458, 104, 105, 106, 36, 37, 479, 290, 291, 35, 292, 56, 236, 237, 238, 239, 54, 52, 53, 480, 481, 482, 483, 484, 485, 486, 487, 488, 455, 456, 457, 41, 459, 435, 436, 437, 323, 211, 212, 213, 324, 325, 326, 327, 328, 329, 330, 331, 244, 245, 246, 247, 332, 333, 334, 335, 438, 664, 476, 477, 478, 858, 859, 860, 861, 862, 863, 864, 875, 876, 877, 878, 879, 880, 881, 882, 883, 891, 892, 893, 894, 886, 887, 888, 889, 890] (by decide +kernel) (by decide +kernel)) (goodIn_sub (fun _ h => List.mem_append_left _ (List.mem_append_left _ (List.mem_append_right _ h))) (by decide +kernel))) (goodIn_sub (fun _ h => List.mem_append_right _ h) (by decide +kernel))
set_option maxRecDepth 20000 in
theorem gL_law_L_daysUntilMeeting : GoodIn wsL_law (va_wsS RL 240 yL_daysUntilMeeting wsL_daysUntilMeeting) := goodIn_app (goodIn_of _ (by decide +kernel)) ggL_law_L_daysUntilMeeting
set_option maxRecDepth 20000 in
theorem ggL_law_X5_daysUntilMeeting : GoodIn wsL_law wsX5_daysUntilMeeting := goodIn_r _ [668, 142, 73, 378, 379, 380, 5, 381, 146, 147, 148, 149, 150, 151, 152, 493, 494, 495, 496, 382, 383, 384, 385, 297, 298, 299, 300, 256, 257, 258, 259, 153, 154, 155, 156, 157, 158, 159, 160, 260, 261, 262, 263, 264, 265, 218, 219, 220, 464, 465, 466, 467, 443, 444, 445, 446, 344, 345, 346, 347, 865, 866, 867, 868, 869, 870, 871, 872, 873, 874] (by decide +kernel) (by decide +kernel)
set_option maxRecDepth 20000 in
theorem gL_law_X5_daysUntilMeeting : GoodIn wsL_law (wsV RL 242 RX5 yX5_daysUntilMeeting wsX5_daysUntilMeeting) := goodIn_app (goodIn_of _ (by decide +kernel)) ggL_law_X5_daysUntilMeeting
set_option maxRecDepth 20000 in
theorem ggL_law_L_quarrelsWithin : GoodIn wsL_law wsL_quarrelsWithin := goodIn_ca (goodIn_r _ [671, 84, 672, 673, 674, 2, 675, 17, 107, 108, 109, 90, 91, 523, 524, 525, 526, 28, 504, 505, 506, 16, 507, 40, 39, 458, 104, 105, 106, 36, 37, 479, 290, 291, 35, 292, 56, 236, 237, 238, 239, 54, 52, 53, 480, 481, 482, 483, 484, 485, 486, 487, 488, 455, 456, 457, 41, 459, 435, 436, 437, 323, 211, 212, 213, 324, 325, 326, 327, 328, 329, 330, 331, 244, 245, 246, 247, 332, 333, 334, 335, 438, 527, 528, 529, 530, 531, 532, 533, 534, 858, 859, 860, 861, 862, 863, 864, 875, 876, 877, 878, 879, 880, 881, 882, 883, 891, 892, 893, 894, 886, 887, 888, 889, 890] (by decide +kernel) (by decide +kernel)) (goodIn_sub (fun _ h => List.mem_append_left _ (List.mem_append_left _ (List.mem_append_right _ h))) (by decide +kernel))
set_option maxRecDepth 20000 in
theorem gL_law_L_quarrelsWithin : GoodIn wsL_law (va_wsS RL 243 yL_quarrelsWithin wsL_quarrelsWithin) := goodIn_app (goodIn_of _ (by decide +kernel)) ggL_law_L_quarrelsWithin
set_option maxRecDepth 20000 in
theorem ggL_law_X5_quarrelsWithin : GoodIn wsL_law wsX5_quarrelsWithin := goodIn_r _ [679, 142, 146, 147, 5, 148, 680, 681, 682, 683, 73, 539, 540, 541, 542, 512, 513, 514, 515, 493, 494, 495, 496, 382, 383, 384, 385, 297, 298, 299, 300, 256, 257, 258, 259, 153, 154, 155, 156, 157, 158, 159, 160, 260, 261, 262, 263, 264, 265, 218, 219, 220, 464, 465, 466, 467, 443, 444, 445, 446, 344, 345, 346, 347, 543, 544, 545, 546, 149, 150, 151, 152, 865, 866, 867, 868, 869, 870, 871, 872, 873, 874] (by decide +kernel) (by decide +kernel)
set_option maxRecDepth 20000 in
theorem gL_law_X5_quarrelsWithin : GoodIn wsL_law (wsV RL 245 RX5 yX5_quarrelsWithin wsX5_quarrelsWithin) := goodIn_app (goodIn_of _ (by decide +kernel)) ggL_law_X5_quarrelsWithin
set_option maxRecDepth 20000 in
theorem ggL_law_L_bestBarredWeekday : GoodIn wsL_law wsL_bestBarredWeekday := goodIn_ca (goodIn_r _ [686, 83, 687, 688, 689, 2, 690, 17, 370, 371, 372, 373, 98, 99, 100, 101, 102, 523, 524, 525, 526, 28, 504, 505, 506, 16, 507, 40, 39, 458, 104, 105, 106, 36, 37, 479, 290, 291, 35, 292, 56, 236, 237, 238, 239, 54, 52, 53, 480, 481, 482, 483, 484, 485, 486, 487, 488, 455, 456, 457, 41, 459, 435, 436, 437, 323, 211, 212, 213, 324, 325, 326, 327, 328, 329, 330, 331, 244, 245, 246, 247, 332, 333, 334, 335, 438, 527, 528, 529, 530, 531, 532, 533, 534, 891, 892, 893, 894, 858, 859, 860, 861, 862, 863, 864, 875, 876, 877, 878, 879, 880, 881, 882, 883, 886, 887, 888, 889, 890] (by decide +kernel) (by decide +kernel)) (goodIn_sub (fun _ h => List.mem_append_right _ h) (by decide +kernel))
set_option maxRecDepth 20000 in
theorem gL_law_L_bestBarredWeekday : GoodIn wsL_law (va_wsS RL 246 yL_bestBarredWeekday wsL_bestBarredWeekday) := goodIn_app (goodIn_of _ (by decide +kernel)) ggL_law_L_bestBarredWeekday

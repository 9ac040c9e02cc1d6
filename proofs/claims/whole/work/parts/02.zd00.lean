set_option maxRecDepth 20000 in
theorem ggL_law_X5_init : GoodIn wsL_law wsX5_init := goodIn_r _ [9, 10, 11, 12, 13, 14, 15, 16, 17, 18, 19, 20, 21, 22, 23, 24, 25, 26, 27, 28, 29, 30, 31, 32, 33, 34, 35, 36, 37, 38, 39, 40, 41, 42, 43, 44, 45, 46, 47, 48, 49, 50, 51, 52, 53, 54, 55, 56, 57, 58, 59, 60, 797, 798, 799, 800, 801, 774, 775, 776, 777, 778, 779, 802, 803, 804, 805, 806, 807, 808, 809, 810, 811, 812, 813, 814, 815, 816, 817, 818, 819, 820, 821, 822, 823] rfl (by decide +kernel)
set_option maxRecDepth 20000 in
theorem gL_law_X5_init : GoodIn wsL_law (wsX5_init) := ggL_law_X5_init
set_option maxRecDepth 20000 in
theorem ggL_law_X6_init : GoodIn wsL_law wsX6_init := goodIn_r _ [63, 64, 11, 12, 30, 65, 66, 67, 68, 69, 70, 71, 72, 780, 781, 782, 783, 784, 785, 786, 787, 788, 789, 790, 791, 792, 793, 794, 795, 796] rfl (by decide +kernel)
set_option maxRecDepth 20000 in
theorem gL_law_X6_init : GoodIn wsL_law (wsX6_init) := ggL_law_X6_init
set_option maxRecDepth 20000 in
theorem ggL_law_L_setWidth : GoodIn wsL_law wsL_setWidth := goodIn_ca (goodIn_r _ [76, 77, 78, 79, 80, 2, 81, 82, 83, 20, 16, 84, 85, 86, 87, 19, 88, 89, 90, 91, 92, 93, 94, 95, 96, 97, 98, 47, 99, 100, 101, 102, 103, 104, 105, 15, 106, 31, 35, 36, 107, 108, 109, 110, 111, 34, 112, 40, 41, 42, 113, 114, 115, 116, 117, 118, 119, 120, 121, 122, 123, 124, 125, 126, 127, 128, 774, 775, 776, 777, 778, 779, 797, 798, 799, 800, 801, 802, 803, 804, 810, 811, 812, 813, 814, 815, 816] rfl (by decide +kernel)) (goodIn_sub (fun _ h => List.mem_append_left _ (List.mem_append_left _ (List.mem_append_right _ h))) (by decide +kernel))
set_option maxRecDepth 20000 in
theorem gL_law_L_setWidth : GoodIn wsL_law (va_wsS RL 94 yL_setWidth wsL_setWidth) := goodIn_app (goodIn_of _ (by decide +kernel)) ggL_law_L_setWidth
set_option maxRecDepth 20000 in
theorem ggL_law_X6_setWidth : GoodIn wsL_law wsX6_setWidth := goodIn_r _ [132, 72, 65, 133, 134, 5, 135, 136, 137, 138, 139, 140, 141, 142, 143, 144, 67, 145, 146, 147, 148, 149, 150, 151, 152, 780, 781, 782, 783, 784, 785, 786, 787, 788, 789, 790, 791, 792, 793, 794, 795, 796] rfl (by decide +kernel)
set_option maxRecDepth 20000 in
theorem gL_law_X6_setWidth : GoodIn wsL_law (wsV RL 99 RX6 yX6_setWidth wsX6_setWidth) := goodIn_app (goodIn_of _ (by decide +kernel)) ggL_law_X6_setWidth
set_option maxRecDepth 20000 in
theorem ggL_law_X6_thrown : GoodIn wsL_law wsX6_thrown := goodIn_r _ [156, 72, 780, 781, 782, 783, 784, 785, 786, 787, 788, 789, 790, 791, 792, 793, 794, 795, 796] rfl (by decide +kernel)
set_option maxRecDepth 20000 in
theorem gL_law_X6_thrown : GoodIn wsL_law (wsV RL 100 RX6 yX6_thrown wsX6_thrown) := goodIn_app (goodIn_of _ (by decide +kernel)) ggL_law_X6_thrown
set_option maxRecDepth 20000 in
theorem ggL_law_L_set : GoodIn wsL_law wsL_set := goodIn_ca (goodIn_ca (goodIn_r _ [159, 160, 77, 161, 162, 163, 2, 164, 82, 83, 16, 20, 165, 166, 167, 168, 169, 170, 171, 172, 173, 174, 175, 15, 176, 121, 122, 123, 124, 36, 85, 86, 87, 19, 88, 89, 90, 91, 92, 93, 94, 95, 96, 97, 98, 47, 99, 100, 101, 102, 103, 104, 105, 106, 31, 35, 107, 108, 109, 110, 111, 34, 112, 40, 41, 42, 113, 114, 115, 116, 177, 178, 179, 180, 181, 182, 183, 184, 774, 775, 776, 777, 778, 779, 797, 798, 799, 800, 801, 802, 803, 804, 810, 811, 812, 813, 814, 815, 816] rfl (by decide +kernel)) (goodIn_sub (fun _ h => List.mem_append_left _ (List.mem_append_left _ (List.mem_append_right _ h))) (by decide +kernel))) (goodIn_sub (fun _ h => List.mem_append_left _ (List.mem_append_right _ h)) (by decide +kernel))
set_option maxRecDepth 20000 in
theorem gL_law_L_set : GoodIn wsL_law (va_wsS RL 103 yL_set wsL_set) := goodIn_app (goodIn_of _ (by decide +kernel)) ggL_law_L_set
set_option maxRecDepth 20000 in
theorem ggL_law_X6_set : GoodIn wsL_law wsX6_set := goodIn_r _ [188, 72, 65, 189, 190, 5, 191, 133, 134, 135, 136, 137, 138, 139, 192, 193, 194, 195, 140, 141, 142, 143, 144, 67, 145, 146, 147, 148, 780, 781, 782, 783, 784, 785, 786, 787, 788, 789, 790, 791, 792, 793, 794, 795, 796] rfl (by decide +kernel)
set_option maxRecDepth 20000 in
theorem gL_law_X6_set : GoodIn wsL_law (wsV RL 106 RX6 yX6_set wsX6_set) := goodIn_app (goodIn_of _ (by decide +kernel)) ggL_law_X6_set
set_option maxRecDepth 20000 in
theorem ggL_law_L_begin : GoodIn wsL_law wsL_begin := goodIn_ca (goodIn_ca (goodIn_ca (goodIn_r _ [198, 160, 77, 199, 200, 201, 202, 2, 203, 82, 83, 20, 16, 204, 84, 205, 165, 166, 167, 168, 169, 170, 171, 172, 206, 207, 208, 209, 210, 211, 85, 86, 87, 19, 88, 89, 90, 91, 92, 93, 94, 95, 96, 97, 98, 47, 99, 100, 101, 102, 103, 104, 105, 15, 106, 31, 35, 36, 107, 108, 109, 110, 111, 34, 112, 40, 41, 42, 113, 114, 115, 116, 177, 178, 179, 180, 212, 213, 214, 215, 216, 217, 218, 219, 220, 221, 222, 223, 224, 774, 775, 776, 777, 778, 779, 797, 798, 799, 800, 801, 810, 811, 812, 813, 814, 815, 816, 802, 803, 804] rfl (by decide +kernel)) (goodIn_sub (fun _ h => List.mem_append_left _ (List.mem_append_left _ (List.mem_append_right _ h))) (by decide +kernel))) (goodIn_sub (fun _ h => List.mem_append_left _ (List.mem_append_right _ h)) (by decide +kernel))) (goodIn_sub (fun _ h => List.mem_append_right _ h) (by decide +kernel))
set_option maxRecDepth 20000 in
theorem gL_law_L_begin : GoodIn wsL_law (va_wsS RL 107 yL_begin wsL_begin) := goodIn_app (goodIn_of _ (by decide +kernel)) ggL_law_L_begin
set_option maxRecDepth 20000 in
theorem ggL_law_X6_begin : GoodIn wsL_law wsX6_begin := goodIn_r _ [228, 72, 65, 229, 230, 5, 231, 189, 190, 191, 133, 134, 135, 136, 137, 138, 139, 232, 233, 234, 235, 140, 141, 142, 143, 144, 67, 236, 237, 238, 239, 145, 146, 147, 148, 240, 241, 242, 243, 780, 781, 782, 783, 784, 785, 786, 787, 788, 789, 790, 791, 792, 793, 794, 795, 796] rfl (by decide +kernel)
set_option maxRecDepth 20000 in
theorem gL_law_X6_begin : GoodIn wsL_law (wsV RL 110 RX6 yX6_begin wsX6_begin) := goodIn_app (goodIn_of _ (by decide +kernel)) ggL_law_X6_begin
set_option maxRecDepth 20000 in
theorem ggL_law_L_step : GoodIn wsL_law wsL_step := goodIn_ca (goodIn_r _ [246, 199, 247, 248, 249, 2, 250, 210, 211, 16, 204, 205, 20, 85, 86, 87, 19, 88, 89, 90, 91, 92, 93, 94, 95, 96, 97, 98, 47, 99, 100, 101, 102, 103, 104, 105, 15, 106, 31, 35, 36, 107, 108, 109, 110, 111, 34, 112, 40, 41, 42, 113, 114, 115, 116, 251, 252, 253, 254, 255, 256, 257, 258, 259, 260, 261, 262, 263, 264, 774, 775, 776, 777, 778, 779, 797, 798, 799, 800, 801, 810, 811, 812, 813, 814, 815, 816, 802, 803, 804] rfl (by decide +kernel)) (goodIn_sub (fun _ h => List.mem_append_right _ h) (by decide +kernel))
set_option maxRecDepth 20000 in
theorem gL_law_L_step : GoodIn wsL_law (va_wsS RL 111 yL_step wsL_step) := goodIn_app (goodIn_of _ (by decide +kernel)) ggL_law_L_step

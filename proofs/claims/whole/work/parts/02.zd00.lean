set_option maxRecDepth 20000 in
theorem ggL_law_X5_init : GoodIn wsL_law wsX5_init := goodIn_r _ [9, 10, 11, 12, 13, 14, 15, 16, 17, 18, 19, 20, 21, 22, 23, 24, 25, 26, 27, 28, 29, 30, 31, 32, 33, 34, 35, 36, 37, 38, 39, 40, 41, 42, 43, 44, 45, 46, 47, 48, 49, 50, 51, 52, 53, 54, 55, 56, 57, 58, 59, 60, 789, 790, 791, 792, 793, 766, 767, 768, 769, 770, 771, 794, 795, 796, 797, 798, 799, 800, 801, 802, 803, 804, 805, 806, 807, 808, 809, 810, 811, 812, 813, 814, 815] rfl (by decide +kernel)
set_option maxRecDepth 20000 in
theorem gL_law_X5_init : GoodIn wsL_law (wsX5_init) := ggL_law_X5_init
set_option maxRecDepth 20000 in
theorem ggL_law_X6_init : GoodIn wsL_law wsX6_init := goodIn_r _ [63, 64, 11, 12, 30, 65, 66, 67, 68, 69, 70, 71, 72, 772, 773, 774, 775, 776, 777, 778, 779, 780, 781, 782, 783, 784, 785, 786, 787, 788] rfl (by decide +kernel)
set_option maxRecDepth 20000 in
theorem gL_law_X6_init : GoodIn wsL_law (wsX6_init) := ggL_law_X6_init
set_option maxRecDepth 20000 in
theorem ggL_law_L_setWidth : GoodIn wsL_law wsL_setWidth := goodIn_ca (goodIn_r _ [76, 77, 78, 79, 80, 2, 81, 82, 83, 20, 16, 84, 85, 86, 87, 19, 88, 47, 89, 90, 91, 92, 93, 94, 95, 96, 97, 15, 98, 31, 35, 36, 99, 100, 101, 102, 103, 34, 104, 40, 41, 42, 105, 106, 107, 108, 109, 110, 111, 112, 113, 114, 115, 116, 117, 118, 119, 120, 766, 767, 768, 769, 770, 771, 789, 790, 791, 792, 793, 794, 795, 796, 802, 803, 804, 805, 806, 807, 808] rfl (by decide +kernel)) (goodIn_sub (fun _ h => List.mem_append_left _ (List.mem_append_left _ (List.mem_append_right _ h))) (by decide +kernel))
set_option maxRecDepth 20000 in
theorem gL_law_L_setWidth : GoodIn wsL_law (va_wsS RL 94 yL_setWidth wsL_setWidth) := goodIn_app (goodIn_of _ (by decide +kernel)) ggL_law_L_setWidth
set_option maxRecDepth 20000 in
theorem ggL_law_X6_setWidth : GoodIn wsL_law wsX6_setWidth := goodIn_r _ [124, 72, 65, 125, 126, 5, 127, 128, 129, 130, 131, 132, 133, 134, 135, 136, 67, 137, 138, 139, 140, 141, 142, 143, 144, 772, 773, 774, 775, 776, 777, 778, 779, 780, 781, 782, 783, 784, 785, 786, 787, 788] rfl (by decide +kernel)
set_option maxRecDepth 20000 in
theorem gL_law_X6_setWidth : GoodIn wsL_law (wsV RL 99 RX6 yX6_setWidth wsX6_setWidth) := goodIn_app (goodIn_of _ (by decide +kernel)) ggL_law_X6_setWidth
set_option maxRecDepth 20000 in
theorem ggL_law_X6_thrown : GoodIn wsL_law wsX6_thrown := goodIn_r _ [148, 72, 772, 773, 774, 775, 776, 777, 778, 779, 780, 781, 782, 783, 784, 785, 786, 787, 788] rfl (by decide +kernel)
set_option maxRecDepth 20000 in
theorem gL_law_X6_thrown : GoodIn wsL_law (wsV RL 100 RX6 yX6_thrown wsX6_thrown) := goodIn_app (goodIn_of _ (by decide +kernel)) ggL_law_X6_thrown
set_option maxRecDepth 20000 in
theorem ggL_law_L_set : GoodIn wsL_law wsL_set := goodIn_ca (goodIn_ca (goodIn_r _ [151, 152, 77, 153, 154, 155, 2, 156, 82, 83, 16, 20, 157, 158, 159, 160, 161, 162, 163, 164, 165, 166, 167, 15, 168, 113, 114, 115, 116, 36, 85, 86, 87, 19, 88, 47, 89, 90, 91, 92, 93, 94, 95, 96, 97, 98, 31, 35, 99, 100, 101, 102, 103, 34, 104, 40, 41, 42, 105, 106, 107, 108, 169, 170, 171, 172, 173, 174, 175, 176, 766, 767, 768, 769, 770, 771, 789, 790, 791, 792, 793, 794, 795, 796, 802, 803, 804, 805, 806, 807, 808] rfl (by decide +kernel)) (goodIn_sub (fun _ h => List.mem_append_left _ (List.mem_append_left _ (List.mem_append_right _ h))) (by decide +kernel))) (goodIn_sub (fun _ h => List.mem_append_left _ (List.mem_append_right _ h)) (by decide +kernel))
set_option maxRecDepth 20000 in
theorem gL_law_L_set : GoodIn wsL_law (va_wsS RL 103 yL_set wsL_set) := goodIn_app (goodIn_of _ (by decide +kernel)) ggL_law_L_set
set_option maxRecDepth 20000 in
theorem ggL_law_X6_set : GoodIn wsL_law wsX6_set := goodIn_r _ [180, 72, 65, 181, 182, 5, 183, 125, 126, 127, 128, 129, 130, 131, 184, 185, 186, 187, 132, 133, 134, 135, 136, 67, 137, 138, 139, 140, 772, 773, 774, 775, 776, 777, 778, 779, 780, 781, 782, 783, 784, 785, 786, 787, 788] rfl (by decide +kernel)
set_option maxRecDepth 20000 in
theorem gL_law_X6_set : GoodIn wsL_law (wsV RL 106 RX6 yX6_set wsX6_set) := goodIn_app (goodIn_of _ (by decide +kernel)) ggL_law_X6_set
set_option maxRecDepth 20000 in
theorem ggL_law_L_begin : GoodIn wsL_law wsL_begin := goodIn_ca (goodIn_ca (goodIn_ca (goodIn_r _ [190, 152, 77, 191, 192, 193, 194, 2, 195, 82, 83, 20, 16, 196, 84, 197, 157, 158, 159, 160, 161, 162, 163, 164, 198, 199, 200, 201, 202, 203, 85, 86, 87, 19, 88, 47, 89, 90, 91, 92, 93, 94, 95, 96, 97, 15, 98, 31, 35, 36, 99, 100, 101, 102, 103, 34, 104, 40, 41, 42, 105, 106, 107, 108, 169, 170, 171, 172, 204, 205, 206, 207, 208, 209, 210, 211, 212, 213, 214, 215, 216, 766, 767, 768, 769, 770, 771, 789, 790, 791, 792, 793, 802, 803, 804, 805, 806, 807, 808, 794, 795, 796] rfl (by decide +kernel)) (goodIn_sub (fun _ h => List.mem_append_left _ (List.mem_append_left _ (List.mem_append_right _ h))) (by decide +kernel))) (goodIn_sub (fun _ h => List.mem_append_left _ (List.mem_append_right _ h)) (by decide +kernel))) (goodIn_sub (fun _ h => List.mem_append_right _ h) (by decide +kernel))
set_option maxRecDepth 20000 in
theorem gL_law_L_begin : GoodIn wsL_law (va_wsS RL 107 yL_begin wsL_begin) := goodIn_app (goodIn_of _ (by decide +kernel)) ggL_law_L_begin
set_option maxRecDepth 20000 in
theorem ggL_law_X6_begin : GoodIn wsL_law wsX6_begin := goodIn_r _ [220, 72, 65, 221, 222, 5, 223, 181, 182, 183, 125, 126, 127, 128, 129, 130, 131, 224, 225, 226, 227, 132, 133, 134, 135, 136, 67, 228, 229, 230, 231, 137, 138, 139, 140, 232, 233, 234, 235, 772, 773, 774, 775, 776, 777, 778, 779, 780, 781, 782, 783, 784, 785, 786, 787, 788] rfl (by decide +kernel)
set_option maxRecDepth 20000 in
theorem gL_law_X6_begin : GoodIn wsL_law (wsV RL 110 RX6 yX6_begin wsX6_begin) := goodIn_app (goodIn_of _ (by decide +kernel)) ggL_law_X6_begin
set_option maxRecDepth 20000 in
theorem ggL_law_L_step : GoodIn wsL_law wsL_step := goodIn_ca (goodIn_r _ [238, 191, 239, 240, 241, 2, 242, 202, 203, 16, 196, 197, 20, 85, 86, 87, 19, 88, 47, 89, 90, 91, 92, 93, 94, 95, 96, 97, 15, 98, 31, 35, 36, 99, 100, 101, 102, 103, 34, 104, 40, 41, 42, 105, 106, 107, 108, 243, 244, 245, 246, 247, 248, 249, 250, 251, 252, 253, 254, 255, 256, 766, 767, 768, 769, 770, 771, 789, 790, 791, 792, 793, 802, 803, 804, 805, 806, 807, 808, 794, 795, 796] rfl (by decide +kernel)) (goodIn_sub (fun _ h => List.mem_append_right _ h) (by decide +kernel))
set_option maxRecDepth 20000 in
theorem gL_law_L_step : GoodIn wsL_law (va_wsS RL 111 yL_step wsL_step) := goodIn_app (goodIn_of _ (by decide +kernel)) ggL_law_L_step

set_option maxRecDepth 20000 in
theorem ggL_law_X6_step : GoodIn wsL_law wsX6_step := goodIn_r _ [268, 72, 65, 136, 137, 138, 5, 139, 140, 141, 142, 143, 144, 67, 269, 270, 271, 272, 780, 781, 782, 783, 784, 785, 786, 787, 788, 789, 790, 791, 792, 793, 794, 795, 796] rfl (by decide +kernel)
set_option maxRecDepth 20000 in
theorem gL_law_X6_step : GoodIn wsL_law (wsV RL 114 RX6 yX6_step wsX6_step) := goodIn_app (goodIn_of _ (by decide +kernel)) ggL_law_X6_step
set_option maxRecDepth 20000 in
theorem ggL_law_L_finish : GoodIn wsL_law wsL_finish := goodIn_ca (goodIn_r _ [275, 199, 276, 277, 278, 2, 279, 20, 16, 204, 205, 280, 281, 282, 283, 210, 211, 85, 86, 87, 19, 88, 89, 90, 91, 92, 93, 94, 95, 96, 97, 98, 47, 99, 100, 101, 102, 103, 104, 105, 15, 106, 31, 35, 36, 107, 108, 109, 110, 111, 34, 112, 40, 41, 42, 113, 114, 115, 116, 251, 252, 253, 254, 255, 256, 257, 258, 259, 260, 261, 262, 263, 264, 774, 775, 776, 777, 778, 779, 797, 798, 799, 800, 801, 810, 811, 812, 813, 814, 815, 816, 802, 803, 804] rfl (by decide +kernel)) (goodIn_sub (fun _ h => List.mem_append_right _ h) (by decide +kernel))
set_option maxRecDepth 20000 in
theorem gL_law_L_finish : GoodIn wsL_law (va_wsS RL 115 yL_finish wsL_finish) := goodIn_app (goodIn_of _ (by decide +kernel)) ggL_law_L_finish
set_option maxRecDepth 20000 in
theorem ggL_law_X6_finish : GoodIn wsL_law wsX6_finish := goodIn_r _ [287, 72, 65, 136, 137, 138, 5, 139, 140, 141, 142, 143, 144, 67, 269, 270, 271, 272, 780, 781, 782, 783, 784, 785, 786, 787, 788, 789, 790, 791, 792, 793, 794, 795, 796] rfl (by decide +kernel)
set_option maxRecDepth 20000 in
theorem gL_law_X6_finish : GoodIn wsL_law (wsV RL 117 RX6 yX6_finish wsX6_finish) := goodIn_app (goodIn_of _ (by decide +kernel)) ggL_law_X6_finish
set_option maxRecDepth 20000 in
theorem ggL_law_L_store : GoodIn wsL_law wsL_store := goodIn_ca (goodIn_ca (goodIn_r _ [290, 160, 199, 291, 292, 293, 2, 294, 210, 211, 16, 204, 205, 20, 165, 166, 167, 168, 169, 170, 171, 172, 85, 86, 87, 19, 88, 89, 90, 91, 92, 93, 94, 95, 96, 97, 98, 47, 99, 100, 101, 102, 103, 104, 105, 15, 106, 31, 35, 36, 107, 108, 109, 110, 111, 34, 112, 40, 41, 42, 113, 114, 115, 116, 295, 296, 297, 298, 181, 182, 183, 184, 121, 122, 123, 124, 774, 775, 776, 777, 778, 779, 797, 798, 799, 800, 801, 810, 811, 812, 813, 814, 815, 816, 802, 803, 804] rfl (by decide +kernel)) (goodIn_sub (fun _ h => List.mem_append_right _ h) (by decide +kernel))) (goodIn_sub (fun _ h => List.mem_append_left _ (List.mem_append_right _ h)) (by decide +kernel))
set_option maxRecDepth 20000 in
theorem gL_law_L_store : GoodIn wsL_law (va_wsS RL 118 yL_store wsL_store) := goodIn_app (goodIn_of _ (by decide +kernel)) ggL_law_L_store
set_option maxRecDepth 20000 in
theorem ggL_law_X6_store : GoodIn wsL_law wsX6_store := goodIn_r _ [302, 72, 65, 189, 190, 5, 191, 133, 134, 135, 136, 137, 138, 139, 140, 141, 142, 143, 144, 67, 303, 304, 305, 306, 307, 308, 309, 310, 192, 193, 194, 195, 149, 150, 151, 152, 145, 146, 147, 148, 780, 781, 782, 783, 784, 785, 786, 787, 788, 789, 790, 791, 792, 793, 794, 795, 796] rfl (by decide +kernel)
set_option maxRecDepth 20000 in
theorem gL_law_X6_store : GoodIn wsL_law (wsV RL 120 RX6 yX6_store wsX6_store) := goodIn_app (goodIn_of _ (by decide +kernel)) ggL_law_X6_store
set_option maxRecDepth 20000 in
theorem ggL_law_L_type : GoodIn wsL_law wsL_type := goodIn_ca (goodIn_r _ [313, 199, 314, 315, 316, 2, 317, 210, 211, 25, 318, 319, 320, 321, 24, 322, 323, 324, 325, 326, 327, 52, 328, 774, 775, 776, 777, 778, 779, 805, 806, 807, 808, 809] rfl (by decide +kernel)) (goodIn_sub (fun _ h => List.mem_append_right _ h) (by decide +kernel))
set_option maxRecDepth 20000 in
theorem gL_law_L_type : GoodIn wsL_law (va_wsS RL 121 yL_type wsL_type) := goodIn_app (goodIn_of _ (by decide +kernel)) ggL_law_L_type
set_option maxRecDepth 20000 in
theorem ggL_law_X6_type : GoodIn wsL_law wsX6_type := goodIn_r _ [332, 72, 333, 69, 136, 137, 138, 5, 139, 780, 781, 782, 783, 784, 785, 786, 787, 788, 789, 790, 791, 792, 793, 794, 795, 796] rfl (by decide +kernel)
set_option maxRecDepth 20000 in
theorem gL_law_X6_type : GoodIn wsL_law (wsV RL 124 RX6 yX6_type wsX6_type) := goodIn_app (goodIn_of _ (by decide +kernel)) ggL_law_X6_type
set_option maxRecDepth 20000 in
theorem ggL_law_X5_clearProgram : GoodIn wsL_law wsX5_clearProgram := goodIn_r _ [337, 25, 318, 774, 775, 776, 777, 778, 779, 805, 806, 807, 808, 809] rfl (by decide +kernel)
set_option maxRecDepth 20000 in
theorem gL_law_X5_clearProgram : GoodIn wsL_law (wsV RL 125 RX5 yX5_clearProgram wsX5_clearProgram) := goodIn_app (goodIn_of _ (by decide +kernel)) ggL_law_X5_clearProgram
set_option maxRecDepth 20000 in
theorem ggL_law_X6_clearProgram : GoodIn wsL_law wsX6_clearProgram := goodIn_r _ [341, 72, 333, 780, 781, 782, 783, 784, 785, 786, 787, 788, 789, 790, 791, 792, 793, 794, 795, 796] rfl (by decide +kernel)
set_option maxRecDepth 20000 in
theorem gL_law_X6_clearProgram : GoodIn wsL_law (wsV RL 128 RX6 yX6_clearProgram wsX6_clearProgram) := goodIn_app (goodIn_of _ (by decide +kernel)) ggL_law_X6_clearProgram
set_option maxRecDepth 20000 in
theorem ggL_law_X5_programError : GoodIn wsL_law wsX5_programError := goodIn_r _ [345, 25, 346, 347, 348, 24, 349, 56, 323, 52, 350, 351, 352, 55, 353, 354, 355, 356, 357, 358, 359, 360, 361, 362, 363, 364, 365, 366, 367, 368, 369, 370, 371, 372, 373, 374, 375, 376, 377, 378, 379, 380, 381, 382, 383, 384, 385, 386, 387, 388, 389, 390, 391, 392, 393, 394, 395, 396, 397, 398, 399, 400, 401, 402, 403, 404, 405, 406, 407, 408, 409, 410, 411, 774, 775, 776, 777, 778, 779, 805, 806, 807, 808, 809, 817, 818, 819, 820, 821, 822, 823] rfl (by decide +kernel)
set_option maxRecDepth 20000 in
theorem gL_law_X5_programError : GoodIn wsL_law (wsV RL 129 RX5 yX5_programError wsX5_programError) := goodIn_app (goodIn_of _ (by decide +kernel)) ggL_law_X5_programError

set_option maxRecDepth 20000 in
theorem ggL_law_X6_step : GoodIn wsL_law wsX6_step := goodIn_r _ [260, 72, 65, 128, 129, 130, 5, 131, 132, 133, 134, 135, 136, 67, 261, 262, 263, 264, 772, 773, 774, 775, 776, 777, 778, 779, 780, 781, 782, 783, 784, 785, 786, 787, 788] rfl (by decide +kernel)
set_option maxRecDepth 20000 in
theorem gL_law_X6_step : GoodIn wsL_law (wsV RL 114 RX6 yX6_step wsX6_step) := goodIn_app (goodIn_of _ (by decide +kernel)) ggL_law_X6_step
set_option maxRecDepth 20000 in
theorem ggL_law_L_finish : GoodIn wsL_law wsL_finish := goodIn_ca (goodIn_r _ [267, 191, 268, 269, 270, 2, 271, 20, 16, 196, 197, 272, 273, 274, 275, 202, 203, 85, 86, 87, 19, 88, 47, 89, 90, 91, 92, 93, 94, 95, 96, 97, 15, 98, 31, 35, 36, 99, 100, 101, 102, 103, 34, 104, 40, 41, 42, 105, 106, 107, 108, 243, 244, 245, 246, 247, 248, 249, 250, 251, 252, 253, 254, 255, 256, 766, 767, 768, 769, 770, 771, 789, 790, 791, 792, 793, 802, 803, 804, 805, 806, 807, 808, 794, 795, 796] rfl (by decide +kernel)) (goodIn_sub (fun _ h => List.mem_append_right _ h) (by decide +kernel))
set_option maxRecDepth 20000 in
theorem gL_law_L_finish : GoodIn wsL_law (va_wsS RL 115 yL_finish wsL_finish) := goodIn_app (goodIn_of _ (by decide +kernel)) ggL_law_L_finish
set_option maxRecDepth 20000 in
theorem ggL_law_X6_finish : GoodIn wsL_law wsX6_finish := goodIn_r _ [279, 72, 65, 128, 129, 130, 5, 131, 132, 133, 134, 135, 136, 67, 261, 262, 263, 264, 772, 773, 774, 775, 776, 777, 778, 779, 780, 781, 782, 783, 784, 785, 786, 787, 788] rfl (by decide +kernel)
set_option maxRecDepth 20000 in
theorem gL_law_X6_finish : GoodIn wsL_law (wsV RL 117 RX6 yX6_finish wsX6_finish) := goodIn_app (goodIn_of _ (by decide +kernel)) ggL_law_X6_finish
set_option maxRecDepth 20000 in
theorem ggL_law_L_store : GoodIn wsL_law wsL_store := goodIn_ca (goodIn_ca (goodIn_r _ [282, 152, 191, 283, 284, 285, 2, 286, 202, 203, 16, 196, 197, 20, 157, 158, 159, 160, 161, 162, 163, 164, 85, 86, 87, 19, 88, 47, 89, 90, 91, 92, 93, 94, 95, 96, 97, 15, 98, 31, 35, 36, 99, 100, 101, 102, 103, 34, 104, 40, 41, 42, 105, 106, 107, 108, 287, 288, 289, 290, 173, 174, 175, 176, 113, 114, 115, 116, 766, 767, 768, 769, 770, 771, 789, 790, 791, 792, 793, 802, 803, 804, 805, 806, 807, 808, 794, 795, 796] rfl (by decide +kernel)) (goodIn_sub (fun _ h => List.mem_append_right _ h) (by decide +kernel))) (goodIn_sub (fun _ h => List.mem_append_left _ (List.mem_append_right _ h)) (by decide +kernel))
set_option maxRecDepth 20000 in
theorem gL_law_L_store : GoodIn wsL_law (va_wsS RL 118 yL_store wsL_store) := goodIn_app (goodIn_of _ (by decide +kernel)) ggL_law_L_store
set_option maxRecDepth 20000 in
theorem ggL_law_X6_store : GoodIn wsL_law wsX6_store := goodIn_r _ [294, 72, 65, 181, 182, 5, 183, 125, 126, 127, 128, 129, 130, 131, 132, 133, 134, 135, 136, 67, 295, 296, 297, 298, 299, 300, 301, 302, 184, 185, 186, 187, 141, 142, 143, 144, 137, 138, 139, 140, 772, 773, 774, 775, 776, 777, 778, 779, 780, 781, 782, 783, 784, 785, 786, 787, 788] rfl (by decide +kernel)
set_option maxRecDepth 20000 in
theorem gL_law_X6_store : GoodIn wsL_law (wsV RL 120 RX6 yX6_store wsX6_store) := goodIn_app (goodIn_of _ (by decide +kernel)) ggL_law_X6_store
set_option maxRecDepth 20000 in
theorem ggL_law_L_type : GoodIn wsL_law wsL_type := goodIn_ca (goodIn_r _ [305, 191, 306, 307, 308, 2, 309, 202, 203, 25, 310, 311, 312, 313, 24, 314, 315, 316, 317, 318, 319, 52, 320, 766, 767, 768, 769, 770, 771, 797, 798, 799, 800, 801] rfl (by decide +kernel)) (goodIn_sub (fun _ h => List.mem_append_right _ h) (by decide +kernel))
set_option maxRecDepth 20000 in
theorem gL_law_L_type : GoodIn wsL_law (va_wsS RL 121 yL_type wsL_type) := goodIn_app (goodIn_of _ (by decide +kernel)) ggL_law_L_type
set_option maxRecDepth 20000 in
theorem ggL_law_X6_type : GoodIn wsL_law wsX6_type := goodIn_r _ [324, 72, 325, 69, 128, 129, 130, 5, 131, 772, 773, 774, 775, 776, 777, 778, 779, 780, 781, 782, 783, 784, 785, 786, 787, 788] rfl (by decide +kernel)
set_option maxRecDepth 20000 in
theorem gL_law_X6_type : GoodIn wsL_law (wsV RL 124 RX6 yX6_type wsX6_type) := goodIn_app (goodIn_of _ (by decide +kernel)) ggL_law_X6_type
set_option maxRecDepth 20000 in
theorem ggL_law_X5_clearProgram : GoodIn wsL_law wsX5_clearProgram := goodIn_r _ [329, 25, 310, 766, 767, 768, 769, 770, 771, 797, 798, 799, 800, 801] rfl (by decide +kernel)
set_option maxRecDepth 20000 in
theorem gL_law_X5_clearProgram : GoodIn wsL_law (wsV RL 125 RX5 yX5_clearProgram wsX5_clearProgram) := goodIn_app (goodIn_of _ (by decide +kernel)) ggL_law_X5_clearProgram
set_option maxRecDepth 20000 in
theorem ggL_law_X6_clearProgram : GoodIn wsL_law wsX6_clearProgram := goodIn_r _ [333, 72, 325, 772, 773, 774, 775, 776, 777, 778, 779, 780, 781, 782, 783, 784, 785, 786, 787, 788] rfl (by decide +kernel)
set_option maxRecDepth 20000 in
theorem gL_law_X6_clearProgram : GoodIn wsL_law (wsV RL 128 RX6 yX6_clearProgram wsX6_clearProgram) := goodIn_app (goodIn_of _ (by decide +kernel)) ggL_law_X6_clearProgram
set_option maxRecDepth 20000 in
theorem ggL_law_X5_programError : GoodIn wsL_law wsX5_programError := goodIn_r _ [337, 25, 338, 339, 340, 24, 341, 56, 315, 52, 342, 343, 344, 55, 345, 346, 347, 348, 349, 350, 351, 352, 353, 354, 355, 356, 357, 358, 359, 360, 361, 362, 363, 364, 365, 366, 367, 368, 369, 370, 371, 372, 373, 374, 375, 376, 377, 378, 379, 380, 381, 382, 383, 384, 385, 386, 387, 388, 389, 390, 391, 392, 393, 394, 395, 396, 397, 398, 399, 400, 401, 402, 403, 766, 767, 768, 769, 770, 771, 797, 798, 799, 800, 801, 809, 810, 811, 812, 813, 814, 815] rfl (by decide +kernel)
set_option maxRecDepth 20000 in
theorem gL_law_X5_programError : GoodIn wsL_law (wsV RL 129 RX5 yX5_programError wsX5_programError) := goodIn_app (goodIn_of _ (by decide +kernel)) ggL_law_X5_programError

set_option maxRecDepth 20000 in
theorem ggL_law_X6_programError : GoodIn wsL_law wsX6_programError := goodIn_r _ [407, 72, 408, 409, 410, 5, 411, 412, 413, 414, 325, 415, 416, 417, 418, 70, 419, 420, 421, 422, 423, 424, 425, 426, 69, 125, 126, 127, 427, 428, 429, 430, 431, 772, 773, 774, 775, 776, 777, 778, 779, 780, 781, 782, 783, 784, 785, 786, 787, 788] rfl (by decide +kernel)
set_option maxRecDepth 20000 in
theorem gL_law_X6_programError : GoodIn wsL_law (wsV RL 132 RX6 yX6_programError wsX6_programError) := goodIn_app (goodIn_of _ (by decide +kernel)) ggL_law_X6_programError
set_option maxRecDepth 20000 in
theorem ggL_law_L_firstOverflow : GoodIn wsL_law wsL_firstOverflow := goodIn_ca (goodIn_r _ [434, 191, 435, 436, 437, 2, 438, 26, 16, 25, 439, 440, 441, 442, 443, 202, 203, 338, 339, 340, 24, 341, 56, 315, 52, 342, 343, 344, 55, 345, 346, 347, 348, 349, 350, 351, 352, 353, 354, 355, 356, 357, 358, 359, 360, 361, 362, 363, 364, 365, 366, 367, 368, 369, 370, 371, 372, 373, 374, 375, 376, 377, 378, 379, 380, 381, 382, 383, 384, 385, 386, 387, 388, 389, 390, 391, 392, 393, 394, 395, 396, 397, 398, 399, 400, 401, 402, 403, 444, 96, 97, 15, 98, 31, 35, 36, 99, 100, 101, 102, 103, 34, 104, 40, 41, 42, 105, 106, 107, 108, 445, 446, 447, 448, 57, 449, 450, 451, 452, 453, 454, 455, 456, 457, 458, 459, 460, 170, 171, 172, 163, 164, 461, 174, 175, 176, 113, 114, 115, 116, 766, 767, 768, 769, 770, 771, 797, 798, 799, 800, 801, 809, 810, 811, 812, 813, 814, 815, 789, 790, 791, 792, 793, 802, 803, 804, 805, 806, 807, 808] rfl (by decide +kernel)) (goodIn_sub (fun _ h => List.mem_append_right _ h) (by decide +kernel))
set_option maxRecDepth 20000 in
theorem gL_law_L_firstOverflow : GoodIn wsL_law (va_wsS RL 133 yL_firstOverflow wsL_firstOverflow) := goodIn_app (goodIn_of _ (by decide +kernel)) ggL_law_L_firstOverflow
set_option maxRecDepth 20000 in
theorem ggL_law_X6_firstOverflow : GoodIn wsL_law wsX6_firstOverflow := goodIn_r _ [465, 72, 466, 408, 409, 410, 5, 411, 412, 413, 414, 325, 415, 416, 417, 418, 70, 419, 420, 421, 422, 423, 424, 425, 426, 69, 125, 126, 127, 427, 428, 429, 430, 431, 128, 129, 130, 131, 467, 468, 469, 470, 66, 65, 471, 472, 473, 474, 475, 476, 477, 478, 479, 137, 138, 139, 140, 184, 185, 186, 187, 299, 300, 301, 302, 141, 142, 143, 144, 480, 481, 482, 483, 772, 773, 774, 775, 776, 777, 778, 779, 780, 781, 782, 783, 784, 785, 786, 787, 788] rfl (by decide +kernel)
set_option maxRecDepth 20000 in
theorem gL_law_X6_firstOverflow : GoodIn wsL_law (wsV RL 135 RX6 yX6_firstOverflow wsX6_firstOverflow) := goodIn_app (goodIn_of _ (by decide +kernel)) ggL_law_X6_firstOverflow
set_option maxRecDepth 20000 in
theorem ggL_law_L_carryOut : GoodIn wsL_law wsL_carryOut := goodIn_ca (goodIn_r _ [486, 191, 487, 488, 489, 2, 490, 20, 16, 25, 491, 440, 441, 442, 443, 202, 203, 338, 339, 340, 24, 341, 56, 315, 52, 342, 343, 344, 55, 345, 346, 347, 348, 349, 350, 351, 352, 353, 354, 355, 356, 357, 358, 359, 360, 361, 362, 363, 364, 365, 366, 367, 368, 369, 370, 371, 372, 373, 374, 375, 376, 377, 378, 379, 380, 381, 382, 383, 384, 385, 386, 387, 388, 389, 390, 391, 392, 393, 394, 395, 396, 397, 398, 399, 400, 401, 402, 403, 85, 86, 87, 19, 88, 47, 89, 90, 91, 92, 93, 94, 95, 96, 97, 15, 98, 31, 35, 36, 99, 100, 101, 102, 103, 34, 104, 40, 41, 42, 105, 106, 107, 108, 445, 446, 447, 448, 57, 449, 450, 451, 452, 453, 454, 455, 456, 457, 458, 459, 460, 170, 171, 172, 163, 164, 461, 174, 175, 176, 113, 114, 115, 116, 766, 767, 768, 769, 770, 771, 797, 798, 799, 800, 801, 809, 810, 811, 812, 813, 814, 815, 794, 795, 796, 789, 790, 791, 792, 793, 802, 803, 804, 805, 806, 807, 808] rfl (by decide +kernel)) (goodIn_sub (fun _ h => List.mem_append_right _ h) (by decide +kernel))
set_option maxRecDepth 20000 in
theorem gL_law_L_carryOut : GoodIn wsL_law (va_wsS RL 136 yL_carryOut wsL_carryOut) := goodIn_app (goodIn_of _ (by decide +kernel)) ggL_law_L_carryOut
set_option maxRecDepth 20000 in
theorem ggL_law_X6_carryOut : GoodIn wsL_law wsX6_carryOut := goodIn_r _ [495, 72, 475, 408, 409, 410, 5, 411, 412, 413, 414, 325, 415, 416, 417, 418, 70, 419, 420, 421, 422, 423, 424, 425, 426, 69, 125, 126, 127, 427, 428, 429, 430, 431, 128, 129, 130, 131, 132, 133, 134, 135, 136, 67, 65, 471, 472, 473, 474, 466, 476, 477, 478, 479, 137, 138, 139, 140, 184, 185, 186, 187, 299, 300, 301, 302, 141, 142, 143, 144, 772, 773, 774, 775, 776, 777, 778, 779, 780, 781, 782, 783, 784, 785, 786, 787, 788] rfl (by decide +kernel)
set_option maxRecDepth 20000 in
theorem gL_law_X6_carryOut : GoodIn wsL_law (wsV RL 138 RX6 yX6_carryOut wsX6_carryOut) := goodIn_app (goodIn_of _ (by decide +kernel)) ggL_law_X6_carryOut
set_option maxRecDepth 20000 in
theorem ggL_law_L_undo : GoodIn wsL_law wsL_undo := goodIn_ca (goodIn_r _ [498, 191, 499, 500, 501, 2, 502, 202, 203, 20, 503, 16, 504, 505, 506, 19, 507, 89, 47, 90, 95, 96, 97, 15, 98, 31, 35, 36, 99, 100, 101, 102, 103, 34, 104, 40, 41, 42, 105, 106, 107, 108, 766, 767, 768, 769, 770, 771, 794, 795, 796, 789, 790, 791, 792, 793, 802, 803, 804, 805, 806, 807, 808] rfl (by decide +kernel)) (goodIn_sub (fun _ h => List.mem_append_right _ h) (by decide +kernel))
set_option maxRecDepth 20000 in
theorem gL_law_L_undo : GoodIn wsL_law (va_wsS RL 139 yL_undo wsL_undo) := goodIn_app (goodIn_of _ (by decide +kernel)) ggL_law_L_undo
set_option maxRecDepth 20000 in
theorem ggL_law_X6_undo : GoodIn wsL_law wsX6_undo := goodIn_r _ [511, 72, 136, 65, 67, 128, 129, 130, 5, 131, 772, 773, 774, 775, 776, 777, 778, 779, 780, 781, 782, 783, 784, 785, 786, 787, 788] rfl (by decide +kernel)
set_option maxRecDepth 20000 in
theorem gL_law_X6_undo : GoodIn wsL_law (wsV RL 141 RX6 yX6_undo wsX6_undo) := goodIn_app (goodIn_of _ (by decide +kernel)) ggL_law_X6_undo
set_option maxRecDepth 20000 in
theorem ggL_law_X5_takeSnapshot : GoodIn wsL_law wsX5_takeSnapshot := goodIn_r _ [515, 21, 16, 516, 84, 444, 96, 97, 15, 98, 31, 35, 36, 99, 100, 101, 102, 103, 34, 104, 40, 41, 42, 105, 106, 107, 108, 766, 767, 768, 769, 770, 771, 789, 790, 791, 792, 793, 802, 803, 804, 805, 806, 807, 808] rfl (by decide +kernel)
set_option maxRecDepth 20000 in
theorem gL_law_X5_takeSnapshot : GoodIn wsL_law (wsV RL 142 RX5 yX5_takeSnapshot wsX5_takeSnapshot) := goodIn_app (goodIn_of _ (by decide +kernel)) ggL_law_X5_takeSnapshot
set_option maxRecDepth 20000 in
theorem ggL_law_X6_takeSnapshot : GoodIn wsL_law wsX6_takeSnapshot := goodIn_r _ [520, 72, 68, 65, 521, 772, 773, 774, 775, 776, 777, 778, 779, 780, 781, 782, 783, 784, 785, 786, 787, 788] rfl (by decide +kernel)
set_option maxRecDepth 20000 in
theorem gL_law_X6_takeSnapshot : GoodIn wsL_law (wsV RL 145 RX6 yX6_takeSnapshot wsX6_takeSnapshot) := goodIn_app (goodIn_of _ (by decide +kernel)) ggL_law_X6_takeSnapshot
set_option maxRecDepth 20000 in
theorem ggL_law_L_restoreSnapshot : GoodIn wsL_law wsL_restoreSnapshot := goodIn_ca (goodIn_r _ [524, 191, 525, 526, 527, 2, 528, 202, 203, 516, 20, 16, 21, 84, 85, 86, 87, 19, 88, 47, 89, 90, 91, 92, 93, 94, 95, 96, 97, 15, 98, 31, 35, 36, 99, 100, 101, 102, 103, 34, 104, 40, 41, 42, 105, 106, 107, 108, 444, 766, 767, 768, 769, 770, 771, 789, 790, 791, 792, 793, 794, 795, 796, 802, 803, 804, 805, 806, 807, 808] rfl (by decide +kernel)) (goodIn_sub (fun _ h => List.mem_append_right _ h) (by decide +kernel))
set_option maxRecDepth 20000 in
theorem gL_law_L_restoreSnapshot : GoodIn wsL_law (va_wsS RL 146 yL_restoreSnapshot wsL_restoreSnapshot) := goodIn_app (goodIn_of _ (by decide +kernel)) ggL_law_L_restoreSnapshot

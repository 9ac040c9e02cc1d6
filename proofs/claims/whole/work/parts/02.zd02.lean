set_option maxRecDepth 20000 in
theorem ggL_law_X6_programError : GoodIn wsL_law wsX6_programError := goodIn_r _ [415, 72, 416, 417, 418, 5, 419, 420, 421, 422, 333, 423, 424, 425, 426, 70, 427, 428, 429, 430, 431, 432, 433, 434, 69, 133, 134, 135, 435, 436, 437, 438, 439, 780, 781, 782, 783, 784, 785, 786, 787, 788, 789, 790, 791, 792, 793, 794, 795, 796] rfl (by decide +kernel)
set_option maxRecDepth 20000 in
theorem gL_law_X6_programError : GoodIn wsL_law (wsV RL 132 RX6 yX6_programError wsX6_programError) := goodIn_app (goodIn_of _ (by decide +kernel)) ggL_law_X6_programError
set_option maxRecDepth 20000 in
theorem ggL_law_L_firstOverflow : GoodIn wsL_law wsL_firstOverflow := goodIn_ca (goodIn_r _ [442, 199, 443, 444, 445, 2, 446, 26, 16, 25, 447, 448, 449, 450, 451, 210, 211, 346, 347, 348, 24, 349, 56, 323, 52, 350, 351, 352, 55, 353, 354, 355, 356, 357, 358, 359, 360, 361, 362, 363, 364, 365, 366, 367, 368, 369, 370, 371, 372, 373, 374, 375, 376, 377, 378, 379, 380, 381, 382, 383, 384, 385, 386, 387, 388, 389, 390, 391, 392, 393, 394, 395, 396, 397, 398, 399, 400, 401, 402, 403, 404, 405, 406, 407, 408, 409, 410, 411, 452, 104, 105, 15, 106, 31, 35, 36, 107, 108, 109, 110, 111, 34, 112, 40, 41, 42, 113, 114, 115, 116, 453, 454, 455, 456, 57, 457, 458, 459, 460, 461, 462, 463, 464, 465, 466, 467, 468, 178, 179, 180, 171, 172, 469, 182, 183, 184, 121, 122, 123, 124, 774, 775, 776, 777, 778, 779, 805, 806, 807, 808, 809, 817, 818, 819, 820, 821, 822, 823, 797, 798, 799, 800, 801, 810, 811, 812, 813, 814, 815, 816] rfl (by decide +kernel)) (goodIn_sub (fun _ h => List.mem_append_right _ h) (by decide +kernel))
set_option maxRecDepth 20000 in
theorem gL_law_L_firstOverflow : GoodIn wsL_law (va_wsS RL 133 yL_firstOverflow wsL_firstOverflow) := goodIn_app (goodIn_of _ (by decide +kernel)) ggL_law_L_firstOverflow
set_option maxRecDepth 20000 in
theorem ggL_law_X6_firstOverflow : GoodIn wsL_law wsX6_firstOverflow := goodIn_r _ [473, 72, 474, 416, 417, 418, 5, 419, 420, 421, 422, 333, 423, 424, 425, 426, 70, 427, 428, 429, 430, 431, 432, 433, 434, 69, 133, 134, 135, 435, 436, 437, 438, 439, 136, 137, 138, 139, 475, 476, 477, 478, 66, 65, 479, 480, 481, 482, 483, 484, 485, 486, 487, 145, 146, 147, 148, 192, 193, 194, 195, 307, 308, 309, 310, 149, 150, 151, 152, 488, 489, 490, 491, 780, 781, 782, 783, 784, 785, 786, 787, 788, 789, 790, 791, 792, 793, 794, 795, 796] rfl (by decide +kernel)
set_option maxRecDepth 20000 in
theorem gL_law_X6_firstOverflow : GoodIn wsL_law (wsV RL 135 RX6 yX6_firstOverflow wsX6_firstOverflow) := goodIn_app (goodIn_of _ (by decide +kernel)) ggL_law_X6_firstOverflow
set_option maxRecDepth 20000 in
theorem ggL_law_L_carryOut : GoodIn wsL_law wsL_carryOut := goodIn_ca (goodIn_r _ [494, 199, 495, 496, 497, 2, 498, 20, 16, 25, 499, 448, 449, 450, 451, 210, 211, 346, 347, 348, 24, 349, 56, 323, 52, 350, 351, 352, 55, 353, 354, 355, 356, 357, 358, 359, 360, 361, 362, 363, 364, 365, 366, 367, 368, 369, 370, 371, 372, 373, 374, 375, 376, 377, 378, 379, 380, 381, 382, 383, 384, 385, 386, 387, 388, 389, 390, 391, 392, 393, 394, 395, 396, 397, 398, 399, 400, 401, 402, 403, 404, 405, 406, 407, 408, 409, 410, 411, 85, 86, 87, 19, 88, 89, 90, 91, 92, 93, 94, 95, 96, 97, 98, 47, 99, 100, 101, 102, 103, 104, 105, 15, 106, 31, 35, 36, 107, 108, 109, 110, 111, 34, 112, 40, 41, 42, 113, 114, 115, 116, 453, 454, 455, 456, 57, 457, 458, 459, 460, 461, 462, 463, 464, 465, 466, 467, 468, 178, 179, 180, 171, 172, 469, 182, 183, 184, 121, 122, 123, 124, 774, 775, 776, 777, 778, 779, 805, 806, 807, 808, 809, 817, 818, 819, 820, 821, 822, 823, 802, 803, 804, 797, 798, 799, 800, 801, 810, 811, 812, 813, 814, 815, 816] rfl (by decide +kernel)) (goodIn_sub (fun _ h => List.mem_append_right _ h) (by decide +kernel))
set_option maxRecDepth 20000 in
theorem gL_law_L_carryOut : GoodIn wsL_law (va_wsS RL 136 yL_carryOut wsL_carryOut) := goodIn_app (goodIn_of _ (by decide +kernel)) ggL_law_L_carryOut
set_option maxRecDepth 20000 in
theorem ggL_law_X6_carryOut : GoodIn wsL_law wsX6_carryOut := goodIn_r _ [503, 72, 483, 416, 417, 418, 5, 419, 420, 421, 422, 333, 423, 424, 425, 426, 70, 427, 428, 429, 430, 431, 432, 433, 434, 69, 133, 134, 135, 435, 436, 437, 438, 439, 136, 137, 138, 139, 140, 141, 142, 143, 144, 67, 65, 479, 480, 481, 482, 474, 484, 485, 486, 487, 145, 146, 147, 148, 192, 193, 194, 195, 307, 308, 309, 310, 149, 150, 151, 152, 780, 781, 782, 783, 784, 785, 786, 787, 788, 789, 790, 791, 792, 793, 794, 795, 796] rfl (by decide +kernel)
set_option maxRecDepth 20000 in
theorem gL_law_X6_carryOut : GoodIn wsL_law (wsV RL 138 RX6 yX6_carryOut wsX6_carryOut) := goodIn_app (goodIn_of _ (by decide +kernel)) ggL_law_X6_carryOut
set_option maxRecDepth 20000 in
theorem ggL_law_L_undo : GoodIn wsL_law wsL_undo := goodIn_ca (goodIn_r _ [506, 199, 507, 508, 509, 2, 510, 210, 211, 20, 511, 16, 512, 513, 514, 19, 515, 89, 90, 95, 96, 97, 98, 47, 99, 100, 101, 102, 103, 104, 105, 15, 106, 31, 35, 36, 107, 108, 109, 110, 111, 34, 112, 40, 41, 42, 113, 114, 115, 116, 774, 775, 776, 777, 778, 779, 802, 803, 804, 797, 798, 799, 800, 801, 810, 811, 812, 813, 814, 815, 816] rfl (by decide +kernel)) (goodIn_sub (fun _ h => List.mem_append_right _ h) (by decide +kernel))
set_option maxRecDepth 20000 in
theorem gL_law_L_undo : GoodIn wsL_law (va_wsS RL 139 yL_undo wsL_undo) := goodIn_app (goodIn_of _ (by decide +kernel)) ggL_law_L_undo
set_option maxRecDepth 20000 in
theorem ggL_law_X6_undo : GoodIn wsL_law wsX6_undo := goodIn_r _ [519, 72, 144, 65, 67, 136, 137, 138, 5, 139, 780, 781, 782, 783, 784, 785, 786, 787, 788, 789, 790, 791, 792, 793, 794, 795, 796] rfl (by decide +kernel)
set_option maxRecDepth 20000 in
theorem gL_law_X6_undo : GoodIn wsL_law (wsV RL 141 RX6 yX6_undo wsX6_undo) := goodIn_app (goodIn_of _ (by decide +kernel)) ggL_law_X6_undo
set_option maxRecDepth 20000 in
theorem ggL_law_X5_takeSnapshot : GoodIn wsL_law wsX5_takeSnapshot := goodIn_r _ [523, 21, 16, 524, 84, 452, 104, 105, 15, 106, 31, 35, 36, 107, 108, 109, 110, 111, 34, 112, 40, 41, 42, 113, 114, 115, 116, 774, 775, 776, 777, 778, 779, 797, 798, 799, 800, 801, 810, 811, 812, 813, 814, 815, 816] rfl (by decide +kernel)
set_option maxRecDepth 20000 in
theorem gL_law_X5_takeSnapshot : GoodIn wsL_law (wsV RL 142 RX5 yX5_takeSnapshot wsX5_takeSnapshot) := goodIn_app (goodIn_of _ (by decide +kernel)) ggL_law_X5_takeSnapshot
set_option maxRecDepth 20000 in
theorem ggL_law_X6_takeSnapshot : GoodIn wsL_law wsX6_takeSnapshot := goodIn_r _ [528, 72, 68, 65, 529, 780, 781, 782, 783, 784, 785, 786, 787, 788, 789, 790, 791, 792, 793, 794, 795, 796] rfl (by decide +kernel)
set_option maxRecDepth 20000 in
theorem gL_law_X6_takeSnapshot : GoodIn wsL_law (wsV RL 145 RX6 yX6_takeSnapshot wsX6_takeSnapshot) := goodIn_app (goodIn_of _ (by decide +kernel)) ggL_law_X6_takeSnapshot
set_option maxRecDepth 20000 in
theorem ggL_law_L_restoreSnapshot : GoodIn wsL_law wsL_restoreSnapshot := goodIn_ca (goodIn_r _ [532, 199, 533, 534, 535, 2, 536, 210, 211, 524, 20, 16, 21, 84, 85, 86, 87, 19, 88, 89, 90, 91, 92, 93, 94, 95, 96, 97, 98, 47, 99, 100, 101, 102, 103, 104, 105, 15, 106, 31, 35, 36, 107, 108, 109, 110, 111, 34, 112, 40, 41, 42, 113, 114, 115, 116, 452, 774, 775, 776, 777, 778, 779, 797, 798, 799, 800, 801, 802, 803, 804, 810, 811, 812, 813, 814, 815, 816] rfl (by decide +kernel)) (goodIn_sub (fun _ h => List.mem_append_right _ h) (by decide +kernel))
set_option maxRecDepth 20000 in
theorem gL_law_L_restoreSnapshot : GoodIn wsL_law (va_wsS RL 146 yL_restoreSnapshot wsL_restoreSnapshot) := goodIn_app (goodIn_of _ (by decide +kernel)) ggL_law_L_restoreSnapshot

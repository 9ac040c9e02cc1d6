set_option maxRecDepth 20000 in
theorem ggL_law_X6_restoreSnapshot : GoodIn wsL_law wsX6_restoreSnapshot := goodIn_r _ [532, 72, 521, 65, 68, 128, 129, 130, 5, 131, 132, 133, 134, 135, 136, 67, 772, 773, 774, 775, 776, 777, 778, 779, 780, 781, 782, 783, 784, 785, 786, 787, 788] rfl (by decide +kernel)
set_option maxRecDepth 20000 in
theorem gL_law_X6_restoreSnapshot : GoodIn wsL_law (wsV RL 148 RX6 yX6_restoreSnapshot wsX6_restoreSnapshot) := goodIn_app (goodIn_of _ (by decide +kernel)) ggL_law_X6_restoreSnapshot
set_option maxRecDepth 20000 in
theorem ggL_law_X5_width : GoodIn wsL_law wsX5_width := goodIn_r _ [536, 16, 84, 766, 767, 768, 769, 770, 771, 789, 790, 791, 792, 793] rfl (by decide +kernel)
set_option maxRecDepth 20000 in
theorem gL_law_X5_width : GoodIn wsL_law (wsV RL 149 RX5 yX5_width wsX5_width) := goodIn_app (goodIn_of _ (by decide +kernel)) ggL_law_X5_width
set_option maxRecDepth 20000 in
theorem ggL_law_X6_width : GoodIn wsL_law wsX6_width := goodIn_r _ [540, 72, 65, 772, 773, 774, 775, 776, 777, 778, 779, 780, 781, 782, 783, 784, 785, 786, 787, 788] rfl (by decide +kernel)
set_option maxRecDepth 20000 in
theorem gL_law_X6_width : GoodIn wsL_law (wsV RL 152 RX6 yX6_width wsX6_width) := goodIn_app (goodIn_of _ (by decide +kernel)) ggL_law_X6_width
set_option maxRecDepth 20000 in
theorem ggL_law_L_valueOf : GoodIn wsL_law wsL_valueOf := goodIn_ca (goodIn_r _ [543, 152, 544, 545, 546, 2, 547, 16, 157, 158, 159, 160, 161, 162, 163, 164, 169, 170, 171, 15, 172, 31, 766, 767, 768, 769, 770, 771, 789, 790, 791, 792, 793] rfl (by decide +kernel)) (goodIn_sub (fun _ h => List.mem_append_left _ (List.mem_append_right _ h)) (by decide +kernel))
set_option maxRecDepth 20000 in
theorem gL_law_L_valueOf : GoodIn wsL_law (va_wsS RL 153 yL_valueOf wsL_valueOf) := goodIn_app (goodIn_of _ (by decide +kernel)) ggL_law_L_valueOf
set_option maxRecDepth 20000 in
theorem ggL_law_X6_valueOf : GoodIn wsL_law wsX6_valueOf := goodIn_r _ [551, 72, 181, 182, 5, 183, 125, 126, 127, 137, 138, 139, 140, 65, 128, 129, 130, 131, 772, 773, 774, 775, 776, 777, 778, 779, 780, 781, 782, 783, 784, 785, 786, 787, 788] rfl (by decide +kernel)
set_option maxRecDepth 20000 in
theorem gL_law_X6_valueOf : GoodIn wsL_law (wsV RL 155 RX6 yX6_valueOf wsX6_valueOf) := goodIn_app (goodIn_of _ (by decide +kernel)) ggL_law_X6_valueOf
set_option maxRecDepth 20000 in
theorem ggL_law_L_onesOf : GoodIn wsL_law wsL_onesOf := goodIn_ca (goodIn_r _ [554, 152, 555, 556, 557, 2, 558, 16, 157, 158, 159, 160, 161, 162, 163, 164, 204, 205, 206, 15, 207, 36, 208, 170, 171, 172, 31, 559, 560, 561, 562, 563, 564, 565, 766, 767, 768, 769, 770, 771, 789, 790, 791, 792, 793] rfl (by decide +kernel)) (goodIn_sub (fun _ h => List.mem_append_left _ (List.mem_append_right _ h)) (by decide +kernel))
set_option maxRecDepth 20000 in
theorem gL_law_L_onesOf : GoodIn wsL_law (va_wsS RL 156 yL_onesOf wsL_onesOf) := goodIn_app (goodIn_of _ (by decide +kernel)) ggL_law_L_onesOf
set_option maxRecDepth 20000 in
theorem ggL_law_X6_onesOf : GoodIn wsL_law wsX6_onesOf := goodIn_r _ [569, 72, 181, 182, 5, 183, 125, 126, 127, 137, 138, 139, 140, 65, 570, 571, 572, 573, 128, 129, 130, 131, 772, 773, 774, 775, 776, 777, 778, 779, 780, 781, 782, 783, 784, 785, 786, 787, 788] rfl (by decide +kernel)
set_option maxRecDepth 20000 in
theorem gL_law_X6_onesOf : GoodIn wsL_law (wsV RL 158 RX6 yX6_onesOf wsX6_onesOf) := goodIn_app (goodIn_of _ (by decide +kernel)) ggL_law_X6_onesOf
set_option maxRecDepth 20000 in
theorem ggL_law_L_digitAt : GoodIn wsL_law wsL_digitAt := goodIn_ca (goodIn_ca (goodIn_ca (goodIn_r _ [576, 152, 77, 191, 577, 578, 579, 2, 580, 160, 161, 16, 84, 157, 158, 159, 162, 163, 164, 581, 582, 583, 584, 213, 214, 585, 586, 587, 82, 83, 198, 199, 200, 201, 202, 203, 169, 170, 171, 15, 172, 31, 588, 589, 590, 591, 255, 256, 766, 767, 768, 769, 770, 771, 789, 790, 791, 792, 793] rfl (by decide +kernel)) (goodIn_sub (fun _ h => List.mem_append_left _ (List.mem_append_right _ h)) (by decide +kernel))) (goodIn_sub (fun _ h => List.mem_append_left _ (List.mem_append_left _ (List.mem_append_right _ h))) (by decide +kernel))) (goodIn_sub (fun _ h => List.mem_append_right _ h) (by decide +kernel))
set_option maxRecDepth 20000 in
theorem gL_law_L_digitAt : GoodIn wsL_law (va_wsS RL 159 yL_digitAt wsL_digitAt) := goodIn_app (goodIn_of _ (by decide +kernel)) ggL_law_L_digitAt
set_option maxRecDepth 20000 in
theorem ggL_law_X6_digitAt : GoodIn wsL_law wsX6_digitAt := goodIn_r _ [595, 72, 65, 71, 181, 182, 5, 183, 125, 126, 127, 596, 597, 598, 128, 129, 130, 131, 224, 225, 226, 227, 137, 138, 139, 140, 599, 600, 601, 602, 603, 604, 605, 606, 607, 608, 609, 610, 772, 773, 774, 775, 776, 777, 778, 779, 780, 781, 782, 783, 784, 785, 786, 787, 788] rfl (by decide +kernel)
set_option maxRecDepth 20000 in
theorem gL_law_X6_digitAt : GoodIn wsL_law (wsV RL 161 RX6 yX6_digitAt wsX6_digitAt) := goodIn_app (goodIn_of _ (by decide +kernel)) ggL_law_X6_digitAt
set_option maxRecDepth 20000 in
theorem ggL_law_L_rowsOf : GoodIn wsL_law wsL_rowsOf := goodIn_ca (goodIn_ca (goodIn_ca (goodIn_r _ [613, 152, 77, 191, 614, 615, 616, 2, 617, 16, 84, 157, 158, 159, 160, 161, 162, 163, 164, 585, 586, 587, 82, 83, 581, 582, 583, 198, 199, 200, 201, 202, 203, 584, 213, 214, 169, 170, 171, 15, 172, 31, 588, 589, 590, 591, 255, 256, 766, 767, 768, 769, 770, 771, 789, 790, 791, 792, 793] rfl (by decide +kernel)) (goodIn_sub (fun _ h => List.mem_append_left _ (List.mem_append_right _ h)) (by decide +kernel))) (goodIn_sub (fun _ h => List.mem_append_left _ (List.mem_append_left _ (List.mem_append_right _ h))) (by decide +kernel))) (goodIn_sub (fun _ h => List.mem_append_right _ h) (by decide +kernel))
set_option maxRecDepth 20000 in
theorem gL_law_L_rowsOf : GoodIn wsL_law (va_wsS RL 162 yL_rowsOf wsL_rowsOf) := goodIn_app (goodIn_of _ (by decide +kernel)) ggL_law_L_rowsOf

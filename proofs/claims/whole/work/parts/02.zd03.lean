set_option maxRecDepth 20000 in
theorem ggL_law_X6_restoreSnapshot : GoodIn wsL_law wsX6_restoreSnapshot := goodIn_r _ [540, 72, 529, 65, 68, 136, 137, 138, 5, 139, 140, 141, 142, 143, 144, 67, 780, 781, 782, 783, 784, 785, 786, 787, 788, 789, 790, 791, 792, 793, 794, 795, 796] rfl (by decide +kernel)
set_option maxRecDepth 20000 in
theorem gL_law_X6_restoreSnapshot : GoodIn wsL_law (wsV RL 148 RX6 yX6_restoreSnapshot wsX6_restoreSnapshot) := goodIn_app (goodIn_of _ (by decide +kernel)) ggL_law_X6_restoreSnapshot
set_option maxRecDepth 20000 in
theorem ggL_law_X5_width : GoodIn wsL_law wsX5_width := goodIn_r _ [544, 16, 84, 774, 775, 776, 777, 778, 779, 797, 798, 799, 800, 801] rfl (by decide +kernel)
set_option maxRecDepth 20000 in
theorem gL_law_X5_width : GoodIn wsL_law (wsV RL 149 RX5 yX5_width wsX5_width) := goodIn_app (goodIn_of _ (by decide +kernel)) ggL_law_X5_width
set_option maxRecDepth 20000 in
theorem ggL_law_X6_width : GoodIn wsL_law wsX6_width := goodIn_r _ [548, 72, 65, 780, 781, 782, 783, 784, 785, 786, 787, 788, 789, 790, 791, 792, 793, 794, 795, 796] rfl (by decide +kernel)
set_option maxRecDepth 20000 in
theorem gL_law_X6_width : GoodIn wsL_law (wsV RL 152 RX6 yX6_width wsX6_width) := goodIn_app (goodIn_of _ (by decide +kernel)) ggL_law_X6_width
set_option maxRecDepth 20000 in
theorem ggL_law_L_valueOf : GoodIn wsL_law wsL_valueOf := goodIn_ca (goodIn_r _ [551, 160, 552, 553, 554, 2, 555, 16, 165, 166, 167, 168, 169, 170, 171, 172, 177, 178, 179, 15, 180, 31, 774, 775, 776, 777, 778, 779, 797, 798, 799, 800, 801] rfl (by decide +kernel)) (goodIn_sub (fun _ h => List.mem_append_left _ (List.mem_append_right _ h)) (by decide +kernel))
set_option maxRecDepth 20000 in
theorem gL_law_L_valueOf : GoodIn wsL_law (va_wsS RL 153 yL_valueOf wsL_valueOf) := goodIn_app (goodIn_of _ (by decide +kernel)) ggL_law_L_valueOf
set_option maxRecDepth 20000 in
theorem ggL_law_X6_valueOf : GoodIn wsL_law wsX6_valueOf := goodIn_r _ [559, 72, 189, 190, 5, 191, 133, 134, 135, 145, 146, 147, 148, 65, 136, 137, 138, 139, 780, 781, 782, 783, 784, 785, 786, 787, 788, 789, 790, 791, 792, 793, 794, 795, 796] rfl (by decide +kernel)
set_option maxRecDepth 20000 in
theorem gL_law_X6_valueOf : GoodIn wsL_law (wsV RL 155 RX6 yX6_valueOf wsX6_valueOf) := goodIn_app (goodIn_of _ (by decide +kernel)) ggL_law_X6_valueOf
set_option maxRecDepth 20000 in
theorem ggL_law_L_onesOf : GoodIn wsL_law wsL_onesOf := goodIn_ca (goodIn_r _ [562, 160, 563, 564, 565, 2, 566, 16, 165, 166, 167, 168, 169, 170, 171, 172, 212, 213, 214, 15, 215, 36, 216, 178, 179, 180, 31, 567, 568, 569, 570, 571, 572, 573, 774, 775, 776, 777, 778, 779, 797, 798, 799, 800, 801] rfl (by decide +kernel)) (goodIn_sub (fun _ h => List.mem_append_left _ (List.mem_append_right _ h)) (by decide +kernel))
set_option maxRecDepth 20000 in
theorem gL_law_L_onesOf : GoodIn wsL_law (va_wsS RL 156 yL_onesOf wsL_onesOf) := goodIn_app (goodIn_of _ (by decide +kernel)) ggL_law_L_onesOf
set_option maxRecDepth 20000 in
theorem ggL_law_X6_onesOf : GoodIn wsL_law wsX6_onesOf := goodIn_r _ [577, 72, 189, 190, 5, 191, 133, 134, 135, 145, 146, 147, 148, 65, 578, 579, 580, 581, 136, 137, 138, 139, 780, 781, 782, 783, 784, 785, 786, 787, 788, 789, 790, 791, 792, 793, 794, 795, 796] rfl (by decide +kernel)
set_option maxRecDepth 20000 in
theorem gL_law_X6_onesOf : GoodIn wsL_law (wsV RL 158 RX6 yX6_onesOf wsX6_onesOf) := goodIn_app (goodIn_of _ (by decide +kernel)) ggL_law_X6_onesOf
set_option maxRecDepth 20000 in
theorem ggL_law_L_digitAt : GoodIn wsL_law wsL_digitAt := goodIn_ca (goodIn_ca (goodIn_ca (goodIn_r _ [584, 160, 77, 199, 585, 586, 587, 2, 588, 168, 169, 16, 84, 165, 166, 167, 170, 171, 172, 589, 590, 591, 592, 221, 222, 593, 594, 595, 82, 83, 206, 207, 208, 209, 210, 211, 177, 178, 179, 15, 180, 31, 596, 597, 598, 599, 263, 264, 774, 775, 776, 777, 778, 779, 797, 798, 799, 800, 801] rfl (by decide +kernel)) (goodIn_sub (fun _ h => List.mem_append_left _ (List.mem_append_right _ h)) (by decide +kernel))) (goodIn_sub (fun _ h => List.mem_append_left _ (List.mem_append_left _ (List.mem_append_right _ h))) (by decide +kernel))) (goodIn_sub (fun _ h => List.mem_append_right _ h) (by decide +kernel))
set_option maxRecDepth 20000 in
theorem gL_law_L_digitAt : GoodIn wsL_law (va_wsS RL 159 yL_digitAt wsL_digitAt) := goodIn_app (goodIn_of _ (by decide +kernel)) ggL_law_L_digitAt
set_option maxRecDepth 20000 in
theorem ggL_law_X6_digitAt : GoodIn wsL_law wsX6_digitAt := goodIn_r _ [603, 72, 65, 71, 189, 190, 5, 191, 133, 134, 135, 604, 605, 606, 136, 137, 138, 139, 232, 233, 234, 235, 145, 146, 147, 148, 607, 608, 609, 610, 611, 612, 613, 614, 615, 616, 617, 618, 780, 781, 782, 783, 784, 785, 786, 787, 788, 789, 790, 791, 792, 793, 794, 795, 796] rfl (by decide +kernel)
set_option maxRecDepth 20000 in
theorem gL_law_X6_digitAt : GoodIn wsL_law (wsV RL 161 RX6 yX6_digitAt wsX6_digitAt) := goodIn_app (goodIn_of _ (by decide +kernel)) ggL_law_X6_digitAt
set_option maxRecDepth 20000 in
theorem ggL_law_L_rowsOf : GoodIn wsL_law wsL_rowsOf := goodIn_ca (goodIn_ca (goodIn_ca (goodIn_r _ [621, 160, 77, 199, 622, 623, 624, 2, 625, 16, 84, 165, 166, 167, 168, 169, 170, 171, 172, 593, 594, 595, 82, 83, 589, 590, 591, 206, 207, 208, 209, 210, 211, 592, 221, 222, 177, 178, 179, 15, 180, 31, 596, 597, 598, 599, 263, 264, 774, 775, 776, 777, 778, 779, 797, 798, 799, 800, 801] rfl (by decide +kernel)) (goodIn_sub (fun _ h => List.mem_append_left _ (List.mem_append_right _ h)) (by decide +kernel))) (goodIn_sub (fun _ h => List.mem_append_left _ (List.mem_append_left _ (List.mem_append_right _ h))) (by decide +kernel))) (goodIn_sub (fun _ h => List.mem_append_right _ h) (by decide +kernel))
set_option maxRecDepth 20000 in
theorem gL_law_L_rowsOf : GoodIn wsL_law (va_wsS RL 162 yL_rowsOf wsL_rowsOf) := goodIn_app (goodIn_of _ (by decide +kernel)) ggL_law_L_rowsOf

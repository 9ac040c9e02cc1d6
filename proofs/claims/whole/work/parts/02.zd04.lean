set_option maxRecDepth 20000 in
theorem ggL_law_X6_rowsOf : GoodIn wsL_law wsX6_rowsOf := goodIn_r _ [629, 611, 71, 189, 190, 5, 191, 133, 134, 135, 630, 631, 632, 633, 72, 604, 605, 606, 232, 233, 234, 235, 65, 145, 146, 147, 148, 607, 608, 609, 610, 612, 613, 614, 615, 616, 617, 618, 780, 781, 782, 783, 784, 785, 786, 787, 788, 789, 790, 791, 792, 793, 794, 795, 796] rfl (by decide +kernel)
set_option maxRecDepth 20000 in
theorem gL_law_X6_rowsOf : GoodIn wsL_law (wsV RL 164 RX6 yX6_rowsOf wsX6_rowsOf) := goodIn_app (goodIn_of _ (by decide +kernel)) ggL_law_X6_rowsOf
set_option maxRecDepth 20000 in
theorem ggL_law_L_productByRows : GoodIn wsL_law wsL_productByRows := goodIn_ca (goodIn_ca (goodIn_ca (goodIn_r _ [636, 160, 77, 199, 637, 638, 639, 2, 640, 16, 84, 165, 166, 167, 168, 169, 170, 171, 172, 593, 594, 595, 82, 83, 589, 590, 591, 206, 207, 208, 209, 210, 211, 592, 221, 222, 177, 178, 179, 15, 180, 31, 596, 597, 598, 599, 263, 264, 641, 223, 224, 774, 775, 776, 777, 778, 779, 797, 798, 799, 800, 801] rfl (by decide +kernel)) (goodIn_sub (fun _ h => List.mem_append_left _ (List.mem_append_right _ h)) (by decide +kernel))) (goodIn_sub (fun _ h => List.mem_append_left _ (List.mem_append_left _ (List.mem_append_right _ h))) (by decide +kernel))) (goodIn_sub (fun _ h => List.mem_append_right _ h) (by decide +kernel))
set_option maxRecDepth 20000 in
theorem gL_law_L_productByRows : GoodIn wsL_law (va_wsS RL 165 yL_productByRows wsL_productByRows) := goodIn_app (goodIn_of _ (by decide +kernel)) ggL_law_L_productByRows
set_option maxRecDepth 20000 in
theorem ggL_law_X6_productByRows : GoodIn wsL_law wsX6_productByRows := goodIn_r _ [645, 611, 71, 229, 230, 5, 231, 189, 190, 191, 133, 134, 135, 630, 631, 632, 633, 72, 604, 605, 606, 232, 233, 234, 235, 65, 145, 146, 147, 148, 607, 608, 609, 610, 612, 613, 614, 615, 616, 617, 618, 780, 781, 782, 783, 784, 785, 786, 787, 788, 789, 790, 791, 792, 793, 794, 795, 796] rfl (by decide +kernel)
set_option maxRecDepth 20000 in
theorem gL_law_X6_productByRows : GoodIn wsL_law (wsV RL 167 RX6 yX6_productByRows wsX6_productByRows) := goodIn_app (goodIn_of _ (by decide +kernel)) ggL_law_X6_productByRows
set_option maxRecDepth 20000 in
theorem ggL_law_L_productByBits : GoodIn wsL_law wsL_productByBits := goodIn_ca (goodIn_r _ [648, 160, 649, 650, 651, 2, 652, 16, 84, 165, 166, 167, 168, 169, 170, 171, 172, 177, 178, 179, 15, 180, 31, 599, 263, 264, 774, 775, 776, 777, 778, 779, 797, 798, 799, 800, 801] rfl (by decide +kernel)) (goodIn_sub (fun _ h => List.mem_append_left _ (List.mem_append_right _ h)) (by decide +kernel))
set_option maxRecDepth 20000 in
theorem gL_law_L_productByBits : GoodIn wsL_law (va_wsS RL 168 yL_productByBits wsL_productByBits) := goodIn_app (goodIn_of _ (by decide +kernel)) ggL_law_L_productByBits
set_option maxRecDepth 20000 in
theorem ggL_law_X6_productByBits : GoodIn wsL_law wsX6_productByBits := goodIn_r _ [656, 72, 229, 230, 5, 231, 189, 190, 191, 133, 134, 135, 145, 146, 147, 148, 65, 136, 137, 138, 139, 780, 781, 782, 783, 784, 785, 786, 787, 788, 789, 790, 791, 792, 793, 794, 795, 796] rfl (by decide +kernel)
set_option maxRecDepth 20000 in
theorem gL_law_X6_productByBits : GoodIn wsL_law (wsV RL 170 RX6 yX6_productByBits wsX6_productByBits) := goodIn_app (goodIn_of _ (by decide +kernel)) ggL_law_X6_productByBits
set_option maxRecDepth 20000 in
theorem ggL_law_L_fits : GoodIn wsL_law wsL_fits := goodIn_ca (goodIn_r _ [659, 160, 660, 661, 662, 2, 663, 16, 165, 166, 167, 168, 169, 170, 171, 172, 177, 178, 179, 15, 180, 31, 173, 174, 175, 176, 121, 122, 123, 124, 36, 774, 775, 776, 777, 778, 779, 797, 798, 799, 800, 801] rfl (by decide +kernel)) (goodIn_sub (fun _ h => List.mem_append_left _ (List.mem_append_right _ h)) (by decide +kernel))
set_option maxRecDepth 20000 in
theorem gL_law_L_fits : GoodIn wsL_law (va_wsS RL 171 yL_fits wsL_fits) := goodIn_app (goodIn_of _ (by decide +kernel)) ggL_law_L_fits
set_option maxRecDepth 20000 in
theorem ggL_law_X6_fits : GoodIn wsL_law wsX6_fits := goodIn_r _ [667, 72, 229, 230, 5, 231, 189, 190, 191, 133, 134, 135, 145, 146, 147, 148, 65, 192, 193, 194, 195, 136, 137, 138, 139, 780, 781, 782, 783, 784, 785, 786, 787, 788, 789, 790, 791, 792, 793, 794, 795, 796] rfl (by decide +kernel)
set_option maxRecDepth 20000 in
theorem gL_law_X6_fits : GoodIn wsL_law (wsV RL 173 RX6 yX6_fits wsX6_fits) := goodIn_app (goodIn_of _ (by decide +kernel)) ggL_law_X6_fits
set_option maxRecDepth 20000 in
theorem ggL_law_X5_stepsLeft : GoodIn wsL_law wsX5_stepsLeft := goodIn_r _ [671, 16, 204, 205, 774, 775, 776, 777, 778, 779, 797, 798, 799, 800, 801, 810, 811, 812, 813, 814, 815, 816] rfl (by decide +kernel)
set_option maxRecDepth 20000 in
theorem gL_law_X5_stepsLeft : GoodIn wsL_law (wsV RL 174 RX5 yX5_stepsLeft wsX5_stepsLeft) := goodIn_app (goodIn_of _ (by decide +kernel)) ggL_law_X5_stepsLeft
set_option maxRecDepth 20000 in
theorem ggL_law_X6_stepsLeft : GoodIn wsL_law wsX6_stepsLeft := goodIn_r _ [675, 72, 65, 780, 781, 782, 783, 784, 785, 786, 787, 788, 789, 790, 791, 792, 793, 794, 795, 796] rfl (by decide +kernel)
set_option maxRecDepth 20000 in
theorem gL_law_X6_stepsLeft : GoodIn wsL_law (wsV RL 177 RX6 yX6_stepsLeft wsX6_stepsLeft) := goodIn_app (goodIn_of _ (by decide +kernel)) ggL_law_X6_stepsLeft
set_option maxRecDepth 20000 in
theorem ggL_law_L_highPart : GoodIn wsL_law wsL_highPart := goodIn_ca (goodIn_r _ [678, 199, 679, 680, 681, 2, 682, 16, 204, 683, 280, 281, 282, 283, 210, 211, 205, 774, 775, 776, 777, 778, 779, 797, 798, 799, 800, 801, 810, 811, 812, 813, 814, 815, 816] rfl (by decide +kernel)) (goodIn_sub (fun _ h => List.mem_append_right _ h) (by decide +kernel))
set_option maxRecDepth 20000 in
theorem gL_law_L_highPart : GoodIn wsL_law (va_wsS RL 178 yL_highPart wsL_highPart) := goodIn_app (goodIn_of _ (by decide +kernel)) ggL_law_L_highPart

set_option maxRecDepth 20000 in
theorem ggL_law_X6_rowsOf : GoodIn wsL_law wsX6_rowsOf := goodIn_r _ [621, 603, 71, 181, 182, 5, 183, 125, 126, 127, 622, 623, 624, 625, 72, 596, 597, 598, 224, 225, 226, 227, 65, 137, 138, 139, 140, 599, 600, 601, 602, 604, 605, 606, 607, 608, 609, 610, 772, 773, 774, 775, 776, 777, 778, 779, 780, 781, 782, 783, 784, 785, 786, 787, 788] rfl (by decide +kernel)
set_option maxRecDepth 20000 in
theorem gL_law_X6_rowsOf : GoodIn wsL_law (wsV RL 164 RX6 yX6_rowsOf wsX6_rowsOf) := goodIn_app (goodIn_of _ (by decide +kernel)) ggL_law_X6_rowsOf
set_option maxRecDepth 20000 in
theorem ggL_law_L_productByRows : GoodIn wsL_law wsL_productByRows := goodIn_ca (goodIn_ca (goodIn_ca (goodIn_r _ [628, 152, 77, 191, 629, 630, 631, 2, 632, 16, 84, 157, 158, 159, 160, 161, 162, 163, 164, 585, 586, 587, 82, 83, 581, 582, 583, 198, 199, 200, 201, 202, 203, 584, 213, 214, 169, 170, 171, 15, 172, 31, 588, 589, 590, 591, 255, 256, 633, 215, 216, 766, 767, 768, 769, 770, 771, 789, 790, 791, 792, 793] rfl (by decide +kernel)) (goodIn_sub (fun _ h => List.mem_append_left _ (List.mem_append_right _ h)) (by decide +kernel))) (goodIn_sub (fun _ h => List.mem_append_left _ (List.mem_append_left _ (List.mem_append_right _ h))) (by decide +kernel))) (goodIn_sub (fun _ h => List.mem_append_right _ h) (by decide +kernel))
set_option maxRecDepth 20000 in
theorem gL_law_L_productByRows : GoodIn wsL_law (va_wsS RL 165 yL_productByRows wsL_productByRows) := goodIn_app (goodIn_of _ (by decide +kernel)) ggL_law_L_productByRows
set_option maxRecDepth 20000 in
theorem ggL_law_X6_productByRows : GoodIn wsL_law wsX6_productByRows := goodIn_r _ [637, 603, 71, 221, 222, 5, 223, 181, 182, 183, 125, 126, 127, 622, 623, 624, 625, 72, 596, 597, 598, 224, 225, 226, 227, 65, 137, 138, 139, 140, 599, 600, 601, 602, 604, 605, 606, 607, 608, 609, 610, 772, 773, 774, 775, 776, 777, 778, 779, 780, 781, 782, 783, 784, 785, 786, 787, 788] rfl (by decide +kernel)
set_option maxRecDepth 20000 in
theorem gL_law_X6_productByRows : GoodIn wsL_law (wsV RL 167 RX6 yX6_productByRows wsX6_productByRows) := goodIn_app (goodIn_of _ (by decide +kernel)) ggL_law_X6_productByRows
set_option maxRecDepth 20000 in
theorem ggL_law_L_productByBits : GoodIn wsL_law wsL_productByBits := goodIn_ca (goodIn_r _ [640, 152, 641, 642, 643, 2, 644, 16, 84, 157, 158, 159, 160, 161, 162, 163, 164, 169, 170, 171, 15, 172, 31, 591, 255, 256, 766, 767, 768, 769, 770, 771, 789, 790, 791, 792, 793] rfl (by decide +kernel)) (goodIn_sub (fun _ h => List.mem_append_left _ (List.mem_append_right _ h)) (by decide +kernel))
set_option maxRecDepth 20000 in
theorem gL_law_L_productByBits : GoodIn wsL_law (va_wsS RL 168 yL_productByBits wsL_productByBits) := goodIn_app (goodIn_of _ (by decide +kernel)) ggL_law_L_productByBits
set_option maxRecDepth 20000 in
theorem ggL_law_X6_productByBits : GoodIn wsL_law wsX6_productByBits := goodIn_r _ [648, 72, 221, 222, 5, 223, 181, 182, 183, 125, 126, 127, 137, 138, 139, 140, 65, 128, 129, 130, 131, 772, 773, 774, 775, 776, 777, 778, 779, 780, 781, 782, 783, 784, 785, 786, 787, 788] rfl (by decide +kernel)
set_option maxRecDepth 20000 in
theorem gL_law_X6_productByBits : GoodIn wsL_law (wsV RL 170 RX6 yX6_productByBits wsX6_productByBits) := goodIn_app (goodIn_of _ (by decide +kernel)) ggL_law_X6_productByBits
set_option maxRecDepth 20000 in
theorem ggL_law_L_fits : GoodIn wsL_law wsL_fits := goodIn_ca (goodIn_r _ [651, 152, 652, 653, 654, 2, 655, 16, 157, 158, 159, 160, 161, 162, 163, 164, 169, 170, 171, 15, 172, 31, 165, 166, 167, 168, 113, 114, 115, 116, 36, 766, 767, 768, 769, 770, 771, 789, 790, 791, 792, 793] rfl (by decide +kernel)) (goodIn_sub (fun _ h => List.mem_append_left _ (List.mem_append_right _ h)) (by decide +kernel))
set_option maxRecDepth 20000 in
theorem gL_law_L_fits : GoodIn wsL_law (va_wsS RL 171 yL_fits wsL_fits) := goodIn_app (goodIn_of _ (by decide +kernel)) ggL_law_L_fits
set_option maxRecDepth 20000 in
theorem ggL_law_X6_fits : GoodIn wsL_law wsX6_fits := goodIn_r _ [659, 72, 221, 222, 5, 223, 181, 182, 183, 125, 126, 127, 137, 138, 139, 140, 65, 184, 185, 186, 187, 128, 129, 130, 131, 772, 773, 774, 775, 776, 777, 778, 779, 780, 781, 782, 783, 784, 785, 786, 787, 788] rfl (by decide +kernel)
set_option maxRecDepth 20000 in
theorem gL_law_X6_fits : GoodIn wsL_law (wsV RL 173 RX6 yX6_fits wsX6_fits) := goodIn_app (goodIn_of _ (by decide +kernel)) ggL_law_X6_fits
set_option maxRecDepth 20000 in
theorem ggL_law_X5_stepsLeft : GoodIn wsL_law wsX5_stepsLeft := goodIn_r _ [663, 16, 196, 197, 766, 767, 768, 769, 770, 771, 789, 790, 791, 792, 793, 802, 803, 804, 805, 806, 807, 808] rfl (by decide +kernel)
set_option maxRecDepth 20000 in
theorem gL_law_X5_stepsLeft : GoodIn wsL_law (wsV RL 174 RX5 yX5_stepsLeft wsX5_stepsLeft) := goodIn_app (goodIn_of _ (by decide +kernel)) ggL_law_X5_stepsLeft
set_option maxRecDepth 20000 in
theorem ggL_law_X6_stepsLeft : GoodIn wsL_law wsX6_stepsLeft := goodIn_r _ [667, 72, 65, 772, 773, 774, 775, 776, 777, 778, 779, 780, 781, 782, 783, 784, 785, 786, 787, 788] rfl (by decide +kernel)
set_option maxRecDepth 20000 in
theorem gL_law_X6_stepsLeft : GoodIn wsL_law (wsV RL 177 RX6 yX6_stepsLeft wsX6_stepsLeft) := goodIn_app (goodIn_of _ (by decide +kernel)) ggL_law_X6_stepsLeft
set_option maxRecDepth 20000 in
theorem ggL_law_L_highPart : GoodIn wsL_law wsL_highPart := goodIn_ca (goodIn_r _ [670, 191, 671, 672, 673, 2, 674, 16, 196, 675, 272, 273, 274, 275, 202, 203, 197, 766, 767, 768, 769, 770, 771, 789, 790, 791, 792, 793, 802, 803, 804, 805, 806, 807, 808] rfl (by decide +kernel)) (goodIn_sub (fun _ h => List.mem_append_right _ h) (by decide +kernel))
set_option maxRecDepth 20000 in
theorem gL_law_L_highPart : GoodIn wsL_law (va_wsS RL 178 yL_highPart wsL_highPart) := goodIn_app (goodIn_of _ (by decide +kernel)) ggL_law_L_highPart

set_option maxRecDepth 20000 in
theorem ggL_law_X6_highPart : GoodIn wsL_law wsX6_highPart := goodIn_r _ [679, 680, 681, 682, 5, 683, 72, 65, 128, 129, 130, 131, 772, 773, 774, 775, 776, 777, 778, 779, 780, 781, 782, 783, 784, 785, 786, 787, 788] rfl (by decide +kernel)
set_option maxRecDepth 20000 in
theorem gL_law_X6_highPart : GoodIn wsL_law (wsV RL 180 RX6 yX6_highPart wsX6_highPart) := goodIn_app (goodIn_of _ (by decide +kernel)) ggL_law_X6_highPart
set_option maxRecDepth 20000 in
theorem ggL_law_L_lowPart : GoodIn wsL_law wsL_lowPart := goodIn_ca (goodIn_r _ [686, 191, 687, 688, 689, 2, 690, 16, 196, 691, 272, 273, 274, 275, 202, 203, 197, 766, 767, 768, 769, 770, 771, 789, 790, 791, 792, 793, 802, 803, 804, 805, 806, 807, 808] rfl (by decide +kernel)) (goodIn_sub (fun _ h => List.mem_append_right _ h) (by decide +kernel))
set_option maxRecDepth 20000 in
theorem gL_law_L_lowPart : GoodIn wsL_law (va_wsS RL 181 yL_lowPart wsL_lowPart) := goodIn_app (goodIn_of _ (by decide +kernel)) ggL_law_L_lowPart
set_option maxRecDepth 20000 in
theorem ggL_law_X6_lowPart : GoodIn wsL_law wsX6_lowPart := goodIn_r _ [695, 680, 681, 682, 5, 683, 72, 65, 128, 129, 130, 131, 772, 773, 774, 775, 776, 777, 778, 779, 780, 781, 782, 783, 784, 785, 786, 787, 788] rfl (by decide +kernel)
set_option maxRecDepth 20000 in
theorem gL_law_X6_lowPart : GoodIn wsL_law (wsV RL 183 RX6 yX6_lowPart wsX6_lowPart) := goodIn_app (goodIn_of _ (by decide +kernel)) ggL_law_X6_lowPart
set_option maxRecDepth 20000 in
theorem ggL_law_L_extraBit : GoodIn wsL_law wsL_extraBit := goodIn_ca (goodIn_r _ [698, 191, 699, 700, 701, 2, 702, 16, 196, 703, 272, 273, 274, 275, 202, 203, 197, 766, 767, 768, 769, 770, 771, 789, 790, 791, 792, 793, 802, 803, 804, 805, 806, 807, 808] rfl (by decide +kernel)) (goodIn_sub (fun _ h => List.mem_append_right _ h) (by decide +kernel))
set_option maxRecDepth 20000 in
theorem gL_law_L_extraBit : GoodIn wsL_law (va_wsS RL 184 yL_extraBit wsL_extraBit) := goodIn_app (goodIn_of _ (by decide +kernel)) ggL_law_L_extraBit
set_option maxRecDepth 20000 in
theorem ggL_law_X6_extraBit : GoodIn wsL_law wsX6_extraBit := goodIn_r _ [707, 680, 681, 682, 5, 683, 72, 65, 128, 129, 130, 131, 772, 773, 774, 775, 776, 777, 778, 779, 780, 781, 782, 783, 784, 785, 786, 787, 788] rfl (by decide +kernel)
set_option maxRecDepth 20000 in
theorem gL_law_X6_extraBit : GoodIn wsL_law (wsV RL 186 RX6 yX6_extraBit wsX6_extraBit) := goodIn_app (goodIn_of _ (by decide +kernel)) ggL_law_X6_extraBit
set_option maxRecDepth 20000 in
theorem ggL_law_L_carries : GoodIn wsL_law wsL_carries := goodIn_ca (goodIn_r _ [710, 152, 711, 712, 713, 2, 714, 16, 157, 158, 159, 160, 161, 162, 163, 164, 204, 205, 206, 15, 207, 36, 208, 170, 171, 172, 31, 715, 716, 717, 559, 560, 561, 562, 563, 564, 565, 766, 767, 768, 769, 770, 771, 789, 790, 791, 792, 793] rfl (by decide +kernel)) (goodIn_sub (fun _ h => List.mem_append_left _ (List.mem_append_right _ h)) (by decide +kernel))
set_option maxRecDepth 20000 in
theorem gL_law_L_carries : GoodIn wsL_law (va_wsS RL 187 yL_carries wsL_carries) := goodIn_app (goodIn_of _ (by decide +kernel)) ggL_law_L_carries
set_option maxRecDepth 20000 in
theorem ggL_law_X6_carries : GoodIn wsL_law wsX6_carries := goodIn_r _ [721, 72, 221, 222, 5, 223, 181, 182, 183, 125, 126, 127, 722, 723, 724, 725, 65, 137, 138, 139, 140, 608, 609, 610, 128, 129, 130, 131, 772, 773, 774, 775, 776, 777, 778, 779, 780, 781, 782, 783, 784, 785, 786, 787, 788] rfl (by decide +kernel)
set_option maxRecDepth 20000 in
theorem gL_law_X6_carries : GoodIn wsL_law (wsV RL 189 RX6 yX6_carries wsX6_carries) := goodIn_app (goodIn_of _ (by decide +kernel)) ggL_law_X6_carries
set_option maxRecDepth 20000 in
theorem ggL_law_L_longestRun : GoodIn wsL_law wsL_longestRun := goodIn_ca (goodIn_r _ [728, 152, 729, 730, 731, 2, 732, 16, 84, 733, 734, 93, 735, 157, 158, 159, 160, 161, 162, 163, 164, 204, 205, 206, 15, 207, 36, 208, 170, 171, 172, 31, 715, 716, 717, 591, 255, 256, 766, 767, 768, 769, 770, 771, 789, 790, 791, 792, 793] rfl (by decide +kernel)) (goodIn_sub (fun _ h => List.mem_append_left _ (List.mem_append_right _ h)) (by decide +kernel))
set_option maxRecDepth 20000 in
theorem gL_law_L_longestRun : GoodIn wsL_law (va_wsS RL 190 yL_longestRun wsL_longestRun) := goodIn_app (goodIn_of _ (by decide +kernel)) ggL_law_L_longestRun
set_option maxRecDepth 20000 in
theorem ggL_law_X6_longestRun : GoodIn wsL_law wsX6_longestRun := goodIn_r _ [739, 72, 221, 222, 5, 223, 181, 182, 183, 125, 126, 127, 722, 723, 724, 725, 65, 137, 138, 139, 140, 608, 609, 610, 128, 129, 130, 131, 772, 773, 774, 775, 776, 777, 778, 779, 780, 781, 782, 783, 784, 785, 786, 787, 788] rfl (by decide +kernel)
set_option maxRecDepth 20000 in
theorem gL_law_X6_longestRun : GoodIn wsL_law (wsV RL 192 RX6 yX6_longestRun wsX6_longestRun) := goodIn_app (goodIn_of _ (by decide +kernel)) ggL_law_X6_longestRun
set_option maxRecDepth 20000 in
theorem ggL_law_X5_overflows : GoodIn wsL_law wsX5_overflows := goodIn_r _ [743, 16, 744, 766, 767, 768, 769, 770, 771, 789, 790, 791, 792, 793] rfl (by decide +kernel)
set_option maxRecDepth 20000 in
theorem gL_law_X5_overflows : GoodIn wsL_law (wsV RL 193 RX5 yX5_overflows wsX5_overflows) := goodIn_app (goodIn_of _ (by decide +kernel)) ggL_law_X5_overflows

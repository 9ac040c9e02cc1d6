set_option maxRecDepth 20000 in
theorem ggL_law_X6_highPart : GoodIn wsL_law wsX6_highPart := goodIn_r _ [687, 688, 689, 690, 5, 691, 72, 65, 136, 137, 138, 139, 780, 781, 782, 783, 784, 785, 786, 787, 788, 789, 790, 791, 792, 793, 794, 795, 796] rfl (by decide +kernel)
set_option maxRecDepth 20000 in
theorem gL_law_X6_highPart : GoodIn wsL_law (wsV RL 180 RX6 yX6_highPart wsX6_highPart) := goodIn_app (goodIn_of _ (by decide +kernel)) ggL_law_X6_highPart
set_option maxRecDepth 20000 in
theorem ggL_law_L_lowPart : GoodIn wsL_law wsL_lowPart := goodIn_ca (goodIn_r _ [694, 199, 695, 696, 697, 2, 698, 16, 204, 699, 280, 281, 282, 283, 210, 211, 205, 774, 775, 776, 777, 778, 779, 797, 798, 799, 800, 801, 810, 811, 812, 813, 814, 815, 816] rfl (by decide +kernel)) (goodIn_sub (fun _ h => List.mem_append_right _ h) (by decide +kernel))
set_option maxRecDepth 20000 in
theorem gL_law_L_lowPart : GoodIn wsL_law (va_wsS RL 181 yL_lowPart wsL_lowPart) := goodIn_app (goodIn_of _ (by decide +kernel)) ggL_law_L_lowPart
set_option maxRecDepth 20000 in
theorem ggL_law_X6_lowPart : GoodIn wsL_law wsX6_lowPart := goodIn_r _ [703, 688, 689, 690, 5, 691, 72, 65, 136, 137, 138, 139, 780, 781, 782, 783, 784, 785, 786, 787, 788, 789, 790, 791, 792, 793, 794, 795, 796] rfl (by decide +kernel)
set_option maxRecDepth 20000 in
theorem gL_law_X6_lowPart : GoodIn wsL_law (wsV RL 183 RX6 yX6_lowPart wsX6_lowPart) := goodIn_app (goodIn_of _ (by decide +kernel)) ggL_law_X6_lowPart
set_option maxRecDepth 20000 in
theorem ggL_law_L_extraBit : GoodIn wsL_law wsL_extraBit := goodIn_ca (goodIn_r _ [706, 199, 707, 708, 709, 2, 710, 16, 204, 711, 280, 281, 282, 283, 210, 211, 205, 774, 775, 776, 777, 778, 779, 797, 798, 799, 800, 801, 810, 811, 812, 813, 814, 815, 816] rfl (by decide +kernel)) (goodIn_sub (fun _ h => List.mem_append_right _ h) (by decide +kernel))
set_option maxRecDepth 20000 in
theorem gL_law_L_extraBit : GoodIn wsL_law (va_wsS RL 184 yL_extraBit wsL_extraBit) := goodIn_app (goodIn_of _ (by decide +kernel)) ggL_law_L_extraBit
set_option maxRecDepth 20000 in
theorem ggL_law_X6_extraBit : GoodIn wsL_law wsX6_extraBit := goodIn_r _ [715, 688, 689, 690, 5, 691, 72, 65, 136, 137, 138, 139, 780, 781, 782, 783, 784, 785, 786, 787, 788, 789, 790, 791, 792, 793, 794, 795, 796] rfl (by decide +kernel)
set_option maxRecDepth 20000 in
theorem gL_law_X6_extraBit : GoodIn wsL_law (wsV RL 186 RX6 yX6_extraBit wsX6_extraBit) := goodIn_app (goodIn_of _ (by decide +kernel)) ggL_law_X6_extraBit
set_option maxRecDepth 20000 in
theorem ggL_law_L_carries : GoodIn wsL_law wsL_carries := goodIn_ca (goodIn_r _ [718, 160, 719, 720, 721, 2, 722, 16, 165, 166, 167, 168, 169, 170, 171, 172, 212, 213, 214, 15, 215, 36, 216, 178, 179, 180, 31, 723, 724, 725, 567, 568, 569, 570, 571, 572, 573, 774, 775, 776, 777, 778, 779, 797, 798, 799, 800, 801] rfl (by decide +kernel)) (goodIn_sub (fun _ h => List.mem_append_left _ (List.mem_append_right _ h)) (by decide +kernel))
set_option maxRecDepth 20000 in
theorem gL_law_L_carries : GoodIn wsL_law (va_wsS RL 187 yL_carries wsL_carries) := goodIn_app (goodIn_of _ (by decide +kernel)) ggL_law_L_carries
set_option maxRecDepth 20000 in
theorem ggL_law_X6_carries : GoodIn wsL_law wsX6_carries := goodIn_r _ [729, 72, 229, 230, 5, 231, 189, 190, 191, 133, 134, 135, 730, 731, 732, 733, 65, 145, 146, 147, 148, 616, 617, 618, 136, 137, 138, 139, 780, 781, 782, 783, 784, 785, 786, 787, 788, 789, 790, 791, 792, 793, 794, 795, 796] rfl (by decide +kernel)
set_option maxRecDepth 20000 in
theorem gL_law_X6_carries : GoodIn wsL_law (wsV RL 189 RX6 yX6_carries wsX6_carries) := goodIn_app (goodIn_of _ (by decide +kernel)) ggL_law_X6_carries
set_option maxRecDepth 20000 in
theorem ggL_law_L_longestRun : GoodIn wsL_law wsL_longestRun := goodIn_ca (goodIn_r _ [736, 160, 737, 738, 739, 2, 740, 16, 84, 741, 742, 93, 743, 165, 166, 167, 168, 169, 170, 171, 172, 212, 213, 214, 15, 215, 36, 216, 178, 179, 180, 31, 723, 724, 725, 599, 263, 264, 774, 775, 776, 777, 778, 779, 797, 798, 799, 800, 801] rfl (by decide +kernel)) (goodIn_sub (fun _ h => List.mem_append_left _ (List.mem_append_right _ h)) (by decide +kernel))
set_option maxRecDepth 20000 in
theorem gL_law_L_longestRun : GoodIn wsL_law (va_wsS RL 190 yL_longestRun wsL_longestRun) := goodIn_app (goodIn_of _ (by decide +kernel)) ggL_law_L_longestRun
set_option maxRecDepth 20000 in
theorem ggL_law_X6_longestRun : GoodIn wsL_law wsX6_longestRun := goodIn_r _ [747, 72, 229, 230, 5, 231, 189, 190, 191, 133, 134, 135, 730, 731, 732, 733, 65, 145, 146, 147, 148, 616, 617, 618, 136, 137, 138, 139, 780, 781, 782, 783, 784, 785, 786, 787, 788, 789, 790, 791, 792, 793, 794, 795, 796] rfl (by decide +kernel)
set_option maxRecDepth 20000 in
theorem gL_law_X6_longestRun : GoodIn wsL_law (wsV RL 192 RX6 yX6_longestRun wsX6_longestRun) := goodIn_app (goodIn_of _ (by decide +kernel)) ggL_law_X6_longestRun
set_option maxRecDepth 20000 in
theorem ggL_law_X5_overflows : GoodIn wsL_law wsX5_overflows := goodIn_r _ [751, 16, 752, 774, 775, 776, 777, 778, 779, 797, 798, 799, 800, 801] rfl (by decide +kernel)
set_option maxRecDepth 20000 in
theorem gL_law_X5_overflows : GoodIn wsL_law (wsV RL 193 RX5 yX5_overflows wsX5_overflows) := goodIn_app (goodIn_of _ (by decide +kernel)) ggL_law_X5_overflows

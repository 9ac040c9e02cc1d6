set_option maxRecDepth 20000 in
theorem ggL_law_X6_overflows : GoodIn wsL_law wsX6_overflows := goodIn_r _ [756, 72, 65, 780, 781, 782, 783, 784, 785, 786, 787, 788, 789, 790, 791, 792, 793, 794, 795, 796] rfl (by decide +kernel)
set_option maxRecDepth 20000 in
theorem gL_law_X6_overflows : GoodIn wsL_law (wsV RL 196 RX6 yX6_overflows wsX6_overflows) := goodIn_app (goodIn_of _ (by decide +kernel)) ggL_law_X6_overflows
set_option maxRecDepth 20000 in
theorem ggL_law_X5_stepsMade : GoodIn wsL_law wsX5_stepsMade := goodIn_r _ [760, 16, 761, 774, 775, 776, 777, 778, 779, 797, 798, 799, 800, 801] rfl (by decide +kernel)
set_option maxRecDepth 20000 in
theorem gL_law_X5_stepsMade : GoodIn wsL_law (wsV RL 197 RX5 yX5_stepsMade wsX5_stepsMade) := goodIn_app (goodIn_of _ (by decide +kernel)) ggL_law_X5_stepsMade
set_option maxRecDepth 20000 in
theorem ggL_law_X6_stepsMade : GoodIn wsL_law wsX6_stepsMade := goodIn_r _ [765, 72, 65, 780, 781, 782, 783, 784, 785, 786, 787, 788, 789, 790, 791, 792, 793, 794, 795, 796] rfl (by decide +kernel)
set_option maxRecDepth 20000 in
theorem gL_law_X6_stepsMade : GoodIn wsL_law (wsV RL 200 RX6 yX6_stepsMade wsX6_stepsMade) := goodIn_app (goodIn_of _ (by decide +kernel)) ggL_law_X6_stepsMade
set_option maxRecDepth 20000 in
theorem ggL_law_X5_recordedStates : GoodIn wsL_law wsX5_recordedStates := goodIn_r _ [769, 20, 511, 774, 775, 776, 777, 778, 779, 802, 803, 804] rfl (by decide +kernel)
set_option maxRecDepth 20000 in
theorem gL_law_X5_recordedStates : GoodIn wsL_law (wsV RL 201 RX5 yX5_recordedStates wsX5_recordedStates) := goodIn_app (goodIn_of _ (by decide +kernel)) ggL_law_X5_recordedStates
set_option maxRecDepth 20000 in
theorem ggL_law_X6_recordedStates : GoodIn wsL_law wsX6_recordedStates := goodIn_r _ [773, 72, 144, 780, 781, 782, 783, 784, 785, 786, 787, 788, 789, 790, 791, 792, 793, 794, 795, 796] rfl (by decide +kernel)
set_option maxRecDepth 20000 in
theorem gL_law_X6_recordedStates : GoodIn wsL_law (wsV RL 204 RX6 yX6_recordedStates wsX6_recordedStates) := goodIn_app (goodIn_of _ (by decide +kernel)) ggL_law_X6_recordedStates

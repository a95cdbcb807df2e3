set_option maxRecDepth 20000 in
theorem ggL_law_X6_restore : GoodIn wsL_law wsX6_restore := goodIn_r _ [727, 40, 15, 116, 117, 2, 118, 716, 717, 718, 719, 37, 38, 339, 225, 226, 14, 227, 46, 228, 229, 230, 231, 47, 48, 49, 50, 51, 52, 53, 54, 55, 56, 57, 58, 747, 748, 749, 750, 751, 752, 753, 754, 755, 756, 757, 788, 789, 790, 791, 792, 793, 794, 795, 796, 797, 798, 799, 800] (by decide +kernel) (by decide +kernel)
set_option maxRecDepth 20000 in
theorem gL_law_X6_restore : GoodIn wsL_law (wsV RL 127 RX6 yX6_restore wsX6_restore) := goodIn_app (goodIn_of _ (by decide +kernel)) ggL_law_X6_restore
set_option maxRecDepth 20000 in
theorem ggL_law_X7_restore : GoodIn wsL_law wsX7_restore := goodIn_r _ [731, 109, 93, 108, 94, 95, 98, 99, 97, 96, 302, 299, 300, 301, 570, 123, 124, 5, 125, 758, 759, 760, 761, 762, 763, 764, 765, 766, 767, 768, 769, 770, 771, 772, 773, 774, 775, 776, 777, 778, 779, 780, 781, 782, 783, 784, 785, 786, 787] (by decide +kernel) (by decide +kernel)
set_option maxRecDepth 20000 in
theorem gL_law_X7_restore : GoodIn wsL_law (wsV RL 130 RX7 yX7_restore wsX7_restore) := goodIn_app (goodIn_of _ (by decide +kernel)) ggL_law_X7_restore
set_option maxRecDepth 20000 in
theorem ggL_law_X6_told : GoodIn wsL_law wsX6_told := goodIn_r _ [735, 15, 115, 114, 116, 117, 2, 118, 736, 737, 738, 739, 20, 158, 352, 146, 563, 740, 741, 742, 131, 132, 133, 371, 372, 373, 134, 135, 136, 14, 137, 48, 747, 748, 749, 750, 751, 752, 753, 754, 755, 756, 757, 788, 789, 790, 791, 792, 793, 794, 795, 796, 797, 798, 799, 800, 801, 802] (by decide +kernel) (by decide +kernel)
set_option maxRecDepth 20000 in
theorem gL_law_X6_told : GoodIn wsL_law (wsV RL 131 RX6 yX6_told wsX6_told) := goodIn_app (goodIn_of _ (by decide +kernel)) ggL_law_X6_told
set_option maxRecDepth 20000 in
theorem ggL_law_X7_told : GoodIn wsL_law wsX7_told := goodIn_r _ [746, 95, 93, 94, 164, 302, 96, 570, 299, 300, 301, 123, 124, 5, 125, 758, 759, 760, 761, 762, 763, 764, 765, 766, 767, 768, 769, 770, 771, 772, 773, 774, 775, 776, 777, 778, 779, 780, 781, 782, 783, 784, 785, 786, 787] (by decide +kernel) (by decide +kernel)
set_option maxRecDepth 20000 in
theorem gL_law_X7_told : GoodIn wsL_law (wsV RL 134 RX7 yX7_told wsX7_told) := goodIn_app (goodIn_of _ (by decide +kernel)) ggL_law_X7_told

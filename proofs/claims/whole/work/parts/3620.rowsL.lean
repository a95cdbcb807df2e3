set_option maxRecDepth 20000 in
theorem ggL_law_X6_init : GoodIn wsL_law wsX6_init := goodIn_r _ [8, 9, 10, 11, 12, 13, 14, 15, 16, 17, 18, 19, 20, 21, 22, 23, 24, 25, 26, 27, 28, 29, 30, 31, 32, 33, 34, 35, 36, 37, 38, 39, 40, 41, 42, 43, 44, 45, 46, 47, 48, 49, 50, 51, 52, 53, 54, 55, 56, 57, 58, 59, 60, 61, 62, 63, 64, 65, 66, 67, 68, 69, 70, 71, 72, 73, 74, 75, 76, 77, 78, 79, 80, 81, 82, 83, 84, 85, 86, 87, 88, 787, 788, 789, 790, 791, 792, 793, 794, 795, 796, 797, 798, 799, 746, 747, 748, 749, 750, 751, 752, 753, 754, 755, 756, 800, 801, 802, 803, 804, 805, 806, 807, 808, 809, 810, 811, 812, 813] (by decide +kernel) (by decide +kernel)
set_option maxRecDepth 20000 in
theorem gL_law_X6_init : GoodIn wsL_law (wsX6_init) := ggL_law_X6_init
set_option maxRecDepth 20000 in
theorem ggL_law_X7_init : GoodIn wsL_law wsX7_init := goodIn_r _ [91, 92, 10, 11, 41, 93, 94, 95, 96, 97, 98, 99, 100, 101, 102, 103, 104, 105, 106, 107, 108, 39, 109, 757, 758, 759, 760, 761, 762, 763, 764, 765, 766, 767, 768, 769, 770, 771, 772, 773, 774, 775, 776, 777, 778, 779, 780, 781, 782, 783, 784, 785, 786] (by decide +kernel) (by decide +kernel)
set_option maxRecDepth 20000 in
theorem gL_law_X7_init : GoodIn wsL_law (wsX7_init) := ggL_law_X7_init
set_option maxRecDepth 20000 in
theorem ggL_law_X6_wall : GoodIn wsL_law wsX6_wall := goodIn_r _ [113, 15, 114, 115, 116, 117, 2, 118, 119, 120, 121, 746, 747, 748, 749, 750, 751, 752, 753, 754, 755, 756, 787, 788, 789, 790, 791, 792, 793, 794, 795, 796, 797, 798, 799] (by decide +kernel) (by decide +kernel)
set_option maxRecDepth 20000 in
theorem gL_law_X6_wall : GoodIn wsL_law (wsV RL 13 RX6 yX6_wall wsX6_wall) := goodIn_app (goodIn_of _ (by decide +kernel)) ggL_law_X6_wall
set_option maxRecDepth 20000 in
theorem ggL_law_X7_wall : GoodIn wsL_law wsX7_wall := goodIn_r _ [125, 94, 93, 126, 127, 5, 128, 757, 758, 759, 760, 761, 762, 763, 764, 765, 766, 767, 768, 769, 770, 771, 772, 773, 774, 775, 776, 777, 778, 779, 780, 781, 782, 783, 784, 785, 786] (by decide +kernel) (by decide +kernel)
set_option maxRecDepth 20000 in
theorem gL_law_X7_wall : GoodIn wsL_law (wsV RL 17 RX7 yX7_wall wsX7_wall) := goodIn_app (goodIn_of _ (by decide +kernel)) ggL_law_X7_wall
set_option maxRecDepth 20000 in
theorem ggL_law_X6_dress : GoodIn wsL_law wsX6_dress := goodIn_r _ [132, 15, 133, 134, 135, 2, 136, 119, 120, 121, 137, 138, 139, 14, 140, 48, 746, 747, 748, 749, 750, 751, 752, 753, 754, 755, 756, 787, 788, 789, 790, 791, 792, 793, 794, 795, 796, 797, 798, 799] (by decide +kernel) (by decide +kernel)
set_option maxRecDepth 20000 in
theorem gL_law_X6_dress : GoodIn wsL_law (wsV RL 18 RX6 yX6_dress wsX6_dress) := goodIn_app (goodIn_of _ (by decide +kernel)) ggL_law_X6_dress
set_option maxRecDepth 20000 in
theorem ggL_law_X7_dress : GoodIn wsL_law wsX7_dress := goodIn_r _ [144, 95, 126, 127, 5, 128, 757, 758, 759, 760, 761, 762, 763, 764, 765, 766, 767, 768, 769, 770, 771, 772, 773, 774, 775, 776, 777, 778, 779, 780, 781, 782, 783, 784, 785, 786] (by decide +kernel) (by decide +kernel)
set_option maxRecDepth 20000 in
theorem gL_law_X7_dress : GoodIn wsL_law (wsV RL 22 RX7 yX7_dress wsX7_dress) := goodIn_app (goodIn_of _ (by decide +kernel)) ggL_law_X7_dress
set_option maxRecDepth 20000 in
theorem ggL_law_X6_limit : GoodIn wsL_law wsX6_limit := goodIn_r _ [148, 15, 149, 150, 151, 2, 152, 119, 120, 121, 746, 747, 748, 749, 750, 751, 752, 753, 754, 755, 756, 787, 788, 789, 790, 791, 792, 793, 794, 795, 796, 797, 798, 799] (by decide +kernel) (by decide +kernel)
set_option maxRecDepth 20000 in
theorem gL_law_X6_limit : GoodIn wsL_law (wsV RL 23 RX6 yX6_limit wsX6_limit) := goodIn_app (goodIn_of _ (by decide +kernel)) ggL_law_X6_limit
set_option maxRecDepth 20000 in
theorem ggL_law_X7_limit : GoodIn wsL_law wsX7_limit := goodIn_r _ [156, 96, 126, 127, 5, 128, 757, 758, 759, 760, 761, 762, 763, 764, 765, 766, 767, 768, 769, 770, 771, 772, 773, 774, 775, 776, 777, 778, 779, 780, 781, 782, 783, 784, 785, 786] (by decide +kernel) (by decide +kernel)
set_option maxRecDepth 20000 in
theorem gL_law_X7_limit : GoodIn wsL_law (wsV RL 27 RX7 yX7_limit wsX7_limit) := goodIn_app (goodIn_of _ (by decide +kernel)) ggL_law_X7_limit

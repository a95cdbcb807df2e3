set_option maxRecDepth 20000 in
theorem ggL_law_X6_fogs : GoodIn wsL_law wsX6_fogs := goodIn_r _ [638, 639, 28, 15, 119, 120, 2, 121, 370, 371, 372, 150, 151, 152, 388, 389, 390, 27, 391, 75, 392, 393, 262, 263, 14, 264, 49, 394, 258, 259, 260, 50, 57, 58, 46, 47, 261, 265, 266, 640, 641, 642, 494, 495, 496, 497, 498, 499, 500, 643, 644, 645, 395, 396, 397, 398, 247, 248, 399, 400, 401, 402, 403, 404, 405, 406, 407, 408, 382, 383, 646, 647, 648, 746, 747, 748, 749, 750, 751, 752, 753, 754, 755, 756, 806, 787, 788, 789, 790, 791, 792, 793, 794, 795, 796, 797, 798, 799] (by decide +kernel) (by decide +kernel)
set_option maxRecDepth 20000 in
theorem gL_law_X6_fogs : GoodIn wsL_law (wsV RL 110 RX6 yX6_fogs wsX6_fogs) := goodIn_app (goodIn_of _ (by decide +kernel)) ggL_law_X6_fogs
set_option maxRecDepth 20000 in
theorem ggL_law_X7_fogs : GoodIn wsL_law wsX7_fogs := goodIn_r _ [652, 653, 654, 290, 126, 127, 5, 128, 294, 295, 296, 297, 101, 97, 102, 98, 103, 94, 298, 299, 291, 300, 293, 301, 292, 314, 315, 316, 317, 310, 311, 312, 313, 93, 322, 323, 324, 757, 758, 759, 760, 761, 762, 763, 764, 765, 766, 767, 768, 769, 770, 771, 772, 773, 774, 775, 776, 777, 778, 779, 780, 781, 782, 783, 784, 785, 786] (by decide +kernel) (by decide +kernel)
set_option maxRecDepth 20000 in
theorem gL_law_X7_fogs : GoodIn wsL_law (wsV RL 114 RX7 yX7_fogs wsX7_fogs) := goodIn_app (goodIn_of _ (by decide +kernel)) ggL_law_X7_fogs
set_option maxRecDepth 20000 in
theorem ggL_law_X6_turns : GoodIn wsL_law wsX6_turns := goodIn_r _ [658, 36, 15, 466, 467, 2, 468, 119, 120, 121, 659, 660, 661, 35, 662, 88, 86, 87, 663, 664, 665, 666, 247, 248, 667, 668, 669, 670, 671, 672, 478, 479, 14, 480, 246, 138, 139, 140, 48, 673, 258, 259, 260, 50, 57, 58, 46, 47, 261, 262, 263, 264, 49, 265, 266, 674, 675, 676, 677, 678, 679, 680, 681, 746, 747, 748, 749, 750, 751, 752, 753, 754, 755, 756, 811, 812, 813, 787, 788, 789, 790, 791, 792, 793, 794, 795, 796, 797, 798, 799] (by decide +kernel) (by decide +kernel)
set_option maxRecDepth 20000 in
theorem gL_law_X6_turns : GoodIn wsL_law (wsV RL 115 RX6 yX6_turns wsX6_turns) := goodIn_app (goodIn_of _ (by decide +kernel)) ggL_law_X6_turns
set_option maxRecDepth 20000 in
theorem ggL_law_X7_turns : GoodIn wsL_law wsX7_turns := goodIn_r _ [685, 107, 126, 127, 5, 128, 322, 323, 324, 686, 687, 688, 689, 294, 295, 296, 297, 101, 97, 102, 98, 103, 94, 298, 290, 299, 291, 300, 293, 301, 292, 325, 326, 327, 328, 95, 306, 307, 308, 309, 96, 310, 311, 312, 313, 93, 757, 758, 759, 760, 761, 762, 763, 764, 765, 766, 767, 768, 769, 770, 771, 772, 773, 774, 775, 776, 777, 778, 779, 780, 781, 782, 783, 784, 785, 786] (by decide +kernel) (by decide +kernel)
set_option maxRecDepth 20000 in
theorem gL_law_X7_turns : GoodIn wsL_law (wsV RL 118 RX7 yX7_turns wsX7_turns) := goodIn_app (goodIn_of _ (by decide +kernel)) ggL_law_X7_turns
set_option maxRecDepth 20000 in
theorem ggL_law_X6_year : GoodIn wsL_law wsX6_year := goodIn_r _ [693, 16, 15, 694, 424, 425, 426, 427, 119, 120, 2, 121, 338, 224, 225, 14, 226, 46, 227, 228, 229, 230, 47, 48, 49, 50, 51, 52, 53, 54, 55, 56, 57, 58, 695, 276, 277, 278, 257, 258, 259, 260, 261, 262, 263, 264, 265, 266, 696, 697, 698, 699, 700, 254, 255, 256, 701, 702, 703, 704, 705, 352, 746, 747, 748, 749, 750, 751, 752, 753, 754, 755, 756, 787, 788, 789, 790, 791, 792, 793, 794, 795, 796, 797, 798, 799] (by decide +kernel) (by decide +kernel)
set_option maxRecDepth 20000 in
theorem gL_law_X6_year : GoodIn wsL_law (wsV RL 119 RX6 yX6_year wsX6_year) := goodIn_app (goodIn_of _ (by decide +kernel)) ggL_law_X6_year
set_option maxRecDepth 20000 in
theorem ggL_law_X7_year : GoodIn wsL_law wsX7_year := goodIn_r _ [709, 710, 290, 291, 101, 126, 127, 5, 128, 294, 295, 296, 297, 97, 102, 98, 103, 94, 298, 299, 300, 293, 301, 292, 314, 315, 316, 317, 310, 311, 312, 313, 93, 306, 307, 308, 309, 96, 437, 438, 439, 440, 757, 758, 759, 760, 761, 762, 763, 764, 765, 766, 767, 768, 769, 770, 771, 772, 773, 774, 775, 776, 777, 778, 779, 780, 781, 782, 783, 784, 785, 786] (by decide +kernel) (by decide +kernel)
set_option maxRecDepth 20000 in
theorem gL_law_X7_year : GoodIn wsL_law (wsV RL 122 RX7 yX7_year wsX7_year) := goodIn_app (goodIn_of _ (by decide +kernel)) ggL_law_X7_year
set_option maxRecDepth 20000 in
theorem ggL_law_X6_image : GoodIn wsL_law wsX6_image := goodIn_r _ [714, 15, 40, 119, 120, 2, 121, 715, 716, 717, 718, 37, 38, 338, 224, 225, 14, 226, 46, 227, 228, 229, 230, 47, 48, 49, 50, 51, 52, 53, 54, 55, 56, 57, 58, 746, 747, 748, 749, 750, 751, 752, 753, 754, 755, 756, 787, 788, 789, 790, 791, 792, 793, 794, 795, 796, 797, 798, 799] (by decide +kernel) (by decide +kernel)
set_option maxRecDepth 20000 in
theorem gL_law_X6_image : GoodIn wsL_law (wsV RL 123 RX6 yX6_image wsX6_image) := goodIn_app (goodIn_of _ (by decide +kernel)) ggL_law_X6_image
set_option maxRecDepth 20000 in
theorem ggL_law_X7_image : GoodIn wsL_law wsX7_image := goodIn_r _ [722, 108, 93, 94, 95, 98, 99, 97, 96, 301, 298, 299, 300, 569, 109, 126, 127, 5, 128, 757, 758, 759, 760, 761, 762, 763, 764, 765, 766, 767, 768, 769, 770, 771, 772, 773, 774, 775, 776, 777, 778, 779, 780, 781, 782, 783, 784, 785, 786] (by decide +kernel) (by decide +kernel)
set_option maxRecDepth 20000 in
theorem gL_law_X7_image : GoodIn wsL_law (wsV RL 126 RX7 yX7_image wsX7_image) := goodIn_app (goodIn_of _ (by decide +kernel)) ggL_law_X7_image

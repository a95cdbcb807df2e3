set_option maxRecDepth 20000 in
theorem ggL_law_X6_fogs : GoodIn wsL_law wsX6_fogs := goodIn_r _ [639, 640, 28, 15, 116, 117, 2, 118, 371, 372, 373, 147, 148, 149, 389, 390, 391, 27, 392, 75, 393, 394, 262, 263, 14, 264, 49, 395, 258, 259, 260, 50, 57, 58, 46, 47, 261, 265, 266, 641, 642, 643, 495, 496, 497, 498, 499, 500, 501, 644, 645, 646, 396, 397, 398, 399, 247, 248, 400, 401, 402, 403, 404, 405, 406, 407, 408, 409, 647, 648, 649, 747, 748, 749, 750, 751, 752, 753, 754, 755, 756, 757, 807, 788, 789, 790, 791, 792, 793, 794, 795, 796, 797, 798, 799, 800] (by decide +kernel) (by decide +kernel)
set_option maxRecDepth 20000 in
theorem gL_law_X6_fogs : GoodIn wsL_law (wsV RL 110 RX6 yX6_fogs wsX6_fogs) := goodIn_app (goodIn_of _ (by decide +kernel)) ggL_law_X6_fogs
set_option maxRecDepth 20000 in
theorem ggL_law_X7_fogs : GoodIn wsL_law wsX7_fogs := goodIn_r _ [653, 654, 655, 291, 123, 124, 5, 125, 295, 296, 297, 298, 101, 97, 102, 98, 103, 94, 299, 300, 292, 301, 294, 302, 293, 315, 316, 317, 318, 311, 312, 313, 314, 93, 323, 324, 325, 758, 759, 760, 761, 762, 763, 764, 765, 766, 767, 768, 769, 770, 771, 772, 773, 774, 775, 776, 777, 778, 779, 780, 781, 782, 783, 784, 785, 786, 787] (by decide +kernel) (by decide +kernel)
set_option maxRecDepth 20000 in
theorem gL_law_X7_fogs : GoodIn wsL_law (wsV RL 114 RX7 yX7_fogs wsX7_fogs) := goodIn_app (goodIn_of _ (by decide +kernel)) ggL_law_X7_fogs
set_option maxRecDepth 20000 in
theorem ggL_law_X6_turns : GoodIn wsL_law wsX6_turns := goodIn_r _ [659, 36, 15, 467, 468, 2, 469, 116, 117, 118, 660, 661, 662, 35, 663, 88, 86, 87, 664, 665, 666, 667, 247, 248, 668, 669, 670, 671, 672, 673, 479, 480, 14, 481, 246, 135, 136, 137, 48, 674, 258, 259, 260, 50, 57, 58, 46, 47, 261, 262, 263, 264, 49, 265, 266, 675, 676, 677, 678, 679, 680, 681, 682, 747, 748, 749, 750, 751, 752, 753, 754, 755, 756, 757, 812, 813, 814, 788, 789, 790, 791, 792, 793, 794, 795, 796, 797, 798, 799, 800] (by decide +kernel) (by decide +kernel)
set_option maxRecDepth 20000 in
theorem gL_law_X6_turns : GoodIn wsL_law (wsV RL 115 RX6 yX6_turns wsX6_turns) := goodIn_app (goodIn_of _ (by decide +kernel)) ggL_law_X6_turns
set_option maxRecDepth 20000 in
theorem ggL_law_X7_turns : GoodIn wsL_law wsX7_turns := goodIn_r _ [686, 107, 123, 124, 5, 125, 323, 324, 325, 687, 688, 689, 690, 295, 296, 297, 298, 101, 97, 102, 98, 103, 94, 299, 291, 300, 292, 301, 294, 302, 293, 326, 327, 328, 329, 95, 307, 308, 309, 310, 96, 311, 312, 313, 314, 93, 758, 759, 760, 761, 762, 763, 764, 765, 766, 767, 768, 769, 770, 771, 772, 773, 774, 775, 776, 777, 778, 779, 780, 781, 782, 783, 784, 785, 786, 787] (by decide +kernel) (by decide +kernel)
set_option maxRecDepth 20000 in
theorem gL_law_X7_turns : GoodIn wsL_law (wsV RL 118 RX7 yX7_turns wsX7_turns) := goodIn_app (goodIn_of _ (by decide +kernel)) ggL_law_X7_turns
set_option maxRecDepth 20000 in
theorem ggL_law_X6_year : GoodIn wsL_law wsX6_year := goodIn_r _ [694, 16, 15, 695, 425, 426, 427, 428, 116, 117, 2, 118, 339, 225, 226, 14, 227, 46, 228, 229, 230, 231, 47, 48, 49, 50, 51, 52, 53, 54, 55, 56, 57, 58, 696, 276, 277, 278, 257, 258, 259, 260, 261, 262, 263, 264, 265, 266, 697, 698, 699, 700, 701, 254, 255, 256, 702, 703, 704, 705, 706, 353, 747, 748, 749, 750, 751, 752, 753, 754, 755, 756, 757, 788, 789, 790, 791, 792, 793, 794, 795, 796, 797, 798, 799, 800] (by decide +kernel) (by decide +kernel)
set_option maxRecDepth 20000 in
theorem gL_law_X6_year : GoodIn wsL_law (wsV RL 119 RX6 yX6_year wsX6_year) := goodIn_app (goodIn_of _ (by decide +kernel)) ggL_law_X6_year
set_option maxRecDepth 20000 in
theorem ggL_law_X7_year : GoodIn wsL_law wsX7_year := goodIn_r _ [710, 711, 291, 292, 101, 123, 124, 5, 125, 295, 296, 297, 298, 97, 102, 98, 103, 94, 299, 300, 301, 294, 302, 293, 315, 316, 317, 318, 311, 312, 313, 314, 93, 307, 308, 309, 310, 96, 438, 439, 440, 441, 758, 759, 760, 761, 762, 763, 764, 765, 766, 767, 768, 769, 770, 771, 772, 773, 774, 775, 776, 777, 778, 779, 780, 781, 782, 783, 784, 785, 786, 787] (by decide +kernel) (by decide +kernel)
set_option maxRecDepth 20000 in
theorem gL_law_X7_year : GoodIn wsL_law (wsV RL 122 RX7 yX7_year wsX7_year) := goodIn_app (goodIn_of _ (by decide +kernel)) ggL_law_X7_year
set_option maxRecDepth 20000 in
theorem ggL_law_X6_image : GoodIn wsL_law wsX6_image := goodIn_r _ [715, 15, 40, 116, 117, 2, 118, 716, 717, 718, 719, 37, 38, 339, 225, 226, 14, 227, 46, 228, 229, 230, 231, 47, 48, 49, 50, 51, 52, 53, 54, 55, 56, 57, 58, 747, 748, 749, 750, 751, 752, 753, 754, 755, 756, 757, 788, 789, 790, 791, 792, 793, 794, 795, 796, 797, 798, 799, 800] (by decide +kernel) (by decide +kernel)
set_option maxRecDepth 20000 in
theorem gL_law_X6_image : GoodIn wsL_law (wsV RL 123 RX6 yX6_image wsX6_image) := goodIn_app (goodIn_of _ (by decide +kernel)) ggL_law_X6_image
set_option maxRecDepth 20000 in
theorem ggL_law_X7_image : GoodIn wsL_law wsX7_image := goodIn_r _ [723, 108, 93, 94, 95, 98, 99, 97, 96, 302, 299, 300, 301, 570, 109, 123, 124, 5, 125, 758, 759, 760, 761, 762, 763, 764, 765, 766, 767, 768, 769, 770, 771, 772, 773, 774, 775, 776, 777, 778, 779, 780, 781, 782, 783, 784, 785, 786, 787] (by decide +kernel) (by decide +kernel)
set_option maxRecDepth 20000 in
theorem gL_law_X7_image : GoodIn wsL_law (wsV RL 126 RX7 yX7_image wsX7_image) := goodIn_app (goodIn_of _ (by decide +kernel)) ggL_law_X7_image

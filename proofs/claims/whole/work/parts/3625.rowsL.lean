set_option maxRecDepth 20000 in
theorem ggL_law_X6_seen : GoodIn wsL_law wsX6_seen := goodIn_r _ [561, 15, 562, 563, 564, 381, 382, 2, 383, 119, 120, 121, 150, 151, 152, 746, 747, 748, 749, 750, 751, 752, 753, 754, 755, 756, 787, 788, 789, 790, 791, 792, 793, 794, 795, 796, 797, 798, 799] (by decide +kernel) (by decide +kernel)
set_option maxRecDepth 20000 in
theorem gL_law_X6_seen : GoodIn wsL_law (wsV RL 94 RX6 yX6_seen wsX6_seen) := goodIn_app (goodIn_of _ (by decide +kernel)) ggL_law_X6_seen
set_option maxRecDepth 20000 in
theorem ggL_law_X7_seen : GoodIn wsL_law wsX7_seen := goodIn_r _ [568, 569, 99, 413, 414, 5, 415, 126, 127, 128, 757, 758, 759, 760, 761, 762, 763, 764, 765, 766, 767, 768, 769, 770, 771, 772, 773, 774, 775, 776, 777, 778, 779, 780, 781, 782, 783, 784, 785, 786] (by decide +kernel) (by decide +kernel)
set_option maxRecDepth 20000 in
theorem gL_law_X7_seen : GoodIn wsL_law (wsV RL 97 RX7 yX7_seen wsX7_seen) := goodIn_app (goodIn_of _ (by decide +kernel)) ggL_law_X7_seen
set_option maxRecDepth 20000 in
theorem ggL_law_X6_forget : GoodIn wsL_law wsX6_forget := goodIn_r _ [573, 15, 562, 746, 747, 748, 749, 750, 751, 752, 753, 754, 755, 756, 787, 788, 789, 790, 791, 792, 793, 794, 795, 796, 797, 798, 799] (by decide +kernel) (by decide +kernel)
set_option maxRecDepth 20000 in
theorem gL_law_X6_forget : GoodIn wsL_law (wsV RL 98 RX6 yX6_forget wsX6_forget) := goodIn_app (goodIn_of _ (by decide +kernel)) ggL_law_X6_forget
set_option maxRecDepth 20000 in
theorem ggL_law_X7_forget : GoodIn wsL_law wsX7_forget := goodIn_r _ [577, 569, 757, 758, 759, 760, 761, 762, 763, 764, 765, 766, 767, 768, 769, 770, 771, 772, 773, 774, 775, 776, 777, 778, 779, 780, 781, 782, 783, 784, 785, 786] (by decide +kernel) (by decide +kernel)
set_option maxRecDepth 20000 in
theorem gL_law_X7_forget : GoodIn wsL_law (wsV RL 101 RX7 yX7_forget wsX7_forget) := goodIn_app (goodIn_of _ (by decide +kernel)) ggL_law_X7_forget
set_option maxRecDepth 20000 in
theorem ggL_law_X6_shown : GoodIn wsL_law wsX6_shown := goodIn_r _ [581, 32, 15, 28, 582, 583, 584, 585, 586, 31, 587, 82, 80, 588, 589, 590, 591, 79, 592, 531, 532, 27, 533, 75, 265, 2, 266, 593, 396, 397, 398, 247, 248, 399, 400, 401, 402, 403, 404, 594, 406, 407, 408, 382, 383, 119, 120, 121, 595, 596, 597, 598, 599, 600, 601, 602, 603, 604, 605, 746, 747, 748, 749, 750, 751, 752, 753, 754, 755, 756, 807, 808, 809, 810, 806, 787, 788, 789, 790, 791, 792, 793, 794, 795, 796, 797, 798, 799] (by decide +kernel) (by decide +kernel)
set_option maxRecDepth 20000 in
theorem gL_law_X6_shown : GoodIn wsL_law (wsV RL 102 RX6 yX6_shown wsX6_shown) := goodIn_app (goodIn_of _ (by decide +kernel)) ggL_law_X6_shown
set_option maxRecDepth 20000 in
theorem ggL_law_X7_shown : GoodIn wsL_law wsX7_shown := goodIn_r _ [609, 610, 611, 612, 5, 613, 101, 105, 542, 543, 544, 545, 102, 290, 291, 294, 295, 296, 297, 97, 98, 103, 94, 298, 299, 300, 293, 301, 292, 310, 311, 312, 313, 93, 314, 315, 316, 317, 614, 615, 616, 617, 569, 99, 618, 619, 620, 621, 757, 758, 759, 760, 761, 762, 763, 764, 765, 766, 767, 768, 769, 770, 771, 772, 773, 774, 775, 776, 777, 778, 779, 780, 781, 782, 783, 784, 785, 786] (by decide +kernel) (by decide +kernel)
set_option maxRecDepth 20000 in
theorem gL_law_X7_shown : GoodIn wsL_law (wsV RL 105 RX7 yX7_shown wsX7_shown) := goodIn_app (goodIn_of _ (by decide +kernel)) ggL_law_X7_shown
set_option maxRecDepth 20000 in
theorem ggL_law_X6_look : GoodIn wsL_law wsX6_look := goodIn_r _ [625, 32, 15, 28, 582, 119, 120, 2, 121, 584, 585, 586, 31, 587, 82, 80, 588, 589, 590, 591, 79, 592, 531, 532, 27, 533, 75, 265, 266, 593, 396, 397, 398, 247, 248, 399, 400, 401, 402, 403, 404, 594, 406, 407, 408, 382, 383, 595, 596, 597, 598, 599, 600, 601, 602, 603, 604, 605, 626, 627, 628, 629, 81, 630, 425, 426, 427, 151, 152, 746, 747, 748, 749, 750, 751, 752, 753, 754, 755, 756, 807, 808, 809, 810, 806, 787, 788, 789, 790, 791, 792, 793, 794, 795, 796, 797, 798, 799] (by decide +kernel) (by decide +kernel)
set_option maxRecDepth 20000 in
theorem gL_law_X6_look : GoodIn wsL_law (wsV RL 106 RX6 yX6_look wsX6_look) := goodIn_app (goodIn_of _ (by decide +kernel)) ggL_law_X6_look
set_option maxRecDepth 20000 in
theorem ggL_law_X7_look : GoodIn wsL_law wsX7_look := goodIn_r _ [634, 486, 106, 126, 127, 5, 128, 610, 611, 612, 613, 101, 105, 542, 543, 544, 545, 102, 290, 291, 294, 295, 296, 297, 97, 98, 103, 94, 298, 299, 300, 293, 301, 292, 310, 311, 312, 313, 93, 314, 315, 316, 317, 614, 615, 616, 617, 569, 99, 618, 619, 620, 621, 757, 758, 759, 760, 761, 762, 763, 764, 765, 766, 767, 768, 769, 770, 771, 772, 773, 774, 775, 776, 777, 778, 779, 780, 781, 782, 783, 784, 785, 786] (by decide +kernel) (by decide +kernel)
set_option maxRecDepth 20000 in
theorem gL_law_X7_look : GoodIn wsL_law (wsV RL 109 RX7 yX7_look wsX7_look) := goodIn_app (goodIn_of _ (by decide +kernel)) ggL_law_X7_look

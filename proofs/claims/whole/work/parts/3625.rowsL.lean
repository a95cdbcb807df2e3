set_option maxRecDepth 20000 in
theorem ggL_law_X6_seen : GoodIn wsL_law wsX6_seen := goodIn_r _ [562, 15, 563, 564, 565, 382, 383, 2, 384, 116, 117, 118, 147, 148, 149, 747, 748, 749, 750, 751, 752, 753, 754, 755, 756, 757, 788, 789, 790, 791, 792, 793, 794, 795, 796, 797, 798, 799, 800] (by decide +kernel) (by decide +kernel)
set_option maxRecDepth 20000 in
theorem gL_law_X6_seen : GoodIn wsL_law (wsV RL 94 RX6 yX6_seen wsX6_seen) := goodIn_app (goodIn_of _ (by decide +kernel)) ggL_law_X6_seen
set_option maxRecDepth 20000 in
theorem ggL_law_X7_seen : GoodIn wsL_law wsX7_seen := goodIn_r _ [569, 570, 99, 414, 415, 5, 416, 123, 124, 125, 758, 759, 760, 761, 762, 763, 764, 765, 766, 767, 768, 769, 770, 771, 772, 773, 774, 775, 776, 777, 778, 779, 780, 781, 782, 783, 784, 785, 786, 787] (by decide +kernel) (by decide +kernel)
set_option maxRecDepth 20000 in
theorem gL_law_X7_seen : GoodIn wsL_law (wsV RL 97 RX7 yX7_seen wsX7_seen) := goodIn_app (goodIn_of _ (by decide +kernel)) ggL_law_X7_seen
set_option maxRecDepth 20000 in
theorem ggL_law_X6_forget : GoodIn wsL_law wsX6_forget := goodIn_r _ [574, 15, 563, 747, 748, 749, 750, 751, 752, 753, 754, 755, 756, 757, 788, 789, 790, 791, 792, 793, 794, 795, 796, 797, 798, 799, 800] (by decide +kernel) (by decide +kernel)
set_option maxRecDepth 20000 in
theorem gL_law_X6_forget : GoodIn wsL_law (wsV RL 98 RX6 yX6_forget wsX6_forget) := goodIn_app (goodIn_of _ (by decide +kernel)) ggL_law_X6_forget
set_option maxRecDepth 20000 in
theorem ggL_law_X7_forget : GoodIn wsL_law wsX7_forget := goodIn_r _ [578, 570, 758, 759, 760, 761, 762, 763, 764, 765, 766, 767, 768, 769, 770, 771, 772, 773, 774, 775, 776, 777, 778, 779, 780, 781, 782, 783, 784, 785, 786, 787] (by decide +kernel) (by decide +kernel)
set_option maxRecDepth 20000 in
theorem gL_law_X7_forget : GoodIn wsL_law (wsV RL 101 RX7 yX7_forget wsX7_forget) := goodIn_app (goodIn_of _ (by decide +kernel)) ggL_law_X7_forget
set_option maxRecDepth 20000 in
theorem ggL_law_X6_shown : GoodIn wsL_law wsX6_shown := goodIn_r _ [582, 32, 15, 28, 583, 584, 585, 586, 587, 31, 588, 82, 80, 589, 590, 591, 592, 79, 593, 532, 533, 27, 534, 75, 265, 2, 266, 594, 397, 398, 399, 247, 248, 400, 401, 402, 403, 404, 405, 595, 407, 408, 409, 596, 597, 598, 599, 600, 601, 602, 603, 604, 605, 606, 116, 117, 118, 747, 748, 749, 750, 751, 752, 753, 754, 755, 756, 757, 808, 809, 810, 811, 807, 788, 789, 790, 791, 792, 793, 794, 795, 796, 797, 798, 799, 800] (by decide +kernel) (by decide +kernel)
set_option maxRecDepth 20000 in
theorem gL_law_X6_shown : GoodIn wsL_law (wsV RL 102 RX6 yX6_shown wsX6_shown) := goodIn_app (goodIn_of _ (by decide +kernel)) ggL_law_X6_shown
set_option maxRecDepth 20000 in
theorem ggL_law_X7_shown : GoodIn wsL_law wsX7_shown := goodIn_r _ [610, 611, 612, 613, 5, 614, 101, 105, 543, 544, 545, 546, 102, 291, 292, 295, 296, 297, 298, 97, 98, 103, 94, 299, 300, 301, 294, 302, 293, 311, 312, 313, 314, 93, 315, 316, 317, 318, 615, 616, 617, 618, 570, 99, 619, 620, 621, 622, 758, 759, 760, 761, 762, 763, 764, 765, 766, 767, 768, 769, 770, 771, 772, 773, 774, 775, 776, 777, 778, 779, 780, 781, 782, 783, 784, 785, 786, 787] (by decide +kernel) (by decide +kernel)
set_option maxRecDepth 20000 in
theorem gL_law_X7_shown : GoodIn wsL_law (wsV RL 105 RX7 yX7_shown wsX7_shown) := goodIn_app (goodIn_of _ (by decide +kernel)) ggL_law_X7_shown
set_option maxRecDepth 20000 in
theorem ggL_law_X6_look : GoodIn wsL_law wsX6_look := goodIn_r _ [626, 32, 15, 28, 583, 116, 117, 2, 118, 585, 586, 587, 31, 588, 82, 80, 589, 590, 591, 592, 79, 593, 532, 533, 27, 534, 75, 265, 266, 594, 397, 398, 399, 247, 248, 400, 401, 402, 403, 404, 405, 595, 407, 408, 409, 596, 597, 598, 599, 600, 601, 602, 603, 604, 605, 606, 627, 628, 629, 630, 81, 631, 426, 427, 428, 747, 748, 749, 750, 751, 752, 753, 754, 755, 756, 757, 808, 809, 810, 811, 807, 788, 789, 790, 791, 792, 793, 794, 795, 796, 797, 798, 799, 800] (by decide +kernel) (by decide +kernel)
set_option maxRecDepth 20000 in
theorem gL_law_X6_look : GoodIn wsL_law (wsV RL 106 RX6 yX6_look wsX6_look) := goodIn_app (goodIn_of _ (by decide +kernel)) ggL_law_X6_look
set_option maxRecDepth 20000 in
theorem ggL_law_X7_look : GoodIn wsL_law wsX7_look := goodIn_r _ [635, 487, 106, 123, 124, 5, 125, 611, 612, 613, 614, 101, 105, 543, 544, 545, 546, 102, 291, 292, 295, 296, 297, 298, 97, 98, 103, 94, 299, 300, 301, 294, 302, 293, 311, 312, 313, 314, 93, 315, 316, 317, 318, 615, 616, 617, 618, 570, 99, 619, 620, 621, 622, 758, 759, 760, 761, 762, 763, 764, 765, 766, 767, 768, 769, 770, 771, 772, 773, 774, 775, 776, 777, 778, 779, 780, 781, 782, 783, 784, 785, 786, 787] (by decide +kernel) (by decide +kernel)
set_option maxRecDepth 20000 in
theorem gL_law_X7_look : GoodIn wsL_law (wsV RL 109 RX7 yX7_look wsX7_look) := goodIn_app (goodIn_of _ (by decide +kernel)) ggL_law_X7_look

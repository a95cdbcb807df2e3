set_option maxRecDepth 20000 in
theorem in_wsL_law_r13 : ∀ w ∈ wsL_law_r13, w ∈ lw_tbl := fun w h => (goodIn_r wsL_law_r13 [772, 662, 663, 657, 658, 660, 659, 773, 775, 21, 776, 646, 647, 648, 644, 777, 779, 22, 780, 781, 783, 23, 784, 785] (by decide +kernel) (by decide +kernel) w h).1
set_option maxRecDepth 20000 in
theorem in_wsL_law_r14 : ∀ w ∈ wsL_law_r14, w ∈ lw_tbl := fun w h => (goodIn_r wsL_law_r14 [787, 24, 788, 789, 791, 25, 792, 793, 795, 26, 796, 797, 798, 799, 800, 802, 27, 803, 373, 374, 375, 376, 149, 377] (by decide +kernel) (by decide +kernel) w h).1
set_option maxRecDepth 20000 in
theorem in_wsL_law_r15 : ∀ w ∈ wsL_law_r15, w ∈ lw_tbl := fun w h => (goodIn_r wsL_law_r15 [379, 3, 380, 381, 804, 805, 806, 807, 808, 810, 28, 811, 382, 383, 384, 385, 87, 386, 812, 813, 814, 815, 387, 388] (by decide +kernel) (by decide +kernel) w h).1
set_option maxRecDepth 20000 in
theorem in_wsL_law_r16 : ∀ w ∈ wsL_law_r16, w ∈ lw_tbl := fun w h => (goodIn_r wsL_law_r16 [389, 390, 155, 816, 817, 818, 819, 391, 392, 393, 394, 395, 396, 397, 820, 821, 822, 823, 398, 399, 400, 401, 402, 403] (by decide +kernel) (by decide +kernel) w h).1

set_option maxRecDepth 20000 in
theorem in_wsL_law_r13 : ∀ w ∈ wsL_law_r13, w ∈ lw_tbl := fun w h => (goodIn_r wsL_law_r13 [664, 665, 659, 660, 662, 661, 775, 777, 21, 778, 648, 649, 650, 646, 779, 781, 22, 782, 783, 785, 23, 786, 787, 789] (by decide +kernel) (by decide +kernel) w h).1
set_option maxRecDepth 20000 in
theorem in_wsL_law_r14 : ∀ w ∈ wsL_law_r14, w ∈ lw_tbl := fun w h => (goodIn_r wsL_law_r14 [24, 790, 791, 793, 25, 794, 795, 797, 26, 798, 799, 800, 801, 802, 804, 27, 805, 373, 374, 375, 376, 149, 377, 379] (by decide +kernel) (by decide +kernel) w h).1
set_option maxRecDepth 20000 in
theorem in_wsL_law_r15 : ∀ w ∈ wsL_law_r15, w ∈ lw_tbl := fun w h => (goodIn_r wsL_law_r15 [3, 380, 381, 806, 807, 808, 809, 810, 812, 28, 813, 382, 383, 384, 385, 87, 386, 814, 815, 816, 817, 387, 388, 389] (by decide +kernel) (by decide +kernel) w h).1
set_option maxRecDepth 20000 in
theorem in_wsL_law_r16 : ∀ w ∈ wsL_law_r16, w ∈ lw_tbl := fun w h => (goodIn_r wsL_law_r16 [390, 155, 818, 819, 820, 821, 391, 392, 393, 394, 395, 396, 397, 822, 823, 824, 825, 398, 399, 400, 401, 402, 403, 404] (by decide +kernel) (by decide +kernel) w h).1

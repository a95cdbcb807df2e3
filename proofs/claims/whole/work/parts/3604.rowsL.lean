set_option maxRecDepth 20000 in
theorem in_wsL_law_r13 : ∀ w ∈ wsL_law_r13, w ∈ lw_tbl := fun w h => (goodIn_r wsL_law_r13 [665, 666, 660, 661, 663, 662, 776, 778, 21, 779, 649, 650, 651, 647, 780, 782, 22, 783, 784, 786, 23, 787, 788, 790] (by decide +kernel) (by decide +kernel) w h).1
set_option maxRecDepth 20000 in
theorem in_wsL_law_r14 : ∀ w ∈ wsL_law_r14, w ∈ lw_tbl := fun w h => (goodIn_r wsL_law_r14 [24, 791, 792, 794, 25, 795, 796, 798, 26, 799, 800, 801, 802, 803, 805, 27, 806, 373, 374, 375, 376, 149, 377, 379] (by decide +kernel) (by decide +kernel) w h).1
set_option maxRecDepth 20000 in
theorem in_wsL_law_r15 : ∀ w ∈ wsL_law_r15, w ∈ lw_tbl := fun w h => (goodIn_r wsL_law_r15 [3, 380, 381, 807, 808, 809, 810, 811, 813, 28, 814, 382, 383, 384, 385, 87, 386, 815, 816, 817, 818, 387, 388, 389] (by decide +kernel) (by decide +kernel) w h).1
set_option maxRecDepth 20000 in
theorem in_wsL_law_r16 : ∀ w ∈ wsL_law_r16, w ∈ lw_tbl := fun w h => (goodIn_r wsL_law_r16 [390, 155, 819, 820, 821, 822, 391, 392, 393, 394, 395, 396, 397, 823, 824, 825, 826, 398, 399, 400, 401, 402, 403, 404] (by decide +kernel) (by decide +kernel) w h).1

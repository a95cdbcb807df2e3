set_option maxRecDepth 20000 in
theorem in_wsL_law_r5 : ∀ w ∈ wsL_law_r5, w ∈ lw_tbl := fun w h => (goodIn_r wsL_law_r5 [646, 648, 652, 654, 656, 657, 658, 659, 667, 668, 669, 670, 671, 672, 247, 248, 249, 250, 67, 64, 251, 252, 253, 254] (by decide +kernel) (by decide +kernel) w h).1
set_option maxRecDepth 20000 in
theorem in_wsL_law_r6 : ∀ w ∈ wsL_law_r6, w ∈ lw_tbl := fun w h => (goodIn_r wsL_law_r6 [255, 256, 734, 735, 736, 737, 738, 739, 740, 257, 258, 259, 260, 70, 261, 262, 263, 264, 265, 266, 267, 741, 742, 743] (by decide +kernel) (by decide +kernel) w h).1
set_option maxRecDepth 20000 in
theorem in_wsL_law_r7 : ∀ w ∈ wsL_law_r7, w ∈ lw_tbl := fun w h => (goodIn_r wsL_law_r7 [744, 268, 269, 270, 271, 83, 272, 273, 274, 745, 746, 747, 748, 275, 276, 277, 278, 134, 131, 749, 750, 751, 752, 655] (by decide +kernel) (by decide +kernel) w h).1
set_option maxRecDepth 20000 in
theorem in_wsL_law_r8 : ∀ w ∈ wsL_law_r8, w ∈ lw_tbl := fun w h => (goodIn_r wsL_law_r8 [279, 280, 281, 282, 753, 754, 755, 756, 283, 284, 285, 286, 287, 288, 289, 290, 291, 292, 293, 294, 295, 296, 297, 298] (by decide +kernel) (by decide +kernel) w h).1

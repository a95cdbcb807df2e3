set_option maxRecDepth 20000 in
theorem in_wsL_law_r5 : ∀ w ∈ wsL_law_r5, w ∈ lw_tbl := fun w h => (goodIn_r wsL_law_r5 [643, 645, 649, 651, 653, 654, 655, 656, 664, 665, 666, 667, 668, 669, 247, 248, 249, 250, 67, 64, 251, 252, 253, 731] (by decide +kernel) (by decide +kernel) w h).1
set_option maxRecDepth 20000 in
theorem in_wsL_law_r6 : ∀ w ∈ wsL_law_r6, w ∈ lw_tbl := fun w h => (goodIn_r wsL_law_r6 [732, 733, 734, 735, 736, 737, 254, 255, 256, 257, 70, 258, 259, 260, 261, 262, 263, 264, 738, 739, 740, 741, 265, 266] (by decide +kernel) (by decide +kernel) w h).1
set_option maxRecDepth 20000 in
theorem in_wsL_law_r7 : ∀ w ∈ wsL_law_r7, w ∈ lw_tbl := fun w h => (goodIn_r wsL_law_r7 [267, 268, 83, 269, 270, 271, 742, 743, 744, 745, 272, 273, 274, 275, 134, 131, 746, 747, 748, 749, 652, 276, 277, 278] (by decide +kernel) (by decide +kernel) w h).1
set_option maxRecDepth 20000 in
theorem in_wsL_law_r8 : ∀ w ∈ wsL_law_r8, w ∈ lw_tbl := fun w h => (goodIn_r wsL_law_r8 [279, 750, 751, 752, 753, 280, 281, 282, 283, 284, 285, 286, 287, 288, 289, 290, 291, 292, 293, 294, 295, 296, 298, 299] (by decide +kernel) (by decide +kernel) w h).1

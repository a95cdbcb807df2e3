set_option maxRecDepth 20000 in
theorem in_wsL_law_r21 : ∀ w ∈ wsL_law_r21, w ∈ lw_tbl := fun w h => (goodIn_r wsL_law_r21 [469, 854, 855, 856, 857, 858, 859, 860, 861, 862, 474, 475, 476, 477, 478, 479, 48, 480, 481, 482, 483, 484, 486, 8] (by decide +kernel) (by decide +kernel) w h).1
set_option maxRecDepth 20000 in
theorem in_wsL_law_r22 : ∀ w ∈ wsL_law_r22, w ∈ lw_tbl := fun w h => (goodIn_r wsL_law_r22 [487, 488, 489, 490, 491, 492, 493, 863, 864, 865, 866, 867, 868, 869, 494, 495, 496, 497, 498, 500, 9, 501, 502, 504] (by decide +kernel) (by decide +kernel) w h).1
set_option maxRecDepth 20000 in
theorem in_wsL_law_r23 : ∀ w ∈ wsL_law_r23, w ∈ lw_tbl := fun w h => (goodIn_r wsL_law_r23 [10, 505, 506, 507, 508, 509, 510, 512, 11, 513, 870, 871, 872, 873, 874, 876, 31, 877, 514, 515, 516, 517, 878, 879] (by decide +kernel) (by decide +kernel) w h).1
set_option maxRecDepth 20000 in
theorem in_wsL_law_r24 : ∀ w ∈ wsL_law_r24, w ∈ lw_tbl := fun w h => (goodIn_r wsL_law_r24 [880, 881, 882, 884, 32, 885, 518, 519, 520, 521, 81, 75, 78, 886, 887, 888, 889, 653, 522, 523, 524, 525, 890, 891] (by decide +kernel) (by decide +kernel) w h).1

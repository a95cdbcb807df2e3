set_option maxRecDepth 20000 in
theorem in_wsL_law_r21 : ∀ w ∈ wsL_law_r21, w ∈ lw_tbl := fun w h => (goodIn_r wsL_law_r21 [467, 468, 851, 852, 853, 854, 855, 856, 857, 858, 859, 473, 474, 475, 476, 477, 478, 48, 479, 480, 481, 482, 483, 485] (by decide +kernel) (by decide +kernel) w h).1
set_option maxRecDepth 20000 in
theorem in_wsL_law_r22 : ∀ w ∈ wsL_law_r22, w ∈ lw_tbl := fun w h => (goodIn_r wsL_law_r22 [8, 486, 487, 488, 489, 490, 491, 492, 860, 861, 862, 863, 864, 865, 866, 493, 494, 495, 496, 497, 499, 9, 500, 501] (by decide +kernel) (by decide +kernel) w h).1
set_option maxRecDepth 20000 in
theorem in_wsL_law_r23 : ∀ w ∈ wsL_law_r23, w ∈ lw_tbl := fun w h => (goodIn_r wsL_law_r23 [503, 10, 504, 505, 506, 507, 508, 509, 511, 11, 512, 867, 868, 869, 870, 871, 873, 31, 874, 513, 514, 515, 516, 875] (by decide +kernel) (by decide +kernel) w h).1
set_option maxRecDepth 20000 in
theorem in_wsL_law_r24 : ∀ w ∈ wsL_law_r24, w ∈ lw_tbl := fun w h => (goodIn_r wsL_law_r24 [876, 877, 878, 879, 881, 32, 882, 517, 518, 519, 520, 81, 75, 78, 883, 884, 885, 886, 650, 521, 522, 523, 524, 887] (by decide +kernel) (by decide +kernel) w h).1

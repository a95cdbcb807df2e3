set_option maxRecDepth 20000 in
theorem in_wsL_law_r17 : ∀ w ∈ wsL_law_r17, w ∈ lw_tbl := fun w h => (goodIn_r wsL_law_r17 [405, 407, 4, 408, 409, 410, 411, 412, 93, 413, 414, 415, 416, 417, 418, 420, 422, 5, 423, 65, 68, 425, 426, 427] (by decide +kernel) (by decide +kernel) w h).1
set_option maxRecDepth 20000 in
theorem in_wsL_law_r18 : ∀ w ∈ wsL_law_r18, w ∈ lw_tbl := fun w h => (goodIn_r wsL_law_r18 [428, 827, 828, 829, 830, 831, 832, 833, 834, 836, 29, 837, 430, 431, 432, 433, 439, 440, 47, 441, 434, 435, 436, 437] (by decide +kernel) (by decide +kernel) w h).1
set_option maxRecDepth 20000 in
theorem in_wsL_law_r19 : ∀ w ∈ wsL_law_r19, w ∈ lw_tbl := fun w h => (goodIn_r wsL_law_r19 [438, 838, 839, 840, 841, 842, 844, 30, 845, 442, 443, 444, 445, 846, 847, 848, 849, 446, 447, 448, 449, 450, 452, 6] (by decide +kernel) (by decide +kernel) w h).1
set_option maxRecDepth 20000 in
theorem in_wsL_law_r20 : ∀ w ∈ wsL_law_r20, w ∈ lw_tbl := fun w h => (goodIn_r wsL_law_r20 [453, 850, 851, 852, 853, 454, 455, 456, 457, 461, 458, 459, 460, 462, 464, 7, 465, 470, 471, 472, 473, 466, 467, 468] (by decide +kernel) (by decide +kernel) w h).1

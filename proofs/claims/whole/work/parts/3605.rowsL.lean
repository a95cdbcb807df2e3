set_option maxRecDepth 20000 in
theorem in_wsL_law_r17 : ∀ w ∈ wsL_law_r17, w ∈ lw_tbl := fun w h => (goodIn_r wsL_law_r17 [404, 405, 407, 4, 408, 409, 410, 411, 412, 93, 413, 414, 415, 416, 417, 418, 420, 422, 5, 423, 65, 68, 425, 426] (by decide +kernel) (by decide +kernel) w h).1
set_option maxRecDepth 20000 in
theorem in_wsL_law_r18 : ∀ w ∈ wsL_law_r18, w ∈ lw_tbl := fun w h => (goodIn_r wsL_law_r18 [427, 428, 824, 825, 826, 827, 828, 829, 830, 831, 833, 29, 834, 429, 430, 431, 432, 438, 439, 47, 440, 433, 434, 435] (by decide +kernel) (by decide +kernel) w h).1
set_option maxRecDepth 20000 in
theorem in_wsL_law_r19 : ∀ w ∈ wsL_law_r19, w ∈ lw_tbl := fun w h => (goodIn_r wsL_law_r19 [436, 437, 835, 836, 837, 838, 839, 841, 30, 842, 441, 442, 443, 444, 843, 844, 845, 846, 445, 446, 447, 448, 449, 451] (by decide +kernel) (by decide +kernel) w h).1
set_option maxRecDepth 20000 in
theorem in_wsL_law_r20 : ∀ w ∈ wsL_law_r20, w ∈ lw_tbl := fun w h => (goodIn_r wsL_law_r20 [6, 452, 847, 848, 849, 850, 453, 454, 455, 456, 460, 457, 458, 459, 461, 463, 7, 464, 469, 470, 471, 472, 465, 466] (by decide +kernel) (by decide +kernel) w h).1

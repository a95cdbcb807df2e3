set_option maxRecDepth 20000 in
theorem in_wsL_law_r1 : ∀ w ∈ wsL_law_r1, w ∈ lw_tbl := fun w h => (goodIn_r wsL_law_r1 [49, 50, 38, 637, 638, 45, 51, 52, 53, 54, 55, 56, 57, 58, 39, 212, 213, 123, 124, 40, 214, 140, 141, 41] (by decide +kernel) (by decide +kernel) w h).1
set_option maxRecDepth 20000 in
theorem in_wsL_law_r2 : ∀ w ∈ wsL_law_r2, w ∈ lw_tbl := fun w h => (goodIn_r wsL_law_r2 [215, 165, 166, 42, 216, 175, 176, 43, 217, 196, 197, 44, 218, 219, 220, 246, 221, 122, 222, 60, 61, 62, 63, 66] (by decide +kernel) (by decide +kernel) w h).1
set_option maxRecDepth 20000 in
theorem in_wsL_law_r3 : ∀ w ∈ wsL_law_r3, w ∈ lw_tbl := fun w h => (goodIn_r wsL_law_r3 [69, 71, 72, 73, 76, 79, 82, 85, 88, 90, 92, 126, 127, 128, 129, 132, 143, 144, 145, 146, 148, 150, 152, 154] (by decide +kernel) (by decide +kernel) w h).1
set_option maxRecDepth 20000 in
theorem in_wsL_law_r4 : ∀ w ∈ wsL_law_r4, w ∈ lw_tbl := fun w h => (goodIn_r wsL_law_r4 [168, 169, 170, 171, 178, 179, 180, 181, 182, 184, 185, 199, 200, 201, 202, 203, 204, 639, 640, 641, 642, 643, 644, 645] (by decide +kernel) (by decide +kernel) w h).1

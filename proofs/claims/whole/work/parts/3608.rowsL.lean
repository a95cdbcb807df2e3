set_option maxRecDepth 20000 in
theorem in_wsL_law_r29 : ∀ w ∈ wsL_law_r29, w ∈ lw_tbl := fun w h => (goodIn_r wsL_law_r29 [84, 588, 589, 590, 591, 592, 593, 594, 595, 596, 597, 917, 918, 919, 920, 921, 923, 36, 924, 598, 599, 600, 601, 602] (by decide +kernel) (by decide +kernel) w h).1
set_option maxRecDepth 20000 in
theorem in_wsL_law_r30 : ∀ w ∈ wsL_law_r30, w ∈ lw_tbl := fun w h => (goodIn_r wsL_law_r30 [603, 604, 605, 606, 607, 608, 609, 610, 611, 612, 613, 925, 926, 927, 928, 929, 614, 615, 616, 617, 618, 620, 17, 621] (by decide +kernel) (by decide +kernel) w h).1
set_option maxRecDepth 20000 in
theorem in_wsL_law_r31 : ∀ w ∈ wsL_law_r31, w ∈ lw_tbl := fun w h => (goodIn_r wsL_law_r31 [930, 931, 932, 933, 622, 623, 624, 625, 934, 935, 936, 937, 626, 627, 628, 629, 630, 632, 18, 633, 91, 94, 89, 938] (by decide +kernel) (by decide +kernel) w h).1
set_option maxRecDepth 20000 in
theorem in_wsL_law_r32 : ∀ w ∈ wsL_law_r32, w ∈ lw_tbl := fun w h => (goodIn_r wsL_law_r32 [939, 940, 941] (by decide +kernel) (by decide +kernel) w h).1

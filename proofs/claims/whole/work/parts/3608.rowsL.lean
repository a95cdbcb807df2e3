set_option maxRecDepth 20000 in
theorem in_wsL_law_r29 : ∀ w ∈ wsL_law_r29, w ∈ lw_tbl := fun w h => (goodIn_r wsL_law_r29 [590, 591, 592, 593, 594, 595, 596, 597, 598, 599, 919, 920, 921, 922, 923, 925, 36, 926, 600, 601, 602, 603, 604, 605] (by decide +kernel) (by decide +kernel) w h).1
set_option maxRecDepth 20000 in
theorem in_wsL_law_r30 : ∀ w ∈ wsL_law_r30, w ∈ lw_tbl := fun w h => (goodIn_r wsL_law_r30 [606, 607, 608, 609, 610, 611, 612, 613, 614, 615, 927, 928, 929, 930, 931, 616, 617, 618, 619, 620, 622, 17, 623, 932] (by decide +kernel) (by decide +kernel) w h).1
set_option maxRecDepth 20000 in
theorem in_wsL_law_r31 : ∀ w ∈ wsL_law_r31, w ∈ lw_tbl := fun w h => (goodIn_r wsL_law_r31 [933, 934, 935, 624, 625, 626, 627, 936, 937, 938, 939, 628, 629, 630, 631, 632, 634, 18, 635, 91, 94, 89, 940, 941] (by decide +kernel) (by decide +kernel) w h).1
set_option maxRecDepth 20000 in
theorem in_wsL_law_r32 : ∀ w ∈ wsL_law_r32, w ∈ lw_tbl := fun w h => (goodIn_r wsL_law_r32 [942, 943] (by decide +kernel) (by decide +kernel) w h).1

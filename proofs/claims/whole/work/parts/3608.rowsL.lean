set_option maxRecDepth 20000 in
theorem in_wsL_law_r29 : ∀ w ∈ wsL_law_r29, w ∈ lw_tbl := fun w h => (goodIn_r wsL_law_r29 [591, 592, 593, 594, 595, 596, 597, 598, 599, 600, 920, 921, 922, 923, 924, 926, 36, 927, 601, 602, 603, 604, 605, 606] (by decide +kernel) (by decide +kernel) w h).1
set_option maxRecDepth 20000 in
theorem in_wsL_law_r30 : ∀ w ∈ wsL_law_r30, w ∈ lw_tbl := fun w h => (goodIn_r wsL_law_r30 [607, 608, 609, 610, 611, 612, 613, 614, 615, 616, 928, 929, 930, 931, 932, 617, 618, 619, 620, 621, 623, 17, 624, 933] (by decide +kernel) (by decide +kernel) w h).1
set_option maxRecDepth 20000 in
theorem in_wsL_law_r31 : ∀ w ∈ wsL_law_r31, w ∈ lw_tbl := fun w h => (goodIn_r wsL_law_r31 [934, 935, 936, 625, 626, 627, 628, 937, 938, 939, 940, 629, 630, 631, 632, 633, 635, 18, 636, 91, 94, 89, 941, 942] (by decide +kernel) (by decide +kernel) w h).1
set_option maxRecDepth 20000 in
theorem in_wsL_law_r32 : ∀ w ∈ wsL_law_r32, w ∈ lw_tbl := fun w h => (goodIn_r wsL_law_r32 [943, 944] (by decide +kernel) (by decide +kernel) w h).1

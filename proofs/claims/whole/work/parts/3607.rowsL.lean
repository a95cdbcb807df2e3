set_option maxRecDepth 20000 in
theorem in_wsL_law_r25 : ∀ w ∈ wsL_law_r25, w ∈ lw_tbl := fun w h => (goodIn_r wsL_law_r25 [892, 893, 526, 527, 528, 529, 186, 183, 530, 531, 532, 533, 534, 536, 12, 537, 538, 539, 540, 541, 543, 13, 544, 80] (by decide +kernel) (by decide +kernel) w h).1
set_option maxRecDepth 20000 in
theorem in_wsL_law_r26 : ∀ w ∈ wsL_law_r26, w ∈ lw_tbl := fun w h => (goodIn_r wsL_law_r26 [74, 77, 545, 547, 14, 548, 894, 895, 896, 897, 898, 900, 33, 901, 902, 904, 34, 905, 906, 908, 35, 909, 550, 551] (by decide +kernel) (by decide +kernel) w h).1
set_option maxRecDepth 20000 in
theorem in_wsL_law_r27 : ∀ w ∈ wsL_law_r27, w ∈ lw_tbl := fun w h => (goodIn_r wsL_law_r27 [552, 553, 554, 555, 556, 557, 559, 910, 911, 912, 913, 560, 561, 562, 563, 564, 565, 566, 567, 568, 569, 570, 571, 572] (by decide +kernel) (by decide +kernel) w h).1
set_option maxRecDepth 20000 in
theorem in_wsL_law_r28 : ∀ w ∈ wsL_law_r28, w ∈ lw_tbl := fun w h => (goodIn_r wsL_law_r28 [573, 914, 915, 916, 917, 918, 919, 574, 575, 576, 577, 578, 579, 580, 581, 582, 584, 15, 585, 587, 589, 16, 590, 84] (by decide +kernel) (by decide +kernel) w h).1

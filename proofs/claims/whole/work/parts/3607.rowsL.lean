set_option maxRecDepth 20000 in
theorem in_wsL_law_r25 : ∀ w ∈ wsL_law_r25, w ∈ lw_tbl := fun w h => (goodIn_r wsL_law_r25 [888, 889, 890, 525, 526, 527, 528, 186, 183, 529, 530, 531, 532, 533, 535, 12, 536, 537, 538, 539, 540, 542, 13, 543] (by decide +kernel) (by decide +kernel) w h).1
set_option maxRecDepth 20000 in
theorem in_wsL_law_r26 : ∀ w ∈ wsL_law_r26, w ∈ lw_tbl := fun w h => (goodIn_r wsL_law_r26 [80, 74, 77, 544, 546, 14, 547, 891, 892, 893, 894, 895, 897, 33, 898, 899, 901, 34, 902, 903, 905, 35, 906, 548] (by decide +kernel) (by decide +kernel) w h).1
set_option maxRecDepth 20000 in
theorem in_wsL_law_r27 : ∀ w ∈ wsL_law_r27, w ∈ lw_tbl := fun w h => (goodIn_r wsL_law_r27 [549, 550, 551, 552, 553, 554, 555, 556, 907, 908, 909, 910, 557, 558, 559, 560, 561, 562, 563, 564, 565, 566, 567, 568] (by decide +kernel) (by decide +kernel) w h).1
set_option maxRecDepth 20000 in
theorem in_wsL_law_r28 : ∀ w ∈ wsL_law_r28, w ∈ lw_tbl := fun w h => (goodIn_r wsL_law_r28 [569, 570, 911, 912, 913, 914, 915, 916, 571, 572, 573, 574, 575, 576, 577, 578, 579, 581, 15, 582, 584, 586, 16, 587] (by decide +kernel) (by decide +kernel) w h).1

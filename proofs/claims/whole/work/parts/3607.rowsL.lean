set_option maxRecDepth 20000 in
theorem in_wsL_law_r25 : ∀ w ∈ wsL_law_r25, w ∈ lw_tbl := fun w h => (goodIn_r wsL_law_r25 [891, 892, 526, 527, 528, 529, 186, 183, 530, 531, 532, 533, 534, 536, 12, 537, 538, 539, 540, 541, 543, 13, 544, 80] (by decide +kernel) (by decide +kernel) w h).1
set_option maxRecDepth 20000 in
theorem in_wsL_law_r26 : ∀ w ∈ wsL_law_r26, w ∈ lw_tbl := fun w h => (goodIn_r wsL_law_r26 [74, 77, 545, 547, 14, 548, 893, 894, 895, 896, 897, 899, 33, 900, 901, 903, 34, 904, 905, 907, 35, 908, 550, 551] (by decide +kernel) (by decide +kernel) w h).1
set_option maxRecDepth 20000 in
theorem in_wsL_law_r27 : ∀ w ∈ wsL_law_r27, w ∈ lw_tbl := fun w h => (goodIn_r wsL_law_r27 [552, 553, 554, 555, 556, 557, 558, 909, 910, 911, 912, 559, 560, 561, 562, 563, 564, 565, 566, 567, 568, 569, 570, 571] (by decide +kernel) (by decide +kernel) w h).1
set_option maxRecDepth 20000 in
theorem in_wsL_law_r28 : ∀ w ∈ wsL_law_r28, w ∈ lw_tbl := fun w h => (goodIn_r wsL_law_r28 [572, 913, 914, 915, 916, 917, 918, 573, 574, 575, 576, 577, 578, 579, 580, 581, 583, 15, 584, 586, 588, 16, 589, 84] (by decide +kernel) (by decide +kernel) w h).1

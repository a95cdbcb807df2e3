set_option maxRecDepth 20000 in
theorem in_wsL_law_r9 : ∀ w ∈ wsL_law_r9, w ∈ lw_tbl := fun w h => (goodIn_r wsL_law_r9 [299, 301, 302, 303, 304, 305, 306, 757, 758, 759, 760, 761, 763, 19, 764, 765, 766, 767, 307, 308, 309, 310, 153, 151] (by decide +kernel) (by decide +kernel) w h).1
set_option maxRecDepth 20000 in
theorem in_wsL_law_r10 : ∀ w ∈ wsL_law_r10, w ∈ lw_tbl := fun w h => (goodIn_r wsL_law_r10 [311, 312, 313, 314, 133, 130, 86, 315, 316, 317, 318, 319, 321, 320, 46, 322, 323, 324, 325, 326, 327, 328, 329, 330] (by decide +kernel) (by decide +kernel) w h).1
set_option maxRecDepth 20000 in
theorem in_wsL_law_r11 : ∀ w ∈ wsL_law_r11, w ∈ lw_tbl := fun w h => (goodIn_r wsL_law_r11 [331, 332, 333, 335, 0, 336, 337, 339, 340, 342, 344, 1, 345, 346, 347, 348, 349, 350, 351, 352, 353, 354, 355, 356] (by decide +kernel) (by decide +kernel) w h).1
set_option maxRecDepth 20000 in
theorem in_wsL_law_r12 : ∀ w ∈ wsL_law_r12, w ∈ lw_tbl := fun w h => (goodIn_r wsL_law_r12 [357, 359, 360, 361, 362, 363, 364, 365, 367, 2, 368, 369, 370, 371, 372, 768, 769, 770, 771, 664, 772, 774, 20, 775] (by decide +kernel) (by decide +kernel) w h).1

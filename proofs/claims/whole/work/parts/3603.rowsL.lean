set_option maxRecDepth 20000 in
theorem in_wsL_law_r9 : ∀ w ∈ wsL_law_r9, w ∈ lw_tbl := fun w h => (goodIn_r wsL_law_r9 [300, 301, 302, 303, 304, 305, 306, 307, 754, 755, 756, 757, 758, 760, 19, 761, 762, 763, 764, 308, 309, 310, 311, 153] (by decide +kernel) (by decide +kernel) w h).1
set_option maxRecDepth 20000 in
theorem in_wsL_law_r10 : ∀ w ∈ wsL_law_r10, w ∈ lw_tbl := fun w h => (goodIn_r wsL_law_r10 [151, 312, 313, 314, 315, 133, 130, 86, 316, 317, 318, 319, 320, 322, 321, 46, 323, 324, 325, 326, 327, 328, 329, 330] (by decide +kernel) (by decide +kernel) w h).1
set_option maxRecDepth 20000 in
theorem in_wsL_law_r11 : ∀ w ∈ wsL_law_r11, w ∈ lw_tbl := fun w h => (goodIn_r wsL_law_r11 [331, 332, 333, 335, 0, 336, 337, 339, 340, 341, 343, 1, 344, 345, 346, 347, 348, 349, 350, 351, 352, 353, 354, 355] (by decide +kernel) (by decide +kernel) w h).1
set_option maxRecDepth 20000 in
theorem in_wsL_law_r12 : ∀ w ∈ wsL_law_r12, w ∈ lw_tbl := fun w h => (goodIn_r wsL_law_r12 [356, 358, 359, 360, 361, 362, 363, 364, 366, 2, 367, 368, 369, 370, 371, 372, 765, 766, 767, 768, 661, 769, 771, 20] (by decide +kernel) (by decide +kernel) w h).1

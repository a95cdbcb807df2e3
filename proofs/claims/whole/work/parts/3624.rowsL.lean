set_option maxRecDepth 20000 in
theorem ggL_law_X6_wish : GoodIn wsL_law wsX6_wish := goodIn_r _ [464, 465, 466, 467, 2, 468, 119, 120, 121, 381, 382, 383, 469, 470, 471, 472, 15, 473, 474, 475, 426, 476, 477, 478, 479, 14, 480, 247, 248, 246, 138, 139, 140, 48, 384, 385, 386, 387, 28, 388, 389, 390, 27, 391, 75, 392, 393, 262, 263, 264, 49, 394, 258, 259, 260, 50, 57, 58, 46, 47, 261, 265, 266, 395, 396, 397, 398, 399, 400, 401, 402, 403, 404, 405, 406, 407, 408, 746, 747, 748, 749, 750, 751, 752, 753, 754, 755, 756, 787, 788, 789, 790, 791, 792, 793, 794, 795, 796, 797, 798, 799, 806] (by decide +kernel) (by decide +kernel)
set_option maxRecDepth 20000 in
theorem gL_law_X6_wish : GoodIn wsL_law (wsV RL 78 RX6 yX6_wish wsX6_wish) := goodIn_app (goodIn_of _ (by decide +kernel)) ggL_law_X6_wish
set_option maxRecDepth 20000 in
theorem ggL_law_X7_wish : GoodIn wsL_law wsX7_wish := goodIn_r _ [484, 485, 486, 126, 127, 5, 128, 413, 414, 415, 294, 295, 296, 297, 101, 97, 102, 98, 103, 94, 298, 290, 299, 291, 300, 293, 301, 292, 322, 323, 324, 325, 326, 327, 328, 95, 416, 417, 418, 419, 314, 315, 316, 317, 310, 311, 312, 313, 93, 487, 488, 489, 757, 758, 759, 760, 761, 762, 763, 764, 765, 766, 767, 768, 769, 770, 771, 772, 773, 774, 775, 776, 777, 778, 779, 780, 781, 782, 783, 784, 785, 786] (by decide +kernel) (by decide +kernel)
set_option maxRecDepth 20000 in
theorem gL_law_X7_wish : GoodIn wsL_law (wsV RL 81 RX7 yX7_wish wsX7_wish) := goodIn_app (goodIn_of _ (by decide +kernel)) ggL_law_X7_wish
set_option maxRecDepth 20000 in
theorem ggL_law_X6_whiten : GoodIn wsL_law wsX6_whiten := goodIn_r _ [493, 381, 382, 2, 383, 119, 120, 121, 150, 151, 152, 494, 495, 496, 497, 498, 499, 500, 501, 502, 503, 504, 16, 15, 114, 28, 338, 224, 225, 14, 226, 46, 227, 228, 229, 230, 47, 48, 49, 50, 51, 52, 53, 54, 55, 56, 57, 58, 505, 247, 248, 388, 389, 390, 27, 391, 75, 392, 393, 262, 263, 264, 394, 258, 259, 260, 261, 265, 266, 395, 396, 397, 398, 399, 400, 401, 402, 403, 404, 506, 507, 508, 509, 510, 425, 426, 427, 432, 406, 407, 408, 746, 747, 748, 749, 750, 751, 752, 753, 754, 755, 756, 787, 788, 789, 790, 791, 792, 793, 794, 795, 796, 797, 798, 799, 806] (by decide +kernel) (by decide +kernel)
set_option maxRecDepth 20000 in
theorem gL_law_X6_whiten : GoodIn wsL_law (wsV RL 82 RX6 yX6_whiten wsX6_whiten) := goodIn_app (goodIn_of _ (by decide +kernel)) ggL_law_X6_whiten
set_option maxRecDepth 20000 in
theorem ggL_law_X7_whiten : GoodIn wsL_law wsX7_whiten := goodIn_r _ [514, 103, 413, 414, 5, 415, 126, 127, 128, 515, 516, 517, 294, 295, 296, 297, 101, 97, 102, 98, 94, 298, 290, 299, 291, 300, 293, 301, 292, 322, 323, 324, 310, 311, 312, 313, 93, 314, 315, 316, 317, 757, 758, 759, 760, 761, 762, 763, 764, 765, 766, 767, 768, 769, 770, 771, 772, 773, 774, 775, 776, 777, 778, 779, 780, 781, 782, 783, 784, 785, 786] (by decide +kernel) (by decide +kernel)
set_option maxRecDepth 20000 in
theorem gL_law_X7_whiten : GoodIn wsL_law (wsV RL 85 RX7 yX7_whiten wsX7_whiten) := goodIn_app (goodIn_of _ (by decide +kernel)) ggL_law_X7_whiten
set_option maxRecDepth 20000 in
theorem ggL_law_X6_apart : GoodIn wsL_law wsX6_apart := goodIn_r _ [521, 466, 467, 2, 468, 119, 120, 121, 381, 382, 383, 522, 523, 524, 525, 42, 15, 137, 138, 139, 14, 140, 48, 526, 527, 528, 529, 28, 530, 531, 532, 27, 533, 75, 265, 266, 395, 396, 397, 398, 247, 248, 399, 400, 401, 402, 403, 404, 405, 406, 407, 408, 505, 534, 535, 536, 537, 746, 747, 748, 749, 750, 751, 752, 753, 754, 755, 756, 787, 788, 789, 790, 791, 792, 793, 794, 795, 796, 797, 798, 799, 806] (by decide +kernel) (by decide +kernel)
set_option maxRecDepth 20000 in
theorem gL_law_X6_apart : GoodIn wsL_law (wsV RL 86 RX6 yX6_apart wsX6_apart) := goodIn_app (goodIn_of _ (by decide +kernel)) ggL_law_X6_apart
set_option maxRecDepth 20000 in
theorem ggL_law_X7_apart : GoodIn wsL_law wsX7_apart := goodIn_r _ [541, 104, 126, 127, 5, 128, 413, 414, 415, 542, 543, 544, 545, 101, 102, 290, 291, 294, 295, 296, 297, 97, 98, 103, 94, 298, 299, 300, 293, 301, 292, 325, 326, 327, 328, 95, 416, 417, 418, 419, 314, 315, 316, 317, 310, 311, 312, 313, 93, 322, 323, 324, 757, 758, 759, 760, 761, 762, 763, 764, 765, 766, 767, 768, 769, 770, 771, 772, 773, 774, 775, 776, 777, 778, 779, 780, 781, 782, 783, 784, 785, 786] (by decide +kernel) (by decide +kernel)
set_option maxRecDepth 20000 in
theorem gL_law_X7_apart : GoodIn wsL_law (wsV RL 89 RX7 yX7_apart wsX7_apart) := goodIn_app (goodIn_of _ (by decide +kernel)) ggL_law_X7_apart
set_option maxRecDepth 20000 in
theorem ggL_law_X6_spoil : GoodIn wsL_law wsX6_spoil := goodIn_r _ [549, 15, 134, 135, 2, 136, 119, 120, 121, 381, 382, 383, 137, 138, 139, 14, 140, 48, 526, 527, 528, 529, 28, 530, 531, 532, 27, 533, 75, 265, 266, 395, 396, 397, 398, 247, 248, 399, 400, 401, 402, 403, 404, 405, 406, 407, 408, 746, 747, 748, 749, 750, 751, 752, 753, 754, 755, 756, 787, 788, 789, 790, 791, 792, 793, 794, 795, 796, 797, 798, 799, 806] (by decide +kernel) (by decide +kernel)
set_option maxRecDepth 20000 in
theorem gL_law_X6_spoil : GoodIn wsL_law (wsV RL 90 RX6 yX6_spoil wsX6_spoil) := goodIn_app (goodIn_of _ (by decide +kernel)) ggL_law_X6_spoil
set_option maxRecDepth 20000 in
theorem ggL_law_X7_spoil : GoodIn wsL_law wsX7_spoil := goodIn_r _ [553, 126, 127, 5, 128, 413, 414, 415, 554, 555, 556, 557, 542, 543, 544, 545, 101, 102, 290, 291, 294, 295, 296, 297, 97, 98, 103, 94, 298, 299, 300, 293, 301, 292, 325, 326, 327, 328, 95, 416, 417, 418, 419, 314, 315, 316, 317, 310, 311, 312, 313, 93, 437, 438, 439, 440, 757, 758, 759, 760, 761, 762, 763, 764, 765, 766, 767, 768, 769, 770, 771, 772, 773, 774, 775, 776, 777, 778, 779, 780, 781, 782, 783, 784, 785, 786] (by decide +kernel) (by decide +kernel)
set_option maxRecDepth 20000 in
theorem gL_law_X7_spoil : GoodIn wsL_law (wsV RL 93 RX7 yX7_spoil wsX7_spoil) := goodIn_app (goodIn_of _ (by decide +kernel)) ggL_law_X7_spoil

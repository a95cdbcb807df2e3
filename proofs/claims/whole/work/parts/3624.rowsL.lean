set_option maxRecDepth 20000 in
theorem ggL_law_X6_wish : GoodIn wsL_law wsX6_wish := goodIn_r _ [465, 466, 467, 468, 2, 469, 116, 117, 118, 382, 383, 384, 470, 471, 472, 473, 15, 474, 475, 476, 427, 477, 478, 479, 480, 14, 481, 247, 248, 246, 135, 136, 137, 48, 385, 386, 387, 388, 28, 389, 390, 391, 27, 392, 75, 393, 394, 262, 263, 264, 49, 395, 258, 259, 260, 50, 57, 58, 46, 47, 261, 265, 266, 396, 397, 398, 399, 400, 401, 402, 403, 404, 405, 406, 407, 408, 409, 747, 748, 749, 750, 751, 752, 753, 754, 755, 756, 757, 788, 789, 790, 791, 792, 793, 794, 795, 796, 797, 798, 799, 800, 807] (by decide +kernel) (by decide +kernel)
set_option maxRecDepth 20000 in
theorem gL_law_X6_wish : GoodIn wsL_law (wsV RL 78 RX6 yX6_wish wsX6_wish) := goodIn_app (goodIn_of _ (by decide +kernel)) ggL_law_X6_wish
set_option maxRecDepth 20000 in
theorem ggL_law_X7_wish : GoodIn wsL_law wsX7_wish := goodIn_r _ [485, 486, 487, 123, 124, 5, 125, 414, 415, 416, 295, 296, 297, 298, 101, 97, 102, 98, 103, 94, 299, 291, 300, 292, 301, 294, 302, 293, 323, 324, 325, 326, 327, 328, 329, 95, 417, 418, 419, 420, 315, 316, 317, 318, 311, 312, 313, 314, 93, 488, 489, 490, 758, 759, 760, 761, 762, 763, 764, 765, 766, 767, 768, 769, 770, 771, 772, 773, 774, 775, 776, 777, 778, 779, 780, 781, 782, 783, 784, 785, 786, 787] (by decide +kernel) (by decide +kernel)
set_option maxRecDepth 20000 in
theorem gL_law_X7_wish : GoodIn wsL_law (wsV RL 81 RX7 yX7_wish wsX7_wish) := goodIn_app (goodIn_of _ (by decide +kernel)) ggL_law_X7_wish
set_option maxRecDepth 20000 in
theorem ggL_law_X6_whiten : GoodIn wsL_law wsX6_whiten := goodIn_r _ [494, 382, 383, 2, 384, 116, 117, 118, 147, 148, 149, 495, 496, 497, 498, 499, 500, 501, 502, 503, 504, 505, 16, 15, 114, 28, 339, 225, 226, 14, 227, 46, 228, 229, 230, 231, 47, 48, 49, 50, 51, 52, 53, 54, 55, 56, 57, 58, 506, 247, 248, 389, 390, 391, 27, 392, 75, 393, 394, 262, 263, 264, 395, 258, 259, 260, 261, 265, 266, 396, 397, 398, 399, 400, 401, 402, 403, 404, 405, 507, 508, 509, 510, 511, 426, 427, 428, 433, 407, 408, 409, 747, 748, 749, 750, 751, 752, 753, 754, 755, 756, 757, 788, 789, 790, 791, 792, 793, 794, 795, 796, 797, 798, 799, 800, 807] (by decide +kernel) (by decide +kernel)
set_option maxRecDepth 20000 in
theorem gL_law_X6_whiten : GoodIn wsL_law (wsV RL 82 RX6 yX6_whiten wsX6_whiten) := goodIn_app (goodIn_of _ (by decide +kernel)) ggL_law_X6_whiten
set_option maxRecDepth 20000 in
theorem ggL_law_X7_whiten : GoodIn wsL_law wsX7_whiten := goodIn_r _ [515, 103, 414, 415, 5, 416, 123, 124, 125, 516, 517, 518, 295, 296, 297, 298, 101, 97, 102, 98, 94, 299, 291, 300, 292, 301, 294, 302, 293, 323, 324, 325, 311, 312, 313, 314, 93, 315, 316, 317, 318, 758, 759, 760, 761, 762, 763, 764, 765, 766, 767, 768, 769, 770, 771, 772, 773, 774, 775, 776, 777, 778, 779, 780, 781, 782, 783, 784, 785, 786, 787] (by decide +kernel) (by decide +kernel)
set_option maxRecDepth 20000 in
theorem gL_law_X7_whiten : GoodIn wsL_law (wsV RL 85 RX7 yX7_whiten wsX7_whiten) := goodIn_app (goodIn_of _ (by decide +kernel)) ggL_law_X7_whiten
set_option maxRecDepth 20000 in
theorem ggL_law_X6_apart : GoodIn wsL_law wsX6_apart := goodIn_r _ [522, 467, 468, 2, 469, 116, 117, 118, 382, 383, 384, 523, 524, 525, 526, 42, 15, 134, 135, 136, 14, 137, 48, 527, 528, 529, 530, 28, 531, 532, 533, 27, 534, 75, 265, 266, 396, 397, 398, 399, 247, 248, 400, 401, 402, 403, 404, 405, 406, 407, 408, 409, 506, 535, 536, 537, 538, 747, 748, 749, 750, 751, 752, 753, 754, 755, 756, 757, 788, 789, 790, 791, 792, 793, 794, 795, 796, 797, 798, 799, 800, 807] (by decide +kernel) (by decide +kernel)
set_option maxRecDepth 20000 in
theorem gL_law_X6_apart : GoodIn wsL_law (wsV RL 86 RX6 yX6_apart wsX6_apart) := goodIn_app (goodIn_of _ (by decide +kernel)) ggL_law_X6_apart
set_option maxRecDepth 20000 in
theorem ggL_law_X7_apart : GoodIn wsL_law wsX7_apart := goodIn_r _ [542, 104, 123, 124, 5, 125, 414, 415, 416, 543, 544, 545, 546, 101, 102, 291, 292, 295, 296, 297, 298, 97, 98, 103, 94, 299, 300, 301, 294, 302, 293, 326, 327, 328, 329, 95, 417, 418, 419, 420, 315, 316, 317, 318, 311, 312, 313, 314, 93, 323, 324, 325, 758, 759, 760, 761, 762, 763, 764, 765, 766, 767, 768, 769, 770, 771, 772, 773, 774, 775, 776, 777, 778, 779, 780, 781, 782, 783, 784, 785, 786, 787] (by decide +kernel) (by decide +kernel)
set_option maxRecDepth 20000 in
theorem gL_law_X7_apart : GoodIn wsL_law (wsV RL 89 RX7 yX7_apart wsX7_apart) := goodIn_app (goodIn_of _ (by decide +kernel)) ggL_law_X7_apart
set_option maxRecDepth 20000 in
theorem ggL_law_X6_spoil : GoodIn wsL_law wsX6_spoil := goodIn_r _ [550, 15, 131, 132, 2, 133, 116, 117, 118, 382, 383, 384, 134, 135, 136, 14, 137, 48, 527, 528, 529, 530, 28, 531, 532, 533, 27, 534, 75, 265, 266, 396, 397, 398, 399, 247, 248, 400, 401, 402, 403, 404, 405, 406, 407, 408, 409, 747, 748, 749, 750, 751, 752, 753, 754, 755, 756, 757, 788, 789, 790, 791, 792, 793, 794, 795, 796, 797, 798, 799, 800, 807] (by decide +kernel) (by decide +kernel)
set_option maxRecDepth 20000 in
theorem gL_law_X6_spoil : GoodIn wsL_law (wsV RL 90 RX6 yX6_spoil wsX6_spoil) := goodIn_app (goodIn_of _ (by decide +kernel)) ggL_law_X6_spoil
set_option maxRecDepth 20000 in
theorem ggL_law_X7_spoil : GoodIn wsL_law wsX7_spoil := goodIn_r _ [554, 123, 124, 5, 125, 414, 415, 416, 555, 556, 557, 558, 543, 544, 545, 546, 101, 102, 291, 292, 295, 296, 297, 298, 97, 98, 103, 94, 299, 300, 301, 294, 302, 293, 326, 327, 328, 329, 95, 417, 418, 419, 420, 315, 316, 317, 318, 311, 312, 313, 314, 93, 438, 439, 440, 441, 758, 759, 760, 761, 762, 763, 764, 765, 766, 767, 768, 769, 770, 771, 772, 773, 774, 775, 776, 777, 778, 779, 780, 781, 782, 783, 784, 785, 786, 787] (by decide +kernel) (by decide +kernel)
set_option maxRecDepth 20000 in
theorem gL_law_X7_spoil : GoodIn wsL_law (wsV RL 93 RX7 yX7_spoil wsX7_spoil) := goodIn_app (goodIn_of _ (by decide +kernel)) ggL_law_X7_spoil

set_option maxRecDepth 20000 in
theorem ggL_law_X6_forecast : GoodIn wsL_law wsX6_forecast := goodIn_r _ [381, 371, 372, 2, 373, 116, 117, 118, 382, 383, 384, 385, 386, 387, 388, 28, 15, 389, 390, 391, 27, 392, 75, 393, 394, 262, 263, 14, 264, 49, 395, 258, 259, 260, 50, 57, 58, 46, 47, 261, 265, 266, 396, 397, 398, 399, 247, 248, 400, 401, 402, 403, 404, 405, 406, 407, 408, 409, 747, 748, 749, 750, 751, 752, 753, 754, 755, 756, 757, 807, 788, 789, 790, 791, 792, 793, 794, 795, 796, 797, 798, 799, 800] (by decide +kernel) (by decide +kernel)
set_option maxRecDepth 20000 in
theorem gL_law_X6_forecast : GoodIn wsL_law (wsV RL 61 RX6 yX6_forecast wsX6_forecast) := goodIn_app (goodIn_of _ (by decide +kernel)) ggL_law_X6_forecast
set_option maxRecDepth 20000 in
theorem ggL_law_X7_forecast : GoodIn wsL_law wsX7_forecast := goodIn_r _ [413, 123, 124, 5, 125, 414, 415, 416, 295, 296, 297, 298, 101, 97, 102, 98, 103, 94, 299, 291, 300, 292, 301, 294, 302, 293, 417, 418, 419, 420, 315, 316, 317, 318, 311, 312, 313, 314, 93, 758, 759, 760, 761, 762, 763, 764, 765, 766, 767, 768, 769, 770, 771, 772, 773, 774, 775, 776, 777, 778, 779, 780, 781, 782, 783, 784, 785, 786, 787] (by decide +kernel) (by decide +kernel)
set_option maxRecDepth 20000 in
theorem gL_law_X7_forecast : GoodIn wsL_law (wsV RL 65 RX7 yX7_forecast wsX7_forecast) := goodIn_app (goodIn_of _ (by decide +kernel)) ggL_law_X7_forecast
set_option maxRecDepth 20000 in
theorem ggL_law_X6_gone : GoodIn wsL_law wsX6_gone := goodIn_r _ [424, 28, 15, 425, 426, 427, 428, 389, 390, 391, 27, 392, 75, 393, 394, 262, 263, 14, 264, 49, 395, 258, 259, 260, 50, 57, 58, 46, 47, 261, 265, 2, 266, 396, 397, 398, 399, 247, 248, 400, 401, 402, 403, 404, 405, 429, 430, 431, 432, 433, 407, 408, 409, 747, 748, 749, 750, 751, 752, 753, 754, 755, 756, 757, 807, 788, 789, 790, 791, 792, 793, 794, 795, 796, 797, 798, 799, 800] (by decide +kernel) (by decide +kernel)
set_option maxRecDepth 20000 in
theorem gL_law_X6_gone : GoodIn wsL_law (wsV RL 66 RX6 yX6_gone wsX6_gone) := goodIn_app (goodIn_of _ (by decide +kernel)) ggL_law_X6_gone
set_option maxRecDepth 20000 in
theorem ggL_law_X7_gone : GoodIn wsL_law wsX7_gone := goodIn_r _ [437, 295, 296, 297, 5, 298, 101, 97, 102, 98, 103, 94, 299, 291, 300, 292, 301, 294, 302, 293, 438, 439, 440, 441, 311, 312, 313, 314, 93, 315, 316, 317, 318, 758, 759, 760, 761, 762, 763, 764, 765, 766, 767, 768, 769, 770, 771, 772, 773, 774, 775, 776, 777, 778, 779, 780, 781, 782, 783, 784, 785, 786, 787] (by decide +kernel) (by decide +kernel)
set_option maxRecDepth 20000 in
theorem gL_law_X7_gone : GoodIn wsL_law (wsV RL 69 RX7 yX7_gone wsX7_gone) := goodIn_app (goodIn_of _ (by decide +kernel)) ggL_law_X7_gone
set_option maxRecDepth 20000 in
theorem ggL_law_X6_hue : GoodIn wsL_law wsX6_hue := goodIn_r _ [445, 382, 383, 2, 384, 116, 117, 118, 385, 386, 387, 388, 28, 15, 389, 390, 391, 27, 392, 75, 393, 394, 262, 263, 14, 264, 49, 395, 258, 259, 260, 50, 57, 58, 46, 47, 261, 265, 266, 396, 397, 398, 399, 247, 248, 400, 401, 402, 403, 404, 405, 406, 407, 408, 409, 747, 748, 749, 750, 751, 752, 753, 754, 755, 756, 757, 807, 788, 789, 790, 791, 792, 793, 794, 795, 796, 797, 798, 799, 800] (by decide +kernel) (by decide +kernel)
set_option maxRecDepth 20000 in
theorem gL_law_X6_hue : GoodIn wsL_law (wsV RL 70 RX6 yX6_hue wsX6_hue) := goodIn_app (goodIn_of _ (by decide +kernel)) ggL_law_X6_hue
set_option maxRecDepth 20000 in
theorem ggL_law_X7_hue : GoodIn wsL_law wsX7_hue := goodIn_r _ [449, 414, 415, 5, 416, 123, 124, 125, 295, 296, 297, 298, 101, 97, 102, 98, 103, 94, 299, 291, 300, 292, 301, 294, 302, 293, 417, 418, 419, 420, 315, 316, 317, 318, 311, 312, 313, 314, 93, 758, 759, 760, 761, 762, 763, 764, 765, 766, 767, 768, 769, 770, 771, 772, 773, 774, 775, 776, 777, 778, 779, 780, 781, 782, 783, 784, 785, 786, 787] (by decide +kernel) (by decide +kernel)
set_option maxRecDepth 20000 in
theorem gL_law_X7_hue : GoodIn wsL_law (wsV RL 73 RX7 yX7_hue wsX7_hue) := goodIn_app (goodIn_of _ (by decide +kernel)) ggL_law_X7_hue
set_option maxRecDepth 20000 in
theorem ggL_law_X6_make : GoodIn wsL_law wsX6_make := goodIn_r _ [453, 371, 372, 2, 373, 116, 117, 118, 382, 383, 384, 147, 148, 149, 454, 455, 456, 457, 385, 386, 387, 388, 28, 15, 389, 390, 391, 27, 392, 75, 393, 394, 262, 263, 14, 264, 49, 395, 258, 259, 260, 50, 57, 58, 46, 47, 261, 265, 266, 396, 397, 398, 399, 247, 248, 400, 401, 402, 403, 404, 405, 406, 407, 408, 409, 747, 748, 749, 750, 751, 752, 753, 754, 755, 756, 757, 807, 788, 789, 790, 791, 792, 793, 794, 795, 796, 797, 798, 799, 800] (by decide +kernel) (by decide +kernel)
set_option maxRecDepth 20000 in
theorem gL_law_X6_make : GoodIn wsL_law (wsV RL 74 RX6 yX6_make wsX6_make) := goodIn_app (goodIn_of _ (by decide +kernel)) ggL_law_X6_make
set_option maxRecDepth 20000 in
theorem ggL_law_X7_make : GoodIn wsL_law wsX7_make := goodIn_r _ [461, 101, 123, 124, 5, 125, 414, 415, 416, 295, 296, 297, 298, 97, 102, 98, 103, 94, 299, 291, 300, 292, 301, 294, 302, 293, 417, 418, 419, 420, 315, 316, 317, 318, 311, 312, 313, 314, 93, 758, 759, 760, 761, 762, 763, 764, 765, 766, 767, 768, 769, 770, 771, 772, 773, 774, 775, 776, 777, 778, 779, 780, 781, 782, 783, 784, 785, 786, 787] (by decide +kernel) (by decide +kernel)
set_option maxRecDepth 20000 in
theorem gL_law_X7_make : GoodIn wsL_law (wsV RL 77 RX7 yX7_make wsX7_make) := goodIn_app (goodIn_of _ (by decide +kernel)) ggL_law_X7_make

set_option maxRecDepth 20000 in
theorem ggL_law_X6_forecast : GoodIn wsL_law wsX6_forecast := goodIn_r _ [380, 370, 371, 2, 372, 119, 120, 121, 381, 382, 383, 384, 385, 386, 387, 28, 15, 388, 389, 390, 27, 391, 75, 392, 393, 262, 263, 14, 264, 49, 394, 258, 259, 260, 50, 57, 58, 46, 47, 261, 265, 266, 395, 396, 397, 398, 247, 248, 399, 400, 401, 402, 403, 404, 405, 406, 407, 408, 746, 747, 748, 749, 750, 751, 752, 753, 754, 755, 756, 806, 787, 788, 789, 790, 791, 792, 793, 794, 795, 796, 797, 798, 799] (by decide +kernel) (by decide +kernel)
set_option maxRecDepth 20000 in
theorem gL_law_X6_forecast : GoodIn wsL_law (wsV RL 61 RX6 yX6_forecast wsX6_forecast) := goodIn_app (goodIn_of _ (by decide +kernel)) ggL_law_X6_forecast
set_option maxRecDepth 20000 in
theorem ggL_law_X7_forecast : GoodIn wsL_law wsX7_forecast := goodIn_r _ [412, 126, 127, 5, 128, 413, 414, 415, 294, 295, 296, 297, 101, 97, 102, 98, 103, 94, 298, 290, 299, 291, 300, 293, 301, 292, 416, 417, 418, 419, 314, 315, 316, 317, 310, 311, 312, 313, 93, 757, 758, 759, 760, 761, 762, 763, 764, 765, 766, 767, 768, 769, 770, 771, 772, 773, 774, 775, 776, 777, 778, 779, 780, 781, 782, 783, 784, 785, 786] (by decide +kernel) (by decide +kernel)
set_option maxRecDepth 20000 in
theorem gL_law_X7_forecast : GoodIn wsL_law (wsV RL 65 RX7 yX7_forecast wsX7_forecast) := goodIn_app (goodIn_of _ (by decide +kernel)) ggL_law_X7_forecast
set_option maxRecDepth 20000 in
theorem ggL_law_X6_gone : GoodIn wsL_law wsX6_gone := goodIn_r _ [423, 28, 15, 424, 425, 426, 427, 388, 389, 390, 27, 391, 75, 392, 393, 262, 263, 14, 264, 49, 394, 258, 259, 260, 50, 57, 58, 46, 47, 261, 265, 2, 266, 395, 396, 397, 398, 247, 248, 399, 400, 401, 402, 403, 404, 428, 429, 430, 431, 432, 406, 407, 408, 382, 383, 119, 120, 121, 746, 747, 748, 749, 750, 751, 752, 753, 754, 755, 756, 806, 787, 788, 789, 790, 791, 792, 793, 794, 795, 796, 797, 798, 799] (by decide +kernel) (by decide +kernel)
set_option maxRecDepth 20000 in
theorem gL_law_X6_gone : GoodIn wsL_law (wsV RL 66 RX6 yX6_gone wsX6_gone) := goodIn_app (goodIn_of _ (by decide +kernel)) ggL_law_X6_gone
set_option maxRecDepth 20000 in
theorem ggL_law_X7_gone : GoodIn wsL_law wsX7_gone := goodIn_r _ [436, 294, 295, 296, 5, 297, 101, 97, 102, 98, 103, 94, 298, 290, 299, 291, 300, 293, 301, 292, 437, 438, 439, 440, 310, 311, 312, 313, 93, 314, 315, 316, 317, 757, 758, 759, 760, 761, 762, 763, 764, 765, 766, 767, 768, 769, 770, 771, 772, 773, 774, 775, 776, 777, 778, 779, 780, 781, 782, 783, 784, 785, 786] (by decide +kernel) (by decide +kernel)
set_option maxRecDepth 20000 in
theorem gL_law_X7_gone : GoodIn wsL_law (wsV RL 69 RX7 yX7_gone wsX7_gone) := goodIn_app (goodIn_of _ (by decide +kernel)) ggL_law_X7_gone
set_option maxRecDepth 20000 in
theorem ggL_law_X6_hue : GoodIn wsL_law wsX6_hue := goodIn_r _ [444, 381, 382, 2, 383, 119, 120, 121, 384, 385, 386, 387, 28, 15, 388, 389, 390, 27, 391, 75, 392, 393, 262, 263, 14, 264, 49, 394, 258, 259, 260, 50, 57, 58, 46, 47, 261, 265, 266, 395, 396, 397, 398, 247, 248, 399, 400, 401, 402, 403, 404, 405, 406, 407, 408, 746, 747, 748, 749, 750, 751, 752, 753, 754, 755, 756, 806, 787, 788, 789, 790, 791, 792, 793, 794, 795, 796, 797, 798, 799] (by decide +kernel) (by decide +kernel)
set_option maxRecDepth 20000 in
theorem gL_law_X6_hue : GoodIn wsL_law (wsV RL 70 RX6 yX6_hue wsX6_hue) := goodIn_app (goodIn_of _ (by decide +kernel)) ggL_law_X6_hue
set_option maxRecDepth 20000 in
theorem ggL_law_X7_hue : GoodIn wsL_law wsX7_hue := goodIn_r _ [448, 413, 414, 5, 415, 126, 127, 128, 294, 295, 296, 297, 101, 97, 102, 98, 103, 94, 298, 290, 299, 291, 300, 293, 301, 292, 416, 417, 418, 419, 314, 315, 316, 317, 310, 311, 312, 313, 93, 757, 758, 759, 760, 761, 762, 763, 764, 765, 766, 767, 768, 769, 770, 771, 772, 773, 774, 775, 776, 777, 778, 779, 780, 781, 782, 783, 784, 785, 786] (by decide +kernel) (by decide +kernel)
set_option maxRecDepth 20000 in
theorem gL_law_X7_hue : GoodIn wsL_law (wsV RL 73 RX7 yX7_hue wsX7_hue) := goodIn_app (goodIn_of _ (by decide +kernel)) ggL_law_X7_hue
set_option maxRecDepth 20000 in
theorem ggL_law_X6_make : GoodIn wsL_law wsX6_make := goodIn_r _ [452, 370, 371, 2, 372, 119, 120, 121, 381, 382, 383, 150, 151, 152, 453, 454, 455, 456, 384, 385, 386, 387, 28, 15, 388, 389, 390, 27, 391, 75, 392, 393, 262, 263, 14, 264, 49, 394, 258, 259, 260, 50, 57, 58, 46, 47, 261, 265, 266, 395, 396, 397, 398, 247, 248, 399, 400, 401, 402, 403, 404, 405, 406, 407, 408, 746, 747, 748, 749, 750, 751, 752, 753, 754, 755, 756, 806, 787, 788, 789, 790, 791, 792, 793, 794, 795, 796, 797, 798, 799] (by decide +kernel) (by decide +kernel)
set_option maxRecDepth 20000 in
theorem gL_law_X6_make : GoodIn wsL_law (wsV RL 74 RX6 yX6_make wsX6_make) := goodIn_app (goodIn_of _ (by decide +kernel)) ggL_law_X6_make
set_option maxRecDepth 20000 in
theorem ggL_law_X7_make : GoodIn wsL_law wsX7_make := goodIn_r _ [460, 101, 126, 127, 5, 128, 413, 414, 415, 294, 295, 296, 297, 97, 102, 98, 103, 94, 298, 290, 299, 291, 300, 293, 301, 292, 416, 417, 418, 419, 314, 315, 316, 317, 310, 311, 312, 313, 93, 757, 758, 759, 760, 761, 762, 763, 764, 765, 766, 767, 768, 769, 770, 771, 772, 773, 774, 775, 776, 777, 778, 779, 780, 781, 782, 783, 784, 785, 786] (by decide +kernel) (by decide +kernel)
set_option maxRecDepth 20000 in
theorem gL_law_X7_make : GoodIn wsL_law (wsV RL 77 RX7 yX7_make wsX7_make) := goodIn_app (goodIn_of _ (by decide +kernel)) ggL_law_X7_make

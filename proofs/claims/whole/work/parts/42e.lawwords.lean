set_option maxRecDepth 20000 in
theorem ggL_law_X5_twice : GoodIn wsL_law wsX5_twice := goodIn_r _ [688, 218, 151, 2, 152, 103, 104, 105, 689, 690, 691, 692, 469, 470, 471, 472, 25, 24, 473, 474, 475, 23, 476, 59, 199, 200, 201, 202, 60, 62, 63, 64, 306, 307, 308, 309, 65, 310, 311, 312, 313, 314, 315, 316, 317, 318, 319, 320, 321, 322, 323, 324, 325, 232, 233, 234, 235, 236, 237, 238, 19, 239, 53, 326, 259, 260, 261, 49, 327, 271, 272, 273, 274, 263, 264, 265, 50, 275, 267, 268, 269, 328, 329, 330, 331, 332, 333, 334, 335, 336, 337, 338, 339, 340, 341, 61, 223, 224, 225, 226, 227, 220, 221, 222, 419, 420, 421, 422, 423, 424, 425, 552, 553, 554, 638, 639, 640, 641, 642, 643, 548, 549, 550, 644, 645, 646, 752, 753, 754, 755, 756, 757, 758, 759, 760, 798, 799, 800, 801, 802, 803, 804, 790, 791, 792, 793, 794, 795, 796, 797] (by decide +kernel) (by decide +kernel)
set_option maxRecDepth 20000 in
theorem gL_law_X5_twice : GoodIn wsL_law (wsV RL 113 RX5 yX5_twice wsX5_twice) := goodIn_app (goodIn_of _ (by decide +kernel)) ggL_law_X5_twice
set_option maxRecDepth 20000 in
theorem ggL_law_X6_twice : GoodIn wsL_law wsX6_twice := goodIn_r _ [696, 697, 698, 87, 244, 245, 5, 246, 247, 116, 117, 118, 482, 483, 484, 485, 288, 289, 290, 355, 356, 357, 358, 212, 85, 86, 211, 359, 360, 361, 362, 363, 364, 365, 366, 92, 83, 284, 285, 286, 287, 84, 367, 368, 369, 370, 371, 372, 373, 374, 658, 659, 660, 761, 762, 763, 764, 765, 766, 767, 768, 769, 770, 771, 772, 773, 774, 775, 776, 777, 778, 779, 780, 781, 782, 783, 784, 785, 786, 787] (by decide +kernel) (by decide +kernel)
set_option maxRecDepth 20000 in
theorem gL_law_X6_twice : GoodIn wsL_law (wsV RL 117 RX6 yX6_twice wsX6_twice) := goodIn_app (goodIn_of _ (by decide +kernel)) ggL_law_X6_twice
set_option maxRecDepth 20000 in
theorem ggL_law_X5_seed : GoodIn wsL_law wsX5_seed := goodIn_r _ [702, 38, 752, 753, 754, 755, 756, 757, 758, 759, 760] (by decide +kernel) (by decide +kernel)
set_option maxRecDepth 20000 in
theorem gL_law_X5_seed : GoodIn wsL_law (wsV RL 118 RX5 yX5_seed wsX5_seed) := goodIn_app (goodIn_of _ (by decide +kernel)) ggL_law_X5_seed
set_option maxRecDepth 20000 in
theorem ggL_law_X6_seed : GoodIn wsL_law wsX6_seed := goodIn_r _ [706, 707, 761, 762, 763, 764, 765, 766, 767, 768, 769, 770, 771, 772, 773, 774, 775, 776, 777, 778, 779, 780, 781, 782, 783, 784, 785, 786, 787] (by decide +kernel) (by decide +kernel)
set_option maxRecDepth 20000 in
theorem gL_law_X6_seed : GoodIn wsL_law (wsV RL 122 RX6 yX6_seed wsX6_seed) := goodIn_app (goodIn_of _ (by decide +kernel)) ggL_law_X6_seed
set_option maxRecDepth 20000 in
theorem ggL_law_X5_years : GoodIn wsL_law wsX5_years := goodIn_r _ [711, 38, 712, 713, 714, 103, 104, 2, 105, 469, 470, 471, 472, 25, 24, 473, 474, 475, 23, 476, 59, 199, 200, 201, 202, 60, 62, 63, 64, 715, 716, 717, 718, 559, 560, 561, 562, 20, 256, 237, 238, 19, 239, 53, 383, 384, 385, 386, 232, 233, 234, 235, 65, 236, 335, 336, 337, 332, 333, 334, 387, 388, 389, 390, 567, 568, 569, 570, 403, 404, 405, 406, 575, 576, 577, 578, 218, 151, 152, 219, 220, 221, 222, 437, 438, 439, 440, 563, 564, 565, 566, 306, 307, 308, 309, 310, 311, 312, 313, 314, 315, 316, 317, 318, 319, 320, 321, 322, 323, 324, 325, 326, 259, 260, 261, 49, 327, 271, 272, 273, 274, 263, 264, 265, 50, 275, 267, 268, 269, 328, 329, 330, 331, 338, 339, 340, 341, 61, 342, 343, 344, 345, 752, 753, 754, 755, 756, 757, 758, 759, 760, 798, 799, 800, 801, 802, 803, 804, 790, 791, 792, 793, 794, 795, 796, 797] (by decide +kernel) (by decide +kernel)
set_option maxRecDepth 20000 in
theorem gL_law_X5_years : GoodIn wsL_law (wsV RL 123 RX5 yX5_years wsX5_years) := goodIn_app (goodIn_of _ (by decide +kernel)) ggL_law_X5_years
set_option maxRecDepth 20000 in
theorem ggL_law_X6_years : GoodIn wsL_law wsX6_years := goodIn_r _ [722, 481, 707, 723, 724, 725, 116, 117, 5, 118, 482, 483, 484, 485, 87, 355, 356, 357, 358, 212, 85, 86, 211, 359, 360, 361, 362, 363, 364, 365, 366, 92, 83, 284, 285, 286, 287, 84, 288, 289, 290, 367, 368, 369, 370, 371, 372, 373, 374, 588, 589, 590, 591, 280, 281, 282, 283, 395, 396, 397, 398, 244, 245, 246, 247, 375, 376, 377, 378, 761, 762, 763, 764, 765, 766, 767, 768, 769, 770, 771, 772, 773, 774, 775, 776, 777, 778, 779, 780, 781, 782, 783, 784, 785, 786, 787] (by decide +kernel) (by decide +kernel)
set_option maxRecDepth 20000 in
theorem gL_law_X6_years : GoodIn wsL_law (wsV RL 126 RX6 yX6_years wsX6_years) := goodIn_app (goodIn_of _ (by decide +kernel)) ggL_law_X6_years
set_option maxRecDepth 20000 in
theorem ggL_law_X5_keep : GoodIn wsL_law wsX5_keep := goodIn_r _ [729, 24, 35, 37, 103, 104, 2, 105, 730, 303, 304, 23, 305, 59, 199, 200, 201, 202, 60, 62, 63, 64, 752, 753, 754, 755, 756, 757, 758, 759, 760, 798, 799, 800, 801, 802, 803, 804] (by decide +kernel) (by decide +kernel)
set_option maxRecDepth 20000 in
theorem gL_law_X5_keep : GoodIn wsL_law (wsV RL 127 RX5 yX5_keep wsX5_keep) := goodIn_app (goodIn_of _ (by decide +kernel)) ggL_law_X5_keep
set_option maxRecDepth 20000 in
theorem ggL_law_X6_keep : GoodIn wsL_law wsX6_keep := goodIn_r _ [734, 97, 98, 87, 116, 117, 5, 118, 761, 762, 763, 764, 765, 766, 767, 768, 769, 770, 771, 772, 773, 774, 775, 776, 777, 778, 779, 780, 781, 782, 783, 784, 785, 786, 787] (by decide +kernel) (by decide +kernel)
set_option maxRecDepth 20000 in
theorem gL_law_X6_keep : GoodIn wsL_law (wsV RL 130 RX6 yX6_keep wsX6_keep) := goodIn_app (goodIn_of _ (by decide +kernel)) ggL_law_X6_keep
set_option maxRecDepth 20000 in
theorem ggL_law_X5_again : GoodIn wsL_law wsX5_again := goodIn_r _ [738, 37, 24, 35, 29, 103, 104, 2, 105, 739, 454, 455, 23, 456, 59, 199, 200, 201, 202, 60, 62, 63, 64, 203, 204, 205, 28, 206, 70, 71, 752, 753, 754, 755, 756, 757, 758, 759, 760, 798, 799, 800, 801, 802, 803, 804, 805, 806, 807] (by decide +kernel) (by decide +kernel)
set_option maxRecDepth 20000 in
theorem gL_law_X5_again : GoodIn wsL_law (wsV RL 131 RX5 yX5_again wsX5_again) := goodIn_app (goodIn_of _ (by decide +kernel)) ggL_law_X5_again
set_option maxRecDepth 20000 in
theorem ggL_law_X6_again : GoodIn wsL_law wsX6_again := goodIn_r _ [743, 97, 87, 98, 213, 116, 117, 5, 118, 761, 762, 763, 764, 765, 766, 767, 768, 769, 770, 771, 772, 773, 774, 775, 776, 777, 778, 779, 780, 781, 782, 783, 784, 785, 786, 787] (by decide +kernel) (by decide +kernel)
set_option maxRecDepth 20000 in
theorem gL_law_X6_again : GoodIn wsL_law (wsV RL 134 RX6 yX6_again wsX6_again) := goodIn_app (goodIn_of _ (by decide +kernel)) ggL_law_X6_again
set_option maxRecDepth 20000 in
theorem ggL_law_X5_count : GoodIn wsL_law wsX5_count := goodIn_r _ [747, 16, 20, 24, 29, 33, 342, 343, 344, 23, 345, 59, 494, 495, 496, 497, 498, 224, 225, 226, 227, 220, 221, 222, 151, 2, 152, 752, 753, 754, 755, 756, 757, 758, 759, 760, 788, 789, 790, 791, 792, 793, 794, 795, 796, 797, 798, 799, 800, 801, 802, 803, 804, 805, 806, 807, 808, 809, 810, 811] (by decide +kernel) (by decide +kernel)
set_option maxRecDepth 20000 in
theorem gL_law_X5_count : GoodIn wsL_law (wsV RL 135 RX5 yX5_count wsX5_count) := goodIn_app (goodIn_of _ (by decide +kernel)) ggL_law_X5_count
set_option maxRecDepth 20000 in
theorem ggL_law_X6_count : GoodIn wsL_law wsX6_count := goodIn_r _ [751, 115, 211, 212, 87, 213, 605, 375, 376, 377, 5, 378, 371, 372, 373, 374, 761, 762, 763, 764, 765, 766, 767, 768, 769, 770, 771, 772, 773, 774, 775, 776, 777, 778, 779, 780, 781, 782, 783, 784, 785, 786, 787] (by decide +kernel) (by decide +kernel)
set_option maxRecDepth 20000 in
theorem gL_law_X6_count : GoodIn wsL_law (wsV RL 138 RX6 yX6_count wsX6_count) := goodIn_app (goodIn_of _ (by decide +kernel)) ggL_law_X6_count

set_option maxRecDepth 20000 in
theorem ggL_law_X5_judge : GoodIn wsL_law wsX5_judge := goodIn_r _ [547, 548, 549, 320, 550, 551, 103, 104, 2, 105, 552, 553, 554, 469, 470, 471, 472, 25, 24, 473, 474, 475, 23, 476, 59, 199, 200, 201, 202, 60, 62, 63, 64, 555, 556, 557, 558, 559, 560, 561, 562, 20, 256, 237, 238, 19, 239, 53, 383, 384, 385, 386, 232, 233, 234, 235, 65, 236, 335, 336, 337, 332, 333, 334, 387, 388, 389, 390, 218, 151, 152, 219, 220, 221, 222, 563, 564, 565, 566, 306, 307, 308, 309, 310, 311, 312, 313, 314, 315, 316, 317, 318, 319, 321, 322, 323, 324, 325, 326, 259, 260, 261, 49, 327, 271, 272, 273, 274, 263, 264, 265, 50, 275, 267, 268, 269, 328, 329, 330, 331, 338, 339, 340, 341, 61, 567, 568, 569, 570, 403, 404, 405, 406, 571, 572, 573, 574, 266, 415, 416, 417, 418, 575, 576, 577, 578, 437, 438, 439, 440, 223, 224, 225, 226, 227, 752, 753, 754, 755, 756, 757, 758, 759, 760, 798, 799, 800, 801, 802, 803, 804, 790, 791, 792, 793, 794, 795, 796, 797] (by decide +kernel) (by decide +kernel)
set_option maxRecDepth 20000 in
theorem gL_law_X5_judge : GoodIn wsL_law (wsV RL 87 RX5 yX5_judge wsX5_judge) := goodIn_app (goodIn_of _ (by decide +kernel)) ggL_law_X5_judge
set_option maxRecDepth 20000 in
theorem ggL_law_X6_judge : GoodIn wsL_law wsX6_judge := goodIn_r _ [582, 583, 584, 116, 117, 5, 118, 585, 586, 587, 482, 483, 484, 485, 87, 588, 589, 590, 591, 355, 356, 357, 358, 212, 85, 86, 211, 359, 360, 361, 362, 363, 364, 365, 366, 92, 83, 284, 285, 286, 287, 84, 288, 289, 290, 367, 368, 369, 370, 371, 372, 373, 374, 280, 281, 282, 283, 395, 396, 397, 398, 244, 245, 246, 247, 761, 762, 763, 764, 765, 766, 767, 768, 769, 770, 771, 772, 773, 774, 775, 776, 777, 778, 779, 780, 781, 782, 783, 784, 785, 786, 787] (by decide +kernel) (by decide +kernel)
set_option maxRecDepth 20000 in
theorem gL_law_X6_judge : GoodIn wsL_law (wsV RL 91 RX6 yX6_judge wsX6_judge) := goodIn_app (goodIn_of _ (by decide +kernel)) ggL_law_X6_judge
set_option maxRecDepth 20000 in
theorem ggL_law_X5_heap : GoodIn wsL_law wsX5_heap := goodIn_r _ [595, 33, 103, 104, 2, 105, 596, 597, 598, 32, 599, 78, 75, 76, 77, 752, 753, 754, 755, 756, 757, 758, 759, 760, 808, 809, 810, 811] (by decide +kernel) (by decide +kernel)
set_option maxRecDepth 20000 in
theorem gL_law_X5_heap : GoodIn wsL_law (wsV RL 92 RX5 yX5_heap wsX5_heap) := goodIn_app (goodIn_of _ (by decide +kernel)) ggL_law_X5_heap
set_option maxRecDepth 20000 in
theorem ggL_law_X6_heap : GoodIn wsL_law wsX6_heap := goodIn_r _ [603, 604, 527, 605, 94, 95, 96, 116, 117, 5, 118, 761, 762, 763, 764, 765, 766, 767, 768, 769, 770, 771, 772, 773, 774, 775, 776, 777, 778, 779, 780, 781, 782, 783, 784, 785, 786, 787] (by decide +kernel) (by decide +kernel)
set_option maxRecDepth 20000 in
theorem gL_law_X6_heap : GoodIn wsL_law (wsV RL 95 RX6 yX6_heap wsX6_heap) := goodIn_app (goodIn_of _ (by decide +kernel)) ggL_law_X6_heap
set_option maxRecDepth 20000 in
theorem ggL_law_X5_unheap : GoodIn wsL_law wsX5_unheap := goodIn_r _ [609, 33, 752, 753, 754, 755, 756, 757, 758, 759, 760, 808, 809, 810, 811] (by decide +kernel) (by decide +kernel)
set_option maxRecDepth 20000 in
theorem gL_law_X5_unheap : GoodIn wsL_law (wsV RL 96 RX5 yX5_unheap wsX5_unheap) := goodIn_app (goodIn_of _ (by decide +kernel)) ggL_law_X5_unheap
set_option maxRecDepth 20000 in
theorem ggL_law_X6_unheap : GoodIn wsL_law wsX6_unheap := goodIn_r _ [613, 605, 761, 762, 763, 764, 765, 766, 767, 768, 769, 770, 771, 772, 773, 774, 775, 776, 777, 778, 779, 780, 781, 782, 783, 784, 785, 786, 787] (by decide +kernel) (by decide +kernel)
set_option maxRecDepth 20000 in
theorem gL_law_X6_unheap : GoodIn wsL_law (wsV RL 99 RX6 yX6_unheap wsX6_unheap) := goodIn_app (goodIn_of _ (by decide +kernel)) ggL_law_X6_unheap
set_option maxRecDepth 20000 in
theorem ggL_law_X5_whose : GoodIn wsL_law wsX5_whose := goodIn_r _ [617, 33, 103, 104, 2, 105, 618, 619, 620, 32, 621, 78, 75, 622, 319, 320, 321, 76, 77, 752, 753, 754, 755, 756, 757, 758, 759, 760, 808, 809, 810, 811] (by decide +kernel) (by decide +kernel)
set_option maxRecDepth 20000 in
theorem gL_law_X5_whose : GoodIn wsL_law (wsV RL 100 RX5 yX5_whose wsX5_whose) := goodIn_app (goodIn_of _ (by decide +kernel)) ggL_law_X5_whose
set_option maxRecDepth 20000 in
theorem ggL_law_X6_whose : GoodIn wsL_law wsX6_whose := goodIn_r _ [626, 605, 94, 95, 96, 116, 117, 5, 118, 761, 762, 763, 764, 765, 766, 767, 768, 769, 770, 771, 772, 773, 774, 775, 776, 777, 778, 779, 780, 781, 782, 783, 784, 785, 786, 787] (by decide +kernel) (by decide +kernel)
set_option maxRecDepth 20000 in
theorem gL_law_X6_whose : GoodIn wsL_law (wsV RL 103 RX6 yX6_whose wsX6_whose) := goodIn_app (goodIn_of _ (by decide +kernel)) ggL_law_X6_whose
set_option maxRecDepth 20000 in
theorem ggL_law_X5_share : GoodIn wsL_law wsX5_share := goodIn_r _ [630, 20, 256, 237, 238, 19, 239, 53, 465, 466, 467, 2, 468, 469, 470, 471, 472, 25, 24, 473, 474, 475, 23, 476, 59, 199, 200, 201, 202, 60, 62, 63, 64, 306, 307, 308, 309, 65, 310, 311, 312, 313, 314, 315, 316, 317, 318, 319, 320, 321, 151, 152, 322, 323, 324, 325, 232, 233, 234, 235, 236, 326, 259, 260, 261, 49, 327, 271, 272, 273, 274, 263, 264, 265, 50, 275, 267, 268, 269, 328, 329, 330, 331, 332, 333, 334, 335, 336, 337, 338, 339, 340, 341, 61, 342, 343, 344, 345, 419, 420, 421, 422, 423, 424, 425, 631, 632, 633, 634, 635, 636, 637, 638, 639, 640, 641, 642, 643, 548, 549, 550, 644, 645, 646, 752, 753, 754, 755, 756, 757, 758, 759, 760, 790, 791, 792, 793, 794, 795, 796, 797, 798, 799, 800, 801, 802, 803, 804] (by decide +kernel) (by decide +kernel)
set_option maxRecDepth 20000 in
theorem gL_law_X5_share : GoodIn wsL_law (wsV RL 104 RX5 yX5_share wsX5_share) := goodIn_app (goodIn_of _ (by decide +kernel)) ggL_law_X5_share
set_option maxRecDepth 20000 in
theorem ggL_law_X6_share : GoodIn wsL_law wsX6_share := goodIn_r _ [650, 211, 280, 281, 282, 5, 283, 116, 117, 118, 288, 289, 290, 430, 431, 432, 651, 652, 653, 654, 655, 656, 657, 92, 482, 483, 484, 485, 87, 486, 487, 488, 489, 355, 356, 357, 358, 212, 85, 86, 359, 360, 361, 362, 363, 364, 365, 366, 83, 284, 285, 286, 287, 84, 367, 368, 369, 370, 371, 372, 373, 374, 375, 376, 377, 378, 658, 659, 660, 761, 762, 763, 764, 765, 766, 767, 768, 769, 770, 771, 772, 773, 774, 775, 776, 777, 778, 779, 780, 781, 782, 783, 784, 785, 786, 787] (by decide +kernel) (by decide +kernel)
set_option maxRecDepth 20000 in
theorem gL_law_X6_share : GoodIn wsL_law (wsV RL 108 RX6 yX6_share wsX6_share) := goodIn_app (goodIn_of _ (by decide +kernel)) ggL_law_X6_share
set_option maxRecDepth 20000 in
theorem ggL_law_X5_rests : GoodIn wsL_law wsX5_rests := goodIn_r _ [664, 20, 256, 237, 238, 19, 239, 53, 103, 104, 2, 105, 665, 666, 667, 668, 669, 670, 671, 672, 465, 466, 467, 468, 469, 470, 471, 472, 25, 24, 473, 474, 475, 23, 476, 59, 199, 200, 201, 202, 60, 62, 63, 64, 306, 307, 308, 309, 65, 310, 311, 312, 313, 314, 315, 316, 317, 318, 319, 320, 321, 151, 152, 322, 323, 324, 325, 232, 233, 234, 235, 236, 326, 259, 260, 261, 49, 327, 271, 272, 273, 274, 263, 264, 265, 50, 275, 267, 268, 269, 328, 329, 330, 331, 332, 333, 334, 335, 336, 337, 338, 339, 340, 341, 61, 257, 219, 220, 221, 222, 752, 753, 754, 755, 756, 757, 758, 759, 760, 790, 791, 792, 793, 794, 795, 796, 797, 798, 799, 800, 801, 802, 803, 804] (by decide +kernel) (by decide +kernel)
set_option maxRecDepth 20000 in
theorem gL_law_X5_rests : GoodIn wsL_law (wsV RL 109 RX5 yX5_rests wsX5_rests) := goodIn_app (goodIn_of _ (by decide +kernel)) ggL_law_X5_rests
set_option maxRecDepth 20000 in
theorem ggL_law_X6_rests : GoodIn wsL_law wsX6_rests := goodIn_r _ [676, 280, 281, 282, 5, 283, 211, 116, 117, 118, 677, 678, 679, 680, 681, 682, 683, 684, 92, 87, 482, 483, 484, 485, 486, 487, 488, 489, 355, 356, 357, 358, 212, 85, 86, 359, 360, 361, 362, 363, 364, 365, 366, 83, 284, 285, 286, 287, 84, 288, 289, 290, 367, 368, 369, 370, 371, 372, 373, 374, 761, 762, 763, 764, 765, 766, 767, 768, 769, 770, 771, 772, 773, 774, 775, 776, 777, 778, 779, 780, 781, 782, 783, 784, 785, 786, 787] (by decide +kernel) (by decide +kernel)
set_option maxRecDepth 20000 in
theorem gL_law_X6_rests : GoodIn wsL_law (wsV RL 112 RX6 yX6_rests wsX6_rests) := goodIn_app (goodIn_of _ (by decide +kernel)) ggL_law_X6_rests

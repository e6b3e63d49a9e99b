set_option maxRecDepth 20000 in
theorem ggL_law_X5_undo : GoodIn wsL_law wsX5_undo := goodIn_r _ [448, 29, 24, 449, 450, 451, 28, 452, 71, 69, 70, 299, 300, 301, 453, 454, 455, 23, 456, 59, 199, 200, 201, 202, 60, 62, 63, 64, 752, 753, 754, 755, 756, 757, 758, 759, 760, 805, 806, 807, 798, 799, 800, 801, 802, 803, 804] (by decide +kernel) (by decide +kernel)
set_option maxRecDepth 20000 in
theorem gL_law_X5_undo : GoodIn wsL_law (wsV RL 60 RX5 yX5_undo wsX5_undo) := goodIn_app (goodIn_of _ (by decide +kernel)) ggL_law_X5_undo
set_option maxRecDepth 20000 in
theorem ggL_law_X6_undo : GoodIn wsL_law wsX6_undo := goodIn_r _ [460, 213, 354, 87, 93, 761, 762, 763, 764, 765, 766, 767, 768, 769, 770, 771, 772, 773, 774, 775, 776, 777, 778, 779, 780, 781, 782, 783, 784, 785, 786, 787] (by decide +kernel) (by decide +kernel)
set_option maxRecDepth 20000 in
theorem gL_law_X6_undo : GoodIn wsL_law (wsV RL 63 RX6 yX6_undo wsX6_undo) := goodIn_app (goodIn_of _ (by decide +kernel)) ggL_law_X6_undo
set_option maxRecDepth 20000 in
theorem ggL_law_X5_dust : GoodIn wsL_law wsX5_dust := goodIn_r _ [464, 218, 151, 2, 152, 103, 104, 105, 465, 466, 467, 468, 469, 470, 471, 472, 25, 24, 473, 474, 475, 23, 476, 59, 199, 200, 201, 202, 60, 62, 63, 64, 306, 307, 308, 309, 65, 310, 311, 312, 313, 314, 315, 316, 317, 318, 319, 320, 321, 322, 323, 324, 325, 232, 233, 234, 235, 236, 237, 238, 19, 239, 53, 326, 259, 260, 261, 49, 327, 271, 272, 273, 274, 263, 264, 265, 50, 275, 267, 268, 269, 328, 329, 330, 331, 332, 333, 334, 335, 336, 337, 338, 339, 340, 341, 61, 219, 220, 221, 222, 752, 753, 754, 755, 756, 757, 758, 759, 760, 798, 799, 800, 801, 802, 803, 804, 790, 791, 792, 793, 794, 795, 796, 797] (by decide +kernel) (by decide +kernel)
set_option maxRecDepth 20000 in
theorem gL_law_X5_dust : GoodIn wsL_law (wsV RL 64 RX5 yX5_dust wsX5_dust) := goodIn_app (goodIn_of _ (by decide +kernel)) ggL_law_X5_dust
set_option maxRecDepth 20000 in
theorem ggL_law_X6_dust : GoodIn wsL_law wsX6_dust := goodIn_r _ [480, 481, 87, 244, 245, 5, 246, 247, 116, 117, 118, 482, 483, 484, 485, 486, 487, 488, 489, 355, 356, 357, 358, 212, 85, 86, 211, 359, 360, 361, 362, 363, 364, 365, 366, 92, 83, 284, 285, 286, 287, 84, 288, 289, 290, 367, 368, 369, 370, 371, 372, 373, 374, 761, 762, 763, 764, 765, 766, 767, 768, 769, 770, 771, 772, 773, 774, 775, 776, 777, 778, 779, 780, 781, 782, 783, 784, 785, 786, 787] (by decide +kernel) (by decide +kernel)
set_option maxRecDepth 20000 in
theorem gL_law_X6_dust : GoodIn wsL_law (wsV RL 67 RX6 yX6_dust wsX6_dust) := goodIn_app (goodIn_of _ (by decide +kernel)) ggL_law_X6_dust
set_option maxRecDepth 20000 in
theorem ggL_law_X5_knees : GoodIn wsL_law wsX5_knees := goodIn_r _ [493, 103, 104, 2, 105, 465, 466, 467, 468, 469, 470, 471, 472, 25, 24, 473, 474, 475, 23, 476, 59, 199, 200, 201, 202, 60, 62, 63, 64, 306, 307, 308, 309, 65, 310, 311, 312, 313, 314, 315, 316, 317, 318, 319, 320, 321, 151, 152, 322, 323, 324, 325, 232, 233, 234, 235, 236, 237, 238, 19, 239, 53, 326, 259, 260, 261, 49, 327, 271, 272, 273, 274, 263, 264, 265, 50, 275, 267, 268, 269, 328, 329, 330, 331, 332, 333, 334, 335, 336, 337, 338, 339, 340, 341, 61, 494, 495, 496, 497, 498, 224, 225, 226, 227, 220, 221, 222, 752, 753, 754, 755, 756, 757, 758, 759, 760, 798, 799, 800, 801, 802, 803, 804, 790, 791, 792, 793, 794, 795, 796, 797] (by decide +kernel) (by decide +kernel)
set_option maxRecDepth 20000 in
theorem gL_law_X5_knees : GoodIn wsL_law (wsV RL 68 RX5 yX5_knees wsX5_knees) := goodIn_app (goodIn_of _ (by decide +kernel)) ggL_law_X5_knees
set_option maxRecDepth 20000 in
theorem ggL_law_X6_knees : GoodIn wsL_law wsX6_knees := goodIn_r _ [502, 481, 116, 117, 5, 118, 482, 483, 484, 485, 87, 486, 487, 488, 489, 355, 356, 357, 358, 212, 85, 86, 211, 359, 360, 361, 362, 363, 364, 365, 366, 92, 83, 284, 285, 286, 287, 84, 288, 289, 290, 367, 368, 369, 370, 371, 372, 373, 374, 761, 762, 763, 764, 765, 766, 767, 768, 769, 770, 771, 772, 773, 774, 775, 776, 777, 778, 779, 780, 781, 782, 783, 784, 785, 786, 787] (by decide +kernel) (by decide +kernel)
set_option maxRecDepth 20000 in
theorem gL_law_X6_knees : GoodIn wsL_law (wsV RL 71 RX6 yX6_knees wsX6_knees) := goodIn_app (goodIn_of _ (by decide +kernel)) ggL_law_X6_knees
set_option maxRecDepth 20000 in
theorem ggL_law_X5_knee : GoodIn wsL_law wsX5_knee := goodIn_r _ [506, 103, 104, 2, 105, 469, 470, 471, 472, 25, 24, 473, 474, 475, 23, 476, 59, 199, 200, 201, 202, 60, 62, 63, 64, 507, 508, 509, 510, 498, 224, 225, 226, 227, 220, 221, 222, 151, 152, 306, 307, 308, 309, 65, 310, 311, 312, 313, 314, 315, 316, 317, 318, 319, 320, 321, 322, 323, 324, 325, 232, 233, 234, 235, 236, 237, 238, 19, 239, 53, 326, 259, 260, 261, 49, 327, 271, 272, 273, 274, 263, 264, 265, 50, 275, 267, 268, 269, 328, 329, 330, 331, 332, 333, 334, 335, 336, 337, 338, 339, 340, 341, 61, 752, 753, 754, 755, 756, 757, 758, 759, 760, 798, 799, 800, 801, 802, 803, 804, 790, 791, 792, 793, 794, 795, 796, 797] (by decide +kernel) (by decide +kernel)
set_option maxRecDepth 20000 in
theorem gL_law_X5_knee : GoodIn wsL_law (wsV RL 72 RX5 yX5_knee wsX5_knee) := goodIn_app (goodIn_of _ (by decide +kernel)) ggL_law_X5_knee
set_option maxRecDepth 20000 in
theorem ggL_law_X6_knee : GoodIn wsL_law wsX6_knee := goodIn_r _ [514, 116, 117, 5, 118, 482, 483, 484, 485, 87, 371, 372, 373, 374, 515, 516, 517, 288, 289, 290, 355, 356, 357, 358, 212, 85, 86, 211, 359, 360, 361, 362, 363, 364, 365, 366, 92, 83, 284, 285, 286, 287, 84, 367, 368, 369, 370, 761, 762, 763, 764, 765, 766, 767, 768, 769, 770, 771, 772, 773, 774, 775, 776, 777, 778, 779, 780, 781, 782, 783, 784, 785, 786, 787] (by decide +kernel) (by decide +kernel)
set_option maxRecDepth 20000 in
theorem gL_law_X6_knee : GoodIn wsL_law (wsV RL 75 RX6 yX6_knee wsX6_knee) := goodIn_app (goodIn_of _ (by decide +kernel)) ggL_law_X6_knee
set_option maxRecDepth 20000 in
theorem ggL_law_X5_best : GoodIn wsL_law wsX5_best := goodIn_r _ [521, 20, 256, 237, 238, 19, 239, 53, 103, 104, 2, 105, 469, 470, 471, 472, 25, 24, 473, 474, 475, 23, 476, 59, 199, 200, 201, 202, 60, 62, 63, 64, 522, 388, 389, 390, 65, 236, 306, 307, 308, 309, 310, 311, 312, 313, 314, 315, 316, 317, 318, 319, 320, 321, 151, 152, 322, 323, 324, 325, 232, 233, 234, 235, 326, 259, 260, 261, 49, 327, 271, 272, 273, 274, 263, 264, 265, 50, 275, 267, 268, 269, 328, 329, 330, 331, 332, 333, 334, 335, 336, 337, 338, 339, 340, 341, 61, 342, 343, 344, 345, 752, 753, 754, 755, 756, 757, 758, 759, 760, 790, 791, 792, 793, 794, 795, 796, 797, 798, 799, 800, 801, 802, 803, 804] (by decide +kernel) (by decide +kernel)
set_option maxRecDepth 20000 in
theorem gL_law_X5_best : GoodIn wsL_law (wsV RL 76 RX5 yX5_best wsX5_best) := goodIn_app (goodIn_of _ (by decide +kernel)) ggL_law_X5_best
set_option maxRecDepth 20000 in
theorem ggL_law_X6_best : GoodIn wsL_law wsX6_best := goodIn_r _ [526, 527, 87, 280, 281, 282, 5, 283, 211, 116, 117, 118, 482, 483, 484, 485, 486, 487, 488, 489, 355, 356, 357, 358, 212, 85, 86, 359, 360, 361, 362, 363, 364, 365, 366, 92, 83, 284, 285, 286, 287, 84, 288, 289, 290, 367, 368, 369, 370, 371, 372, 373, 374, 375, 376, 377, 378, 761, 762, 763, 764, 765, 766, 767, 768, 769, 770, 771, 772, 773, 774, 775, 776, 777, 778, 779, 780, 781, 782, 783, 784, 785, 786, 787] (by decide +kernel) (by decide +kernel)
set_option maxRecDepth 20000 in
theorem gL_law_X6_best : GoodIn wsL_law (wsV RL 80 RX6 yX6_best wsX6_best) := goodIn_app (goodIn_of _ (by decide +kernel)) ggL_law_X6_best
set_option maxRecDepth 20000 in
theorem ggL_law_X5_bends : GoodIn wsL_law wsX5_bends := goodIn_r _ [531, 20, 24, 103, 104, 2, 105, 419, 420, 421, 422, 423, 424, 425, 532, 533, 534, 535, 469, 470, 471, 472, 25, 473, 474, 475, 23, 476, 59, 199, 200, 201, 202, 60, 62, 63, 64, 415, 416, 417, 418, 306, 307, 308, 309, 65, 310, 311, 312, 313, 314, 315, 316, 317, 318, 319, 320, 321, 151, 152, 322, 323, 324, 325, 232, 233, 234, 235, 236, 237, 238, 19, 239, 53, 326, 259, 260, 261, 49, 327, 271, 272, 273, 274, 263, 264, 265, 50, 275, 267, 268, 269, 328, 329, 330, 331, 332, 333, 334, 335, 336, 337, 338, 339, 340, 341, 61, 507, 508, 509, 510, 498, 224, 225, 226, 227, 220, 221, 222, 752, 753, 754, 755, 756, 757, 758, 759, 760, 790, 791, 792, 793, 794, 795, 796, 797, 798, 799, 800, 801, 802, 803, 804] (by decide +kernel) (by decide +kernel)
set_option maxRecDepth 20000 in
theorem gL_law_X5_bends : GoodIn wsL_law (wsV RL 81 RX5 yX5_bends wsX5_bends) := goodIn_app (goodIn_of _ (by decide +kernel)) ggL_law_X5_bends
set_option maxRecDepth 20000 in
theorem ggL_law_X6_bends : GoodIn wsL_law wsX6_bends := goodIn_r _ [539, 527, 211, 87, 116, 117, 5, 118, 430, 431, 432, 540, 541, 542, 543, 482, 483, 484, 485, 355, 356, 357, 358, 212, 85, 86, 359, 360, 361, 362, 363, 364, 365, 366, 92, 83, 284, 285, 286, 287, 84, 288, 289, 290, 367, 368, 369, 370, 371, 372, 373, 374, 761, 762, 763, 764, 765, 766, 767, 768, 769, 770, 771, 772, 773, 774, 775, 776, 777, 778, 779, 780, 781, 782, 783, 784, 785, 786, 787] (by decide +kernel) (by decide +kernel)
set_option maxRecDepth 20000 in
theorem gL_law_X6_bends : GoodIn wsL_law (wsV RL 84 RX6 yX6_bends wsX6_bends) := goodIn_app (goodIn_of _ (by decide +kernel)) ggL_law_X6_bends

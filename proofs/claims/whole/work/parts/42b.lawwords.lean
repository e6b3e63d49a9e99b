set_option maxRecDepth 20000 in
theorem ggL_law_X5_broom : GoodIn wsL_law wsX5_broom := goodIn_r _ [255, 20, 24, 256, 237, 238, 19, 239, 53, 257, 233, 234, 23, 235, 65, 60, 236, 258, 259, 260, 261, 49, 262, 263, 264, 265, 50, 266, 267, 268, 269, 63, 270, 271, 272, 273, 62, 274, 275, 752, 753, 754, 755, 756, 757, 758, 759, 760, 790, 791, 792, 793, 794, 795, 796, 797, 798, 799, 800, 801, 802, 803, 804] (by decide +kernel) (by decide +kernel)
set_option maxRecDepth 20000 in
theorem gL_law_X5_broom : GoodIn wsL_law (wsV RL 36 RX5 yX5_broom wsX5_broom) := goodIn_app (goodIn_of _ (by decide +kernel)) ggL_law_X5_broom
set_option maxRecDepth 20000 in
theorem ggL_law_X6_broom : GoodIn wsL_law wsX6_broom := goodIn_r _ [279, 87, 83, 84, 280, 281, 282, 5, 283, 211, 116, 117, 118, 284, 285, 286, 287, 288, 289, 290, 761, 762, 763, 764, 765, 766, 767, 768, 769, 770, 771, 772, 773, 774, 775, 776, 777, 778, 779, 780, 781, 782, 783, 784, 785, 786, 787] (by decide +kernel) (by decide +kernel)
set_option maxRecDepth 20000 in
theorem gL_law_X6_broom : GoodIn wsL_law (wsV RL 39 RX6 yX6_broom wsX6_broom) := goodIn_app (goodIn_of _ (by decide +kernel)) ggL_law_X6_broom
set_option maxRecDepth 20000 in
theorem ggL_law_X5_dawn : GoodIn wsL_law wsX5_dawn := goodIn_r _ [294, 29, 24, 295, 296, 297, 28, 298, 69, 70, 71, 299, 300, 301, 302, 303, 304, 23, 305, 59, 199, 200, 201, 202, 60, 62, 63, 64, 306, 307, 308, 309, 65, 310, 311, 312, 313, 314, 315, 316, 317, 318, 319, 320, 321, 151, 2, 152, 322, 323, 324, 325, 232, 233, 234, 235, 236, 237, 238, 19, 239, 53, 326, 259, 260, 261, 49, 327, 271, 272, 273, 274, 263, 264, 265, 50, 275, 267, 268, 269, 328, 329, 330, 331, 332, 333, 334, 335, 336, 337, 338, 339, 340, 341, 61, 342, 343, 344, 345, 752, 753, 754, 755, 756, 757, 758, 759, 760, 805, 806, 807, 798, 799, 800, 801, 802, 803, 804, 790, 791, 792, 793, 794, 795, 796, 797] (by decide +kernel) (by decide +kernel)
set_option maxRecDepth 20000 in
theorem gL_law_X5_dawn : GoodIn wsL_law (wsV RL 40 RX5 yX5_dawn wsX5_dawn) := goodIn_app (goodIn_of _ (by decide +kernel)) ggL_law_X5_dawn
set_option maxRecDepth 20000 in
theorem ggL_law_X6_dawn : GoodIn wsL_law wsX6_dawn := goodIn_r _ [349, 350, 351, 352, 5, 353, 93, 354, 87, 213, 355, 356, 357, 358, 212, 85, 86, 211, 359, 360, 361, 362, 363, 364, 365, 366, 92, 83, 284, 285, 286, 287, 84, 288, 289, 290, 367, 368, 369, 370, 371, 372, 373, 374, 375, 376, 377, 378, 761, 762, 763, 764, 765, 766, 767, 768, 769, 770, 771, 772, 773, 774, 775, 776, 777, 778, 779, 780, 781, 782, 783, 784, 785, 786, 787] (by decide +kernel) (by decide +kernel)
set_option maxRecDepth 20000 in
theorem gL_law_X6_dawn : GoodIn wsL_law (wsV RL 43 RX6 yX6_dawn wsX6_dawn) := goodIn_app (goodIn_of _ (by decide +kernel)) ggL_law_X6_dawn
set_option maxRecDepth 20000 in
theorem ggL_law_X5_walk : GoodIn wsL_law wsX5_walk := goodIn_r _ [382, 20, 29, 24, 256, 237, 238, 19, 239, 53, 103, 104, 2, 105, 295, 296, 297, 28, 298, 69, 70, 71, 299, 300, 301, 302, 303, 304, 23, 305, 59, 199, 200, 201, 202, 60, 62, 63, 64, 383, 384, 385, 386, 232, 233, 234, 235, 65, 236, 335, 336, 337, 332, 333, 334, 387, 388, 389, 390, 257, 752, 753, 754, 755, 756, 757, 758, 759, 760, 790, 791, 792, 793, 794, 795, 796, 797, 805, 806, 807, 798, 799, 800, 801, 802, 803, 804] (by decide +kernel) (by decide +kernel)
set_option maxRecDepth 20000 in
theorem gL_law_X5_walk : GoodIn wsL_law (wsV RL 44 RX5 yX5_walk wsX5_walk) := goodIn_app (goodIn_of _ (by decide +kernel)) ggL_law_X5_walk
set_option maxRecDepth 20000 in
theorem ggL_law_X6_walk : GoodIn wsL_law wsX6_walk := goodIn_r _ [394, 87, 280, 281, 282, 5, 283, 211, 116, 117, 118, 350, 351, 352, 353, 93, 354, 213, 395, 396, 397, 398, 761, 762, 763, 764, 765, 766, 767, 768, 769, 770, 771, 772, 773, 774, 775, 776, 777, 778, 779, 780, 781, 782, 783, 784, 785, 786, 787] (by decide +kernel) (by decide +kernel)
set_option maxRecDepth 20000 in
theorem gL_law_X6_walk : GoodIn wsL_law (wsV RL 47 RX6 yX6_walk wsX6_walk) := goodIn_app (goodIn_of _ (by decide +kernel)) ggL_law_X6_walk
set_option maxRecDepth 20000 in
theorem ggL_law_X5_vote : GoodIn wsL_law wsX5_vote := goodIn_r _ [402, 29, 24, 295, 296, 297, 28, 298, 69, 70, 71, 299, 300, 301, 302, 303, 304, 23, 305, 59, 199, 200, 201, 202, 60, 62, 63, 64, 403, 404, 405, 406, 752, 753, 754, 755, 756, 757, 758, 759, 760, 798, 799, 800, 801, 802, 803, 804, 805, 806, 807] (by decide +kernel) (by decide +kernel)
set_option maxRecDepth 20000 in
theorem gL_law_X5_vote : GoodIn wsL_law (wsV RL 48 RX5 yX5_vote wsX5_vote) := goodIn_app (goodIn_of _ (by decide +kernel)) ggL_law_X5_vote
set_option maxRecDepth 20000 in
theorem ggL_law_X6_vote : GoodIn wsL_law wsX6_vote := goodIn_r _ [410, 87, 350, 351, 352, 5, 353, 93, 354, 213, 761, 762, 763, 764, 765, 766, 767, 768, 769, 770, 771, 772, 773, 774, 775, 776, 777, 778, 779, 780, 781, 782, 783, 784, 785, 786, 787] (by decide +kernel) (by decide +kernel)
set_option maxRecDepth 20000 in
theorem gL_law_X6_vote : GoodIn wsL_law (wsV RL 51 RX6 yX6_vote wsX6_vote) := goodIn_app (goodIn_of _ (by decide +kernel)) ggL_law_X6_vote
set_option maxRecDepth 20000 in
theorem ggL_law_X5_bend : GoodIn wsL_law wsX5_bend := goodIn_r _ [414, 20, 24, 29, 256, 237, 238, 19, 239, 53, 266, 267, 268, 23, 269, 63, 295, 296, 297, 28, 298, 69, 70, 71, 299, 300, 301, 302, 303, 304, 305, 59, 199, 200, 201, 202, 60, 62, 64, 415, 416, 417, 418, 419, 420, 421, 422, 423, 424, 425, 752, 753, 754, 755, 756, 757, 758, 759, 760, 798, 799, 800, 801, 802, 803, 804, 790, 791, 792, 793, 794, 795, 796, 797, 805, 806, 807] (by decide +kernel) (by decide +kernel)
set_option maxRecDepth 20000 in
theorem gL_law_X5_bend : GoodIn wsL_law (wsV RL 52 RX5 yX5_bend wsX5_bend) := goodIn_app (goodIn_of _ (by decide +kernel)) ggL_law_X5_bend
set_option maxRecDepth 20000 in
theorem ggL_law_X6_bend : GoodIn wsL_law wsX6_bend := goodIn_r _ [429, 87, 280, 281, 282, 5, 283, 211, 116, 117, 118, 288, 289, 290, 350, 351, 352, 353, 93, 354, 213, 430, 431, 432, 761, 762, 763, 764, 765, 766, 767, 768, 769, 770, 771, 772, 773, 774, 775, 776, 777, 778, 779, 780, 781, 782, 783, 784, 785, 786, 787] (by decide +kernel) (by decide +kernel)
set_option maxRecDepth 20000 in
theorem gL_law_X6_bend : GoodIn wsL_law (wsV RL 55 RX6 yX6_bend wsX6_bend) := goodIn_app (goodIn_of _ (by decide +kernel)) ggL_law_X6_bend
set_option maxRecDepth 20000 in
theorem ggL_law_X5_hand : GoodIn wsL_law wsX5_hand := goodIn_r _ [436, 24, 29, 218, 151, 2, 152, 219, 220, 221, 23, 222, 59, 295, 296, 297, 28, 298, 69, 70, 71, 299, 300, 301, 302, 303, 304, 305, 199, 200, 201, 202, 60, 62, 63, 64, 437, 438, 439, 440, 752, 753, 754, 755, 756, 757, 758, 759, 760, 798, 799, 800, 801, 802, 803, 804, 805, 806, 807] (by decide +kernel) (by decide +kernel)
set_option maxRecDepth 20000 in
theorem gL_law_X5_hand : GoodIn wsL_law (wsV RL 56 RX5 yX5_hand wsX5_hand) := goodIn_app (goodIn_of _ (by decide +kernel)) ggL_law_X5_hand
set_option maxRecDepth 20000 in
theorem ggL_law_X6_hand : GoodIn wsL_law wsX6_hand := goodIn_r _ [444, 87, 244, 245, 5, 246, 247, 116, 117, 118, 350, 351, 352, 353, 93, 354, 213, 761, 762, 763, 764, 765, 766, 767, 768, 769, 770, 771, 772, 773, 774, 775, 776, 777, 778, 779, 780, 781, 782, 783, 784, 785, 786, 787] (by decide +kernel) (by decide +kernel)
set_option maxRecDepth 20000 in
theorem gL_law_X6_hand : GoodIn wsL_law (wsV RL 59 RX6 yX6_hand wsX6_hand) := goodIn_app (goodIn_of _ (by decide +kernel)) ggL_law_X6_hand

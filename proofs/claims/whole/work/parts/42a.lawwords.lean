set_option maxRecDepth 20000 in
theorem ggL_law_X5_init : GoodIn wsL_law wsX5_init := goodIn_r _ [9, 10, 11, 12, 13, 14, 15, 16, 17, 18, 19, 20, 21, 22, 23, 24, 25, 26, 27, 28, 29, 30, 31, 32, 33, 34, 35, 36, 37, 38, 39, 40, 41, 42, 43, 44, 45, 46, 47, 48, 49, 50, 51, 52, 53, 54, 55, 56, 57, 58, 59, 60, 61, 62, 63, 64, 65, 66, 67, 68, 69, 70, 71, 72, 73, 74, 75, 76, 77, 78, 788, 789, 752, 753, 754, 755, 756, 757, 758, 759, 760, 790, 791, 792, 793, 794, 795, 796, 797, 798, 799, 800, 801, 802, 803, 804, 805, 806, 807, 808, 809, 810, 811] (by decide +kernel) (by decide +kernel)
set_option maxRecDepth 20000 in
theorem gL_law_X5_init : GoodIn wsL_law (wsX5_init) := ggL_law_X5_init
set_option maxRecDepth 20000 in
theorem ggL_law_X6_init : GoodIn wsL_law wsX6_init := goodIn_r _ [81, 82, 11, 12, 34, 83, 84, 85, 86, 87, 88, 89, 90, 91, 92, 93, 94, 95, 96, 36, 97, 98, 761, 762, 763, 764, 765, 766, 767, 768, 769, 770, 771, 772, 773, 774, 775, 776, 777, 778, 779, 780, 781, 782, 783, 784, 785, 786, 787] (by decide +kernel) (by decide +kernel)
set_option maxRecDepth 20000 in
theorem gL_law_X6_init : GoodIn wsL_law (wsX6_init) := ggL_law_X6_init
set_option maxRecDepth 20000 in
theorem ggL_law_X5_write : GoodIn wsL_law wsX5_write := goodIn_r _ [102, 16, 103, 104, 2, 105, 106, 107, 108, 15, 109, 43, 42, 752, 753, 754, 755, 756, 757, 758, 759, 760, 788, 789] (by decide +kernel) (by decide +kernel)
set_option maxRecDepth 20000 in
theorem gL_law_X5_write : GoodIn wsL_law (wsV RL 13 RX5 yX5_write wsX5_write) := goodIn_app (goodIn_of _ (by decide +kernel)) ggL_law_X5_write
set_option maxRecDepth 20000 in
theorem ggL_law_X6_write : GoodIn wsL_law wsX6_write := goodIn_r _ [113, 114, 115, 91, 116, 117, 5, 118, 761, 762, 763, 764, 765, 766, 767, 768, 769, 770, 771, 772, 773, 774, 775, 776, 777, 778, 779, 780, 781, 782, 783, 784, 785, 786, 787] (by decide +kernel) (by decide +kernel)
set_option maxRecDepth 20000 in
theorem gL_law_X6_write : GoodIn wsL_law (wsV RL 17 RX6 yX6_write wsX6_write) := goodIn_app (goodIn_of _ (by decide +kernel)) ggL_law_X6_write
set_option maxRecDepth 20000 in
theorem ggL_law_X5_wipe : GoodIn wsL_law wsX5_wipe := goodIn_r _ [122, 16, 752, 753, 754, 755, 756, 757, 758, 759, 760, 788, 789] (by decide +kernel) (by decide +kernel)
set_option maxRecDepth 20000 in
theorem gL_law_X5_wipe : GoodIn wsL_law (wsV RL 18 RX5 yX5_wipe wsX5_wipe) := goodIn_app (goodIn_of _ (by decide +kernel)) ggL_law_X5_wipe
set_option maxRecDepth 20000 in
theorem ggL_law_X6_wipe : GoodIn wsL_law wsX6_wipe := goodIn_r _ [126, 115, 761, 762, 763, 764, 765, 766, 767, 768, 769, 770, 771, 772, 773, 774, 775, 776, 777, 778, 779, 780, 781, 782, 783, 784, 785, 786, 787] (by decide +kernel) (by decide +kernel)
set_option maxRecDepth 20000 in
theorem gL_law_X6_wipe : GoodIn wsL_law (wsV RL 22 RX6 yX6_wipe wsX6_wipe) := goodIn_app (goodIn_of _ (by decide +kernel)) ggL_law_X6_wipe
set_option maxRecDepth 20000 in
theorem ggL_law_X5_fault : GoodIn wsL_law wsX5_fault := goodIn_r _ [130, 16, 131, 132, 133, 15, 134, 135, 136, 137, 138, 43, 42, 139, 140, 141, 142, 104, 2, 105, 143, 144, 145, 146, 147, 148, 149, 150, 151, 152, 153, 154, 155, 156, 752, 753, 754, 755, 756, 757, 758, 759, 760, 788, 789] (by decide +kernel) (by decide +kernel)
set_option maxRecDepth 20000 in
theorem gL_law_X5_fault : GoodIn wsL_law (wsV RL 23 RX5 yX5_fault wsX5_fault) := goodIn_app (goodIn_of _ (by decide +kernel)) ggL_law_X5_fault
set_option maxRecDepth 20000 in
theorem ggL_law_X6_fault : GoodIn wsL_law wsX6_fault := goodIn_r _ [160, 161, 162, 163, 5, 164, 165, 166, 167, 168, 115, 91, 88, 169, 170, 171, 172, 116, 117, 118, 173, 174, 175, 176, 89, 90, 761, 762, 763, 764, 765, 766, 767, 768, 769, 770, 771, 772, 773, 774, 775, 776, 777, 778, 779, 780, 781, 782, 783, 784, 785, 786, 787] (by decide +kernel) (by decide +kernel)
set_option maxRecDepth 20000 in
theorem gL_law_X6_fault : GoodIn wsL_law (wsV RL 26 RX6 yX6_fault wsX6_fault) := goodIn_app (goodIn_of _ (by decide +kernel)) ggL_law_X6_fault
set_option maxRecDepth 20000 in
theorem ggL_law_X5_city : GoodIn wsL_law wsX5_city := goodIn_r _ [180, 16, 20, 24, 29, 37, 131, 132, 133, 15, 134, 135, 136, 137, 138, 43, 42, 139, 140, 141, 142, 104, 2, 105, 143, 144, 145, 146, 147, 148, 149, 150, 151, 152, 153, 154, 155, 156, 181, 182, 183, 19, 184, 47, 53, 54, 185, 186, 187, 188, 189, 190, 48, 49, 50, 191, 192, 193, 194, 51, 52, 195, 196, 197, 23, 198, 65, 59, 199, 200, 201, 202, 60, 62, 63, 64, 203, 204, 205, 28, 206, 70, 71, 752, 753, 754, 755, 756, 757, 758, 759, 760, 790, 791, 792, 793, 794, 795, 796, 797, 788, 789, 798, 799, 800, 801, 802, 803, 804, 805, 806, 807] (by decide +kernel) (by decide +kernel)
set_option maxRecDepth 20000 in
theorem gL_law_X5_city : GoodIn wsL_law (wsV RL 27 RX5 yX5_city wsX5_city) := goodIn_app (goodIn_of _ (by decide +kernel)) ggL_law_X5_city
set_option maxRecDepth 20000 in
theorem ggL_law_X6_city : GoodIn wsL_law wsX6_city := goodIn_r _ [210, 167, 211, 168, 212, 87, 88, 89, 83, 84, 85, 90, 86, 213, 97, 161, 162, 163, 5, 164, 165, 166, 115, 91, 169, 170, 171, 172, 116, 117, 118, 173, 174, 175, 176, 761, 762, 763, 764, 765, 766, 767, 768, 769, 770, 771, 772, 773, 774, 775, 776, 777, 778, 779, 780, 781, 782, 783, 784, 785, 786, 787] (by decide +kernel) (by decide +kernel)
set_option maxRecDepth 20000 in
theorem gL_law_X6_city : GoodIn wsL_law (wsV RL 30 RX6 yX6_city wsX6_city) := goodIn_app (goodIn_of _ (by decide +kernel)) ggL_law_X6_city
set_option maxRecDepth 20000 in
theorem ggL_law_X5_street : GoodIn wsL_law wsX5_street := goodIn_r _ [217, 24, 218, 151, 2, 152, 219, 220, 221, 23, 222, 59, 223, 224, 225, 226, 227, 228, 229, 230, 231, 65, 232, 233, 234, 235, 60, 236, 237, 238, 19, 239, 53, 752, 753, 754, 755, 756, 757, 758, 759, 760, 798, 799, 800, 801, 802, 803, 804, 790, 791, 792, 793, 794, 795, 796, 797] (by decide +kernel) (by decide +kernel)
set_option maxRecDepth 20000 in
theorem gL_law_X5_street : GoodIn wsL_law (wsV RL 31 RX5 yX5_street wsX5_street) := goodIn_app (goodIn_of _ (by decide +kernel)) ggL_law_X5_street
set_option maxRecDepth 20000 in
theorem ggL_law_X6_street : GoodIn wsL_law wsX6_street := goodIn_r _ [243, 87, 244, 245, 5, 246, 247, 116, 117, 118, 248, 249, 250, 251, 211, 761, 762, 763, 764, 765, 766, 767, 768, 769, 770, 771, 772, 773, 774, 775, 776, 777, 778, 779, 780, 781, 782, 783, 784, 785, 786, 787] (by decide +kernel) (by decide +kernel)
set_option maxRecDepth 20000 in
theorem gL_law_X6_street : GoodIn wsL_law (wsV RL 35 RX6 yX6_street wsX6_street) := goodIn_app (goodIn_of _ (by decide +kernel)) ggL_law_X6_street

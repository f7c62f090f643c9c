/-! ===== the law: the words of its calls, 1 ===== -/
set_option maxRecDepth 20000 in
theorem ggL_law_X7_init : GoodIn wsL_law wsX7_init := goodIn_r _ [8, 9, 10, 11, 12, 13, 14, 15, 16, 17, 18, 19, 20, 21, 22, 23, 24, 25, 26, 27, 28, 29, 30, 31, 32, 33, 34, 35, 36, 37, 38, 39, 40, 41, 42, 43, 44, 45, 46, 47, 48, 49, 50, 51, 52, 53, 54, 55, 56, 57, 58, 59, 60, 61, 62, 63, 64, 65, 66, 67, 68, 69, 70, 71, 72, 73, 74, 75, 76, 77, 78, 79, 80, 81, 82, 83, 84, 85, 86, 87, 88, 89, 90, 91, 92, 777, 778, 779, 780, 781, 782, 783, 784, 785, 786, 787, 788, 789, 790, 791, 761, 762, 763, 764, 765, 792, 793, 794, 795, 796, 797, 798, 799, 800, 801, 802, 803, 804, 805, 806, 807, 808, 809, 810, 811, 812, 813, 814, 815, 816, 817, 818, 819] (by decide +kernel) (by decide +kernel)
set_option maxRecDepth 20000 in
theorem gL_law_X7_init : GoodIn wsL_law (wsX7_init) := ggL_law_X7_init
set_option maxRecDepth 20000 in
theorem ggL_law_X8_init : GoodIn wsL_law wsX8_init := goodIn_r _ [95, 96, 10, 11, 45, 97, 98, 99, 100, 101, 766, 767, 768, 769, 770, 771, 772, 773, 774, 775, 776] (by decide +kernel) (by decide +kernel)
set_option maxRecDepth 20000 in
theorem gL_law_X8_init : GoodIn wsL_law (wsX8_init) := ggL_law_X8_init
set_option maxRecDepth 20000 in
theorem ggL_law_X7_addSegment : GoodIn wsL_law wsX7_addSegment := goodIn_r _ [105, 15, 106, 20, 107, 108, 109, 35, 110, 111, 112, 113, 114, 115, 116, 117, 118, 119, 120, 121, 122, 123, 124, 125, 126, 127, 128, 129, 130, 19, 131, 132, 133, 80, 134, 135, 136, 14, 137, 36, 40, 44, 46, 49, 50, 51, 52, 47, 138, 139, 140, 141, 142, 143, 144, 145, 146, 147, 148, 149, 150, 151, 152, 56, 153, 57, 58, 59, 60, 154, 155, 156, 39, 157, 64, 158, 65, 66, 67, 68, 159, 160, 161, 43, 162, 163, 164, 72, 165, 73, 74, 166, 167, 168, 169, 170, 761, 762, 763, 764, 765, 777, 778, 779, 780, 781, 782, 783, 784, 785, 786, 787, 788, 789, 790, 791, 803, 804, 805, 806, 807, 808, 809, 792, 793, 794, 810, 811, 812, 813, 814, 815, 816, 817, 818, 819] (by decide +kernel) (by decide +kernel)
set_option maxRecDepth 20000 in
theorem gL_law_X7_addSegment : GoodIn wsL_law (wsV RL 13 RX7 yX7_addSegment wsX7_addSegment) := goodIn_app (goodIn_of _ (by decide +kernel)) ggL_law_X7_addSegment
set_option maxRecDepth 20000 in
theorem ggL_law_X8_addSegment : GoodIn wsL_law wsX8_addSegment := goodIn_r _ [174, 97, 175, 176, 5, 177, 178, 179, 180, 181, 182, 183, 184, 185, 186, 187, 188, 99, 189, 190, 191, 192, 193, 194, 195, 766, 767, 768, 769, 770, 771, 772, 773, 774, 775, 776] (by decide +kernel) (by decide +kernel)
set_option maxRecDepth 20000 in
theorem gL_law_X8_addSegment : GoodIn wsL_law (wsV RL 17 RX8 yX8_addSegment wsX8_addSegment) := goodIn_app (goodIn_of _ (by decide +kernel)) ggL_law_X8_addSegment
set_option maxRecDepth 20000 in
theorem ggL_law_X7_segment : GoodIn wsL_law wsX7_segment := goodIn_r _ [199, 15, 106, 107, 200, 201, 202, 203, 204, 205, 206, 207, 208, 35, 209, 60, 57, 210, 211, 212, 213, 214, 215, 216, 761, 762, 763, 764, 765, 777, 778, 779, 780, 781, 782, 783, 784, 785, 786, 787, 788, 789, 790, 791, 803, 804, 805, 806, 807, 808, 809] (by decide +kernel) (by decide +kernel)
set_option maxRecDepth 20000 in
theorem gL_law_X7_segment : GoodIn wsL_law (wsV RL 18 RX7 yX7_segment wsX7_segment) := goodIn_app (goodIn_of _ (by decide +kernel)) ggL_law_X7_segment
set_option maxRecDepth 20000 in
theorem ggL_law_X8_segment : GoodIn wsL_law wsX8_segment := goodIn_r _ [220, 221, 222, 223, 5, 224, 97, 175, 176, 177, 225, 226, 227, 228, 229, 230, 231, 232, 233, 234, 235, 236, 237, 238, 239, 766, 767, 768, 769, 770, 771, 772, 773, 774, 775, 776] (by decide +kernel) (by decide +kernel)
set_option maxRecDepth 20000 in
theorem gL_law_X8_segment : GoodIn wsL_law (wsV RL 22 RX8 yX8_segment wsX8_segment) := goodIn_app (goodIn_of _ (by decide +kernel)) ggL_law_X8_segment
set_option maxRecDepth 20000 in
theorem ggL_law_X7_segmentAt : GoodIn wsL_law wsX7_segmentAt := goodIn_r _ [243, 15, 106, 244, 245, 246, 247, 35, 248, 127, 249, 250, 251, 252, 60, 57, 761, 762, 763, 764, 765, 777, 778, 779, 780, 781, 782, 783, 784, 785, 786, 787, 788, 789, 790, 791, 803, 804, 805, 806, 807, 808, 809] (by decide +kernel) (by decide +kernel)
set_option maxRecDepth 20000 in
theorem gL_law_X7_segmentAt : GoodIn wsL_law (wsV RL 23 RX7 yX7_segmentAt wsX7_segmentAt) := goodIn_app (goodIn_of _ (by decide +kernel)) ggL_law_X7_segmentAt
set_option maxRecDepth 20000 in
theorem ggL_law_X8_segmentAt : GoodIn wsL_law wsX8_segmentAt := goodIn_r _ [256, 257, 258, 259, 5, 260, 97, 229, 230, 231, 232, 225, 226, 227, 228, 766, 767, 768, 769, 770, 771, 772, 773, 774, 775, 776] (by decide +kernel) (by decide +kernel)
set_option maxRecDepth 20000 in
theorem gL_law_X8_segmentAt : GoodIn wsL_law (wsV RL 27 RX8 yX8_segmentAt wsX8_segmentAt) := goodIn_app (goodIn_of _ (by decide +kernel)) ggL_law_X8_segmentAt
set_option maxRecDepth 20000 in
theorem ggL_law_X7_waterBelow : GoodIn wsL_law wsX7_waterBelow := goodIn_r _ [264, 15, 106, 244, 265, 266, 267, 35, 268, 127, 58, 269, 207, 208, 209, 60, 57, 210, 211, 212, 213, 214, 215, 216, 761, 762, 763, 764, 765, 777, 778, 779, 780, 781, 782, 783, 784, 785, 786, 787, 788, 789, 790, 791, 803, 804, 805, 806, 807, 808, 809] (by decide +kernel) (by decide +kernel)
set_option maxRecDepth 20000 in
theorem gL_law_X7_waterBelow : GoodIn wsL_law (wsV RL 28 RX7 yX7_waterBelow wsX7_waterBelow) := goodIn_app (goodIn_of _ (by decide +kernel)) ggL_law_X7_waterBelow
set_option maxRecDepth 20000 in
theorem ggL_law_X8_waterBelow : GoodIn wsL_law wsX8_waterBelow := goodIn_r _ [273, 274, 275, 276, 5, 277, 97, 229, 230, 231, 232, 225, 226, 227, 228, 175, 176, 177, 278, 279, 280, 281, 237, 238, 239, 766, 767, 768, 769, 770, 771, 772, 773, 774, 775, 776] (by decide +kernel) (by decide +kernel)
set_option maxRecDepth 20000 in
theorem gL_law_X8_waterBelow : GoodIn wsL_law (wsV RL 31 RX8 yX8_waterBelow wsX8_waterBelow) := goodIn_app (goodIn_of _ (by decide +kernel)) ggL_law_X8_waterBelow
set_option maxRecDepth 20000 in
theorem ggL_law_X7_renew : GoodIn wsL_law wsX7_renew := goodIn_r _ [285, 15, 205, 20, 128, 129, 130, 19, 131, 132, 133, 80, 134, 135, 136, 14, 137, 36, 40, 44, 46, 49, 50, 51, 52, 47, 138, 139, 140, 141, 142, 143, 144, 145, 146, 147, 148, 149, 150, 35, 151, 127, 152, 56, 153, 57, 58, 59, 60, 154, 155, 156, 39, 157, 64, 158, 65, 66, 67, 68, 159, 160, 161, 43, 162, 163, 164, 72, 165, 73, 74, 286, 287, 288, 289, 290, 291, 292, 293, 294, 295, 296, 297, 298, 299, 300, 301, 302, 761, 762, 763, 764, 765, 777, 778, 779, 780, 781, 782, 783, 784, 785, 786, 787, 788, 789, 790, 791, 792, 793, 794, 803, 804, 805, 806, 807, 808, 809, 810, 811, 812, 813, 814, 815, 816, 817, 818, 819] (by decide +kernel) (by decide +kernel)
set_option maxRecDepth 20000 in
theorem gL_law_X7_renew : GoodIn wsL_law (wsV RL 32 RX7 yX7_renew wsX7_renew) := goodIn_app (goodIn_of _ (by decide +kernel)) ggL_law_X7_renew
set_option maxRecDepth 20000 in
theorem ggL_law_X8_renew : GoodIn wsL_law wsX8_renew := goodIn_r _ [306, 97, 184, 185, 186, 5, 187, 188, 99, 189, 190, 191, 766, 767, 768, 769, 770, 771, 772, 773, 774, 775, 776] (by decide +kernel) (by decide +kernel)
set_option maxRecDepth 20000 in
theorem gL_law_X8_renew : GoodIn wsL_law (wsV RL 36 RX8 yX8_renew wsX8_renew) := goodIn_app (goodIn_of _ (by decide +kernel)) ggL_law_X8_renew
set_option maxRecDepth 20000 in
theorem ggL_law_X7_undo : GoodIn wsL_law wsX7_undo := goodIn_r _ [310, 20, 311, 15, 312, 313, 314, 19, 315, 132, 80, 133, 134, 135, 136, 14, 137, 36, 40, 44, 46, 49, 50, 51, 52, 47, 138, 139, 140, 141, 142, 143, 144, 145, 146, 147, 148, 149, 150, 35, 151, 127, 152, 56, 153, 57, 58, 59, 60, 154, 155, 156, 39, 157, 64, 158, 65, 66, 67, 68, 159, 160, 161, 43, 162, 163, 164, 72, 165, 73, 74, 761, 762, 763, 764, 765, 792, 793, 794, 777, 778, 779, 780, 781, 782, 783, 784, 785, 786, 787, 788, 789, 790, 791, 803, 804, 805, 806, 807, 808, 809, 810, 811, 812, 813, 814, 815, 816, 817, 818, 819] (by decide +kernel) (by decide +kernel)
set_option maxRecDepth 20000 in
theorem gL_law_X7_undo : GoodIn wsL_law (wsV RL 37 RX7 yX7_undo wsX7_undo) := goodIn_app (goodIn_of _ (by decide +kernel)) ggL_law_X7_undo
set_option maxRecDepth 20000 in
theorem ggL_law_X8_undo : GoodIn wsL_law wsX8_undo := goodIn_r _ [319, 188, 99, 97, 189, 190, 5, 191, 766, 767, 768, 769, 770, 771, 772, 773, 774, 775, 776] (by decide +kernel) (by decide +kernel)
set_option maxRecDepth 20000 in
theorem gL_law_X8_undo : GoodIn wsL_law (wsV RL 40 RX8 yX8_undo wsX8_undo) := goodIn_app (goodIn_of _ (by decide +kernel)) ggL_law_X8_undo
set_option maxRecDepth 20000 in
theorem ggL_law_X7_set : GoodIn wsL_law wsX7_set := goodIn_r _ [323, 324, 325, 15, 326, 20, 128, 129, 130, 19, 131, 132, 133, 80, 134, 135, 136, 14, 137, 36, 40, 44, 46, 49, 50, 51, 52, 47, 138, 139, 140, 141, 142, 143, 144, 145, 146, 147, 148, 149, 150, 35, 151, 127, 152, 56, 153, 57, 58, 59, 60, 154, 155, 156, 39, 157, 64, 158, 65, 66, 67, 68, 159, 160, 161, 43, 162, 163, 164, 72, 165, 73, 74, 761, 762, 763, 764, 765, 777, 778, 779, 780, 781, 782, 783, 784, 785, 786, 787, 788, 789, 790, 791, 792, 793, 794, 803, 804, 805, 806, 807, 808, 809, 810, 811, 812, 813, 814, 815, 816, 817, 818, 819] (by decide +kernel) (by decide +kernel)
set_option maxRecDepth 20000 in
theorem gL_law_X7_set : GoodIn wsL_law (wsV RL 41 RX7 yX7_set wsX7_set) := goodIn_app (goodIn_of _ (by decide +kernel)) ggL_law_X7_set
set_option maxRecDepth 20000 in
theorem ggL_law_X8_set : GoodIn wsL_law wsX8_set := goodIn_r _ [330, 97, 331, 332, 5, 333, 175, 176, 177, 184, 185, 186, 187, 188, 99, 189, 190, 191, 766, 767, 768, 769, 770, 771, 772, 773, 774, 775, 776] (by decide +kernel) (by decide +kernel)
set_option maxRecDepth 20000 in
theorem gL_law_X8_set : GoodIn wsL_law (wsV RL 44 RX8 yX8_set wsX8_set) := goodIn_app (goodIn_of _ (by decide +kernel)) ggL_law_X8_set

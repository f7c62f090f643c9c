/-! ===== the law: the words of its calls, 2 ===== -/
set_option maxRecDepth 20000 in
theorem ggL_law_X7_clean : GoodIn wsL_law wsX7_clean := goodIn_r _ [337, 15, 338, 339, 340, 20, 128, 129, 130, 19, 131, 132, 133, 80, 134, 135, 136, 14, 137, 36, 40, 44, 46, 49, 50, 51, 52, 47, 138, 139, 140, 141, 142, 143, 144, 145, 146, 147, 148, 149, 150, 35, 151, 127, 152, 56, 153, 57, 58, 59, 60, 154, 155, 156, 39, 157, 64, 158, 65, 66, 67, 68, 159, 160, 161, 43, 162, 163, 164, 72, 165, 73, 74, 341, 342, 343, 344, 761, 762, 763, 764, 765, 777, 778, 779, 780, 781, 782, 783, 784, 785, 786, 787, 788, 789, 790, 791, 810, 811, 812, 813, 814, 792, 793, 794, 803, 804, 805, 806, 807, 808, 809, 815, 816, 817, 818, 819] (by decide +kernel) (by decide +kernel)
set_option maxRecDepth 20000 in
theorem gL_law_X7_clean : GoodIn wsL_law (wsV RL 45 RX7 yX7_clean wsX7_clean) := goodIn_app (goodIn_of _ (by decide +kernel)) ggL_law_X7_clean
set_option maxRecDepth 20000 in
theorem ggL_law_X8_clean : GoodIn wsL_law wsX8_clean := goodIn_r _ [348, 97, 175, 176, 5, 177, 349, 350, 351, 352, 184, 185, 186, 187, 188, 99, 189, 190, 191, 766, 767, 768, 769, 770, 771, 772, 773, 774, 775, 776] (by decide +kernel) (by decide +kernel)
set_option maxRecDepth 20000 in
theorem gL_law_X8_clean : GoodIn wsL_law (wsV RL 48 RX8 yX8_clean wsX8_clean) := goodIn_app (goodIn_of _ (by decide +kernel)) ggL_law_X8_clean
set_option maxRecDepth 20000 in
theorem ggL_law_X7_run : GoodIn wsL_law wsX7_run := goodIn_r _ [356, 15, 20, 357, 358, 359, 360, 14, 361, 145, 128, 129, 130, 19, 131, 132, 133, 80, 134, 135, 136, 137, 36, 40, 44, 46, 49, 50, 51, 52, 47, 138, 139, 140, 141, 142, 143, 144, 146, 147, 148, 149, 150, 35, 151, 127, 152, 56, 153, 57, 58, 59, 60, 154, 155, 156, 39, 157, 64, 158, 65, 66, 67, 68, 159, 160, 161, 43, 162, 163, 164, 72, 165, 73, 74, 362, 363, 364, 365, 366, 367, 368, 369, 370, 371, 372, 373, 374, 375, 376, 377, 378, 379, 380, 381, 382, 383, 384, 385, 246, 247, 248, 249, 250, 251, 252, 386, 387, 388, 389, 390, 391, 392, 393, 394, 395, 396, 397, 398, 399, 400, 401, 402, 403, 404, 211, 212, 213, 405, 406, 407, 408, 409, 410, 411, 412, 413, 414, 415, 416, 417, 418, 419, 420, 421, 422, 423, 424, 425, 426, 427, 428, 761, 762, 763, 764, 765, 777, 778, 779, 780, 781, 782, 783, 784, 785, 786, 787, 788, 789, 790, 791, 792, 793, 794, 803, 804, 805, 806, 807, 808, 809, 810, 811, 812, 813, 814, 815, 816, 817, 818, 819] (by decide +kernel) (by decide +kernel)
set_option maxRecDepth 20000 in
theorem gL_law_X7_run : GoodIn wsL_law (wsV RL 49 RX7 yX7_run wsX7_run) := goodIn_app (goodIn_of _ (by decide +kernel)) ggL_law_X7_run
set_option maxRecDepth 20000 in
theorem ggL_law_X8_run : GoodIn wsL_law wsX8_run := goodIn_r _ [432, 97, 175, 176, 5, 177, 184, 185, 186, 187, 188, 99, 189, 190, 191, 433, 434, 435, 436, 437, 438, 439, 440, 274, 275, 276, 277, 229, 230, 231, 232, 225, 226, 227, 228, 441, 442, 443, 444, 445, 446, 447, 448, 349, 350, 351, 352, 449, 450, 451, 452, 257, 258, 259, 260, 453, 454, 455, 456, 457, 458, 459, 460, 237, 238, 239, 461, 462, 463, 464, 465, 466, 467, 468, 766, 767, 768, 769, 770, 771, 772, 773, 774, 775, 776] (by decide +kernel) (by decide +kernel)
set_option maxRecDepth 20000 in
theorem gL_law_X8_run : GoodIn wsL_law (wsV RL 52 RX8 yX8_run wsX8_run) := goodIn_app (goodIn_of _ (by decide +kernel)) ggL_law_X8_run
set_option maxRecDepth 20000 in
theorem ggL_law_X7_count : GoodIn wsL_law wsX7_count := goodIn_r _ [472, 15, 326, 106, 107, 244, 205, 473, 474, 475, 476, 357, 477, 478, 479, 480, 481, 482, 338, 20, 311, 24, 483, 484, 376, 377, 39, 378, 64, 761, 762, 763, 764, 765, 777, 778, 779, 780, 781, 782, 783, 784, 785, 786, 787, 788, 789, 790, 791, 803, 804, 805, 806, 807, 808, 809, 815, 816, 817, 818, 819, 792, 793, 794, 795, 796, 810, 811, 812, 813, 814] (by decide +kernel) (by decide +kernel)
set_option maxRecDepth 20000 in
theorem gL_law_X7_count : GoodIn wsL_law (wsV RL 53 RX7 yX7_count wsX7_count) := goodIn_app (goodIn_of _ (by decide +kernel)) ggL_law_X7_count
set_option maxRecDepth 20000 in
theorem ggL_law_X8_count : GoodIn wsL_law wsX8_count := goodIn_r _ [488, 97, 188, 489, 274, 275, 276, 5, 277, 229, 230, 231, 232, 225, 226, 227, 228, 465, 466, 467, 468, 237, 238, 239, 445, 446, 447, 448, 349, 350, 351, 352, 175, 176, 177, 766, 767, 768, 769, 770, 771, 772, 773, 774, 775, 776] (by decide +kernel) (by decide +kernel)
set_option maxRecDepth 20000 in
theorem gL_law_X8_count : GoodIn wsL_law (wsV RL 56 RX8 yX8_count wsX8_count) := goodIn_app (goodIn_of _ (by decide +kernel)) ggL_law_X8_count
set_option maxRecDepth 20000 in
theorem ggL_law_X7_account : GoodIn wsL_law wsX7_account := goodIn_r _ [493, 15, 494, 761, 762, 763, 764, 765, 777, 778, 779, 780, 781, 782, 783, 784, 785, 786, 787, 788, 789, 790, 791] (by decide +kernel) (by decide +kernel)
set_option maxRecDepth 20000 in
theorem gL_law_X7_account : GoodIn wsL_law (wsV RL 57 RX7 yX7_account wsX7_account) := goodIn_app (goodIn_of _ (by decide +kernel)) ggL_law_X7_account
set_option maxRecDepth 20000 in
theorem ggL_law_X8_account : GoodIn wsL_law wsX8_account := goodIn_r _ [498, 97, 175, 176, 5, 177, 766, 767, 768, 769, 770, 771, 772, 773, 774, 775, 776] (by decide +kernel) (by decide +kernel)
set_option maxRecDepth 20000 in
theorem gL_law_X8_account : GoodIn wsL_law (wsV RL 60 RX8 yX8_account wsX8_account) := goodIn_app (goodIn_of _ (by decide +kernel)) ggL_law_X8_account
set_option maxRecDepth 20000 in
theorem ggL_law_X7_line : GoodIn wsL_law wsX7_line := goodIn_r _ [502, 15, 338, 339, 340, 503, 504, 505, 761, 762, 763, 764, 765, 777, 778, 779, 780, 781, 782, 783, 784, 785, 786, 787, 788, 789, 790, 791, 810, 811, 812, 813, 814] (by decide +kernel) (by decide +kernel)
set_option maxRecDepth 20000 in
theorem gL_law_X7_line : GoodIn wsL_law (wsV RL 61 RX7 yX7_line wsX7_line) := goodIn_app (goodIn_of _ (by decide +kernel)) ggL_law_X7_line
set_option maxRecDepth 20000 in
theorem ggL_law_X8_line : GoodIn wsL_law wsX8_line := goodIn_r _ [509, 175, 176, 5, 177, 349, 350, 351, 352, 97, 766, 767, 768, 769, 770, 771, 772, 773, 774, 775, 776] (by decide +kernel) (by decide +kernel)
set_option maxRecDepth 20000 in
theorem gL_law_X8_line : GoodIn wsL_law (wsV RL 64 RX8 yX8_line wsX8_line) := goodIn_app (goodIn_of _ (by decide +kernel)) ggL_law_X8_line
set_option maxRecDepth 20000 in
theorem ggL_law_X7_again : GoodIn wsL_law wsX7_again := goodIn_r _ [513, 15, 106, 205, 514, 211, 212, 213, 515, 422, 423, 14, 424, 47, 516, 517, 518, 35, 519, 127, 58, 57, 210, 761, 762, 763, 764, 765, 777, 778, 779, 780, 781, 782, 783, 784, 785, 786, 787, 788, 789, 790, 791, 803, 804, 805, 806, 807, 808, 809] (by decide +kernel) (by decide +kernel)
set_option maxRecDepth 20000 in
theorem gL_law_X7_again : GoodIn wsL_law (wsV RL 65 RX7 yX7_again wsX7_again) := goodIn_app (goodIn_of _ (by decide +kernel)) ggL_law_X7_again
set_option maxRecDepth 20000 in
theorem ggL_law_X8_again : GoodIn wsL_law wsX8_again := goodIn_r _ [523, 97, 278, 279, 280, 5, 281, 225, 226, 227, 228, 237, 238, 239, 766, 767, 768, 769, 770, 771, 772, 773, 774, 775, 776] (by decide +kernel) (by decide +kernel)
set_option maxRecDepth 20000 in
theorem gL_law_X8_again : GoodIn wsL_law (wsV RL 68 RX8 yX8_again wsX8_again) := goodIn_app (goodIn_of _ (by decide +kernel)) ggL_law_X8_again
set_option maxRecDepth 20000 in
theorem ggL_law_X7_vial : GoodIn wsL_law wsX7_vial := goodIn_r _ [527, 15, 477, 478, 528, 529, 530, 761, 762, 763, 764, 765, 777, 778, 779, 780, 781, 782, 783, 784, 785, 786, 787, 788, 789, 790, 791, 815, 816, 817, 818, 819] (by decide +kernel) (by decide +kernel)
set_option maxRecDepth 20000 in
theorem gL_law_X7_vial : GoodIn wsL_law (wsV RL 69 RX7 yX7_vial wsX7_vial) := goodIn_app (goodIn_of _ (by decide +kernel)) ggL_law_X7_vial
set_option maxRecDepth 20000 in
theorem ggL_law_X8_vial : GoodIn wsL_law wsX8_vial := goodIn_r _ [534, 97, 535, 536, 537, 5, 538, 175, 176, 177, 766, 767, 768, 769, 770, 771, 772, 773, 774, 775, 776] (by decide +kernel) (by decide +kernel)
set_option maxRecDepth 20000 in
theorem gL_law_X8_vial : GoodIn wsL_law (wsV RL 72 RX8 yX8_vial wsX8_vial) := goodIn_app (goodIn_of _ (by decide +kernel)) ggL_law_X8_vial
set_option maxRecDepth 20000 in
theorem ggL_law_X7_vialAt : GoodIn wsL_law wsX7_vialAt := goodIn_r _ [542, 15, 477, 478, 543, 544, 545, 43, 546, 163, 73, 761, 762, 763, 764, 765, 777, 778, 779, 780, 781, 782, 783, 784, 785, 786, 787, 788, 789, 790, 791, 815, 816, 817, 818, 819] (by decide +kernel) (by decide +kernel)
set_option maxRecDepth 20000 in
theorem gL_law_X7_vialAt : GoodIn wsL_law (wsV RL 73 RX7 yX7_vialAt wsX7_vialAt) := goodIn_app (goodIn_of _ (by decide +kernel)) ggL_law_X7_vialAt
set_option maxRecDepth 20000 in
theorem ggL_law_X8_vialAt : GoodIn wsL_law wsX8_vialAt := goodIn_r _ [550, 97, 766, 767, 768, 769, 770, 771, 772, 773, 774, 775, 776] (by decide +kernel) (by decide +kernel)
set_option maxRecDepth 20000 in
theorem gL_law_X8_vialAt : GoodIn wsL_law (wsV RL 76 RX8 yX8_vialAt wsX8_vialAt) := goodIn_app (goodIn_of _ (by decide +kernel)) ggL_law_X8_vialAt

/-! ===== the law: its words in the tables ===== -/
set_option maxRecDepth 20000 in
theorem lin1 : GoodIn lw_tbl wsL_law_r1 := goodIn_r _ [53, 54, 37, 679, 680, 46, 55, 56, 57, 58, 59, 60, 61, 62, 38, 297, 298, 230, 231, 43, 299, 250, 251, 44] (by decide +kernel) (by decide +kernel)
set_option maxRecDepth 20000 in
theorem lin2 : GoodIn lw_tbl wsL_law_r2 := goodIn_r _ [300, 266, 267, 45, 301, 63, 64, 65, 66, 67, 68, 39, 170, 107, 108, 40, 172, 137, 138, 41, 174, 106, 176, 178] (by decide +kernel) (by decide +kernel)
set_option maxRecDepth 20000 in
theorem lin3 : GoodIn lw_tbl wsL_law_r3 := goodIn_r _ [165, 167, 169, 168, 42, 70, 71, 72, 79, 82, 84, 87, 89, 110, 111, 112, 113, 116, 118, 120, 123, 140, 141, 142] (by decide +kernel) (by decide +kernel)
set_option maxRecDepth 20000 in
theorem lin4 : GoodIn lw_tbl wsL_law_r4 := goodIn_r _ [148, 150, 152, 232, 233, 234, 235, 236, 242, 238, 253, 254, 255, 265, 259, 269, 270, 271, 272, 274, 283, 681, 682, 683] (by decide +kernel) (by decide +kernel)
set_option maxRecDepth 20000 in
theorem lin5 : GoodIn lw_tbl wsL_law_r5 := goodIn_r _ [684, 685, 686, 687, 689, 695, 313, 314, 315, 316, 171, 74, 317, 318, 319, 320, 321, 322, 323, 324, 325, 326, 327, 328] (by decide +kernel) (by decide +kernel)
set_option maxRecDepth 20000 in
theorem lin6 : GoodIn lw_tbl wsL_law_r6 := goodIn_r _ [329, 330, 331, 332, 333, 334, 335, 73, 336, 337, 338, 339, 239, 241, 340, 341, 342, 343, 180, 182, 184, 186, 188, 190] (by decide +kernel) (by decide +kernel)
set_option maxRecDepth 20000 in
theorem lin7 : GoodIn lw_tbl wsL_law_r7 := goodIn_r _ [192, 193, 195, 197, 344, 345, 346, 347, 76, 348, 349, 350, 351, 352, 353, 354, 355, 356, 357, 143, 145, 358, 359, 360] (by decide +kernel) (by decide +kernel)
set_option maxRecDepth 20000 in
theorem lin8 : GoodIn lw_tbl wsL_law_r8 := goodIn_r _ [361, 362, 363, 719, 720, 721, 722, 723, 724, 725, 726, 727, 728, 729, 730, 731, 732, 734, 9, 735, 688, 736, 737, 738] (by decide +kernel) (by decide +kernel)
set_option maxRecDepth 20000 in
theorem lin9 : GoodIn lw_tbl wsL_law_r9 := goodIn_r _ [739, 741, 10, 742, 364, 365, 366, 367, 80, 83, 85, 88, 90, 181, 368, 369, 370, 371, 372, 373, 47, 374, 375, 376] (by decide +kernel) (by decide +kernel)
set_option maxRecDepth 20000 in
theorem lin10 : GoodIn lw_tbl wsL_law_r10 := goodIn_r _ [377, 743, 744, 745, 746, 747, 749, 11, 750, 751, 753, 12, 754, 755, 757, 13, 758, 759, 761, 14, 762, 763, 764, 765] (by decide +kernel) (by decide +kernel)
set_option maxRecDepth 20000 in
theorem lin11 : GoodIn lw_tbl wsL_law_r11 := goodIn_r _ [378, 379, 380, 381, 77, 382, 383, 384, 385, 386, 387, 388, 389, 766, 767, 768, 769, 770, 772, 15, 773, 390, 391, 392] (by decide +kernel) (by decide +kernel)
set_option maxRecDepth 20000 in
theorem lin12 : GoodIn lw_tbl wsL_law_r12 := goodIn_r _ [393, 394, 395, 396, 397, 398, 774, 775, 776, 777, 778, 780, 16, 781, 782, 784, 17, 785, 399, 400, 401, 402, 403, 404] (by decide +kernel) (by decide +kernel)
set_option maxRecDepth 20000 in
theorem lin13 : GoodIn lw_tbl wsL_law_r13 := goodIn_r _ [405, 406, 407, 408, 409, 410, 411, 412, 48, 413, 414, 415, 416, 417, 418, 786, 787, 788, 789, 419, 420, 421, 422, 240] (by decide +kernel) (by decide +kernel)
set_option maxRecDepth 20000 in
theorem lin14 : GoodIn lw_tbl wsL_law_r14 := goodIn_r _ [423, 424, 425, 426, 790, 791, 792, 793, 427, 428, 429, 430, 431, 433, 177, 794, 795, 796, 797, 798, 799, 800, 435, 436] (by decide +kernel) (by decide +kernel)
set_option maxRecDepth 20000 in
theorem lin15 : GoodIn lw_tbl wsL_law_r15 := goodIn_r _ [437, 438, 173, 114, 117, 439, 440, 441, 442, 801, 802, 803, 804, 805, 807, 18, 808, 443, 444, 445, 446, 191, 447, 448] (by decide +kernel) (by decide +kernel)
set_option maxRecDepth 20000 in
theorem lin16 : GoodIn lw_tbl wsL_law_r16 := goodIn_r _ [449, 450, 451, 452, 453, 454, 455, 456, 457, 458, 459, 461, 0, 462, 78, 463, 464, 465, 466, 467, 469, 1, 470, 75] (by decide +kernel) (by decide +kernel)
set_option maxRecDepth 20000 in
theorem lin17 : GoodIn lw_tbl wsL_law_r17 := goodIn_r _ [81, 471, 472, 473, 475, 2, 476, 86, 477, 478, 479, 480, 481, 482, 483, 484, 485, 487, 3, 488, 489, 115, 121, 124] (by decide +kernel) (by decide +kernel)
set_option maxRecDepth 20000 in
theorem lin18 : GoodIn lw_tbl wsL_law_r18 := goodIn_r _ [147, 490, 491, 492, 493, 494, 495, 496, 497, 498, 500, 4, 501, 502, 503, 504, 505, 506, 507, 508, 509, 809, 810, 811] (by decide +kernel) (by decide +kernel)
set_option maxRecDepth 20000 in
theorem lin19 : GoodIn lw_tbl wsL_law_r19 := goodIn_r _ [812, 813, 815, 19, 816, 817, 819, 20, 820, 821, 823, 21, 824, 825, 827, 22, 828, 829, 831, 23, 832, 833, 835, 24] (by decide +kernel) (by decide +kernel)
set_option maxRecDepth 20000 in
theorem lin20 : GoodIn lw_tbl wsL_law_r20 := goodIn_r _ [836, 837, 839, 25, 840, 841, 843, 26, 844, 845, 847, 27, 848, 510, 511, 512, 513, 183, 185, 187, 189, 175, 144, 146] (by decide +kernel) (by decide +kernel)
set_option maxRecDepth 20000 in
theorem lin21 : GoodIn lw_tbl wsL_law_r21 := goodIn_r _ [194, 196, 198, 258, 514, 849, 850, 851, 852, 690, 515, 516, 517, 518, 179, 853, 854, 855, 856, 519, 520, 521, 522, 119] (by decide +kernel) (by decide +kernel)
set_option maxRecDepth 20000 in
theorem lin22 : GoodIn lw_tbl wsL_law_r22 := goodIn_r _ [122, 125, 857, 858, 859, 860, 523, 524, 525, 526, 532, 527, 528, 529, 530, 531, 861, 862, 863, 864, 533, 534, 535, 536] (by decide +kernel) (by decide +kernel)
set_option maxRecDepth 20000 in
theorem lin23 : GoodIn lw_tbl wsL_law_r23 := goodIn_r _ [149, 151, 153, 865, 866, 867, 868, 869, 871, 28, 872, 537, 538, 539, 540, 541, 542, 543, 544, 873, 874, 875, 876, 545] (by decide +kernel) (by decide +kernel)
set_option maxRecDepth 20000 in
theorem lin24 : GoodIn lw_tbl wsL_law_r24 := goodIn_r _ [546, 547, 548, 549, 877, 878, 879, 880, 881, 883, 29, 884, 550, 551, 552, 553, 554, 885, 886, 887, 888, 555, 556, 557] (by decide +kernel) (by decide +kernel)
set_option maxRecDepth 20000 in
theorem lin25 : GoodIn lw_tbl wsL_law_r25 := goodIn_r _ [558, 889, 890, 891, 892, 559, 560, 561, 562, 563, 564, 565, 566, 256, 567, 568, 569, 570, 571, 893, 894, 895, 896, 572] (by decide +kernel) (by decide +kernel)
set_option maxRecDepth 20000 in
theorem lin26 : GoodIn lw_tbl wsL_law_r26 := goodIn_r _ [573, 574, 575, 897, 898, 899, 900, 576, 577, 578, 579, 279, 277, 281, 580, 581, 582, 583, 278, 280, 282, 257, 276, 584] (by decide +kernel) (by decide +kernel)
set_option maxRecDepth 20000 in
theorem lin27 : GoodIn lw_tbl wsL_law_r27 := goodIn_r _ [585, 587, 5, 588, 589, 591, 6, 592, 593, 594, 595, 596, 597, 598, 599, 600, 602, 603, 604, 605, 606, 607, 608, 49] (by decide +kernel) (by decide +kernel)
set_option maxRecDepth 20000 in
theorem lin28 : GoodIn lw_tbl wsL_law_r28 := goodIn_r _ [609, 942, 610, 611, 612, 613, 614, 943, 616, 617, 618, 619, 620, 621, 622, 623, 624, 625, 50, 626, 627, 628, 629, 630] (by decide +kernel) (by decide +kernel)
set_option maxRecDepth 20000 in
theorem lin29 : GoodIn lw_tbl wsL_law_r29 := goodIn_r _ [632, 633, 51, 634, 635, 636, 52, 637, 638, 639, 640, 641, 642, 643, 644, 645, 646, 647, 648, 650, 652, 656, 658, 7] (by decide +kernel) (by decide +kernel)
set_option maxRecDepth 20000 in
theorem lin30 : GoodIn lw_tbl wsL_law_r30 := goodIn_r _ [659, 660, 661, 662, 663, 664, 665, 666, 668, 8, 669, 670, 671, 672, 901, 902, 903, 904, 692, 693, 694, 905, 907, 30] (by decide +kernel) (by decide +kernel)
set_option maxRecDepth 20000 in
theorem lin31 : GoodIn lw_tbl wsL_law_r31 := goodIn_r _ [908, 691, 909, 911, 31, 912, 913, 915, 32, 916, 921, 922, 923, 924, 925, 926, 917, 919, 33, 920, 927, 929, 34, 930] (by decide +kernel) (by decide +kernel)
set_option maxRecDepth 20000 in
theorem lin32 : GoodIn lw_tbl wsL_law_r32 := goodIn_r _ [931, 933, 35, 934, 935, 936, 937, 674, 675, 676, 677, 275, 678, 938, 939, 940, 941] (by decide +kernel) (by decide +kernel)
set_option maxRecDepth 20000 in
theorem lix7 : GoodIn lw_tbl wsX70 := goodIn_of _ (by decide +kernel)
set_option maxRecDepth 20000 in
theorem lix8 : GoodIn lw_tbl wsX80 := goodIn_of _ (by decide +kernel)
set_option maxRecDepth 20000 in
theorem lix3 : GoodIn lw_tbl wsX30 := goodIn_of _ (by decide +kernel)
set_option maxRecDepth 20000 in
theorem lix1 : GoodIn lw_tbl wsX10 := goodIn_of _ (by decide +kernel)
set_option maxRecDepth 20000 in
theorem lix5 : GoodIn lw_tbl wsX50 := goodIn_of _ (by decide +kernel)
set_option maxRecDepth 20000 in
theorem lix4 : GoodIn lw_tbl wsX40 := goodIn_of _ (by decide +kernel)
set_option maxRecDepth 20000 in
theorem lix0 : GoodIn lw_tbl wsX00 := goodIn_of _ (by decide +kernel)
set_option maxRecDepth 20000 in
theorem lix2 : GoodIn lw_tbl wsX20 := goodIn_of _ (by decide +kernel)
set_option maxRecDepth 20000 in
theorem lix6 : GoodIn lw_tbl wsX60 := goodIn_of _ (by decide +kernel)
theorem wsL_law_in : GoodIn lw_tbl wsL_law := goodIn_app (goodIn_app (goodIn_app (goodIn_app (goodIn_app (goodIn_app (goodIn_app (goodIn_app (goodIn_app (goodIn_app (goodIn_app lin1 (goodIn_app lin2 (goodIn_app lin3 (goodIn_app lin4 (goodIn_app lin5 (goodIn_app lin6 (goodIn_app lin7 (goodIn_app lin8 (goodIn_app lin9 (goodIn_app lin10 (goodIn_app lin11 (goodIn_app lin12 (goodIn_app lin13 (goodIn_app lin14 (goodIn_app lin15 (goodIn_app lin16 (goodIn_app lin17 (goodIn_app lin18 (goodIn_app lin19 (goodIn_app lin20 (goodIn_app lin21 (goodIn_app lin22 (goodIn_app lin23 (goodIn_app lin24 (goodIn_app lin25 (goodIn_app lin26 (goodIn_app lin27 (goodIn_app lin28 (goodIn_app lin29 (goodIn_app lin30 (goodIn_app lin31 (lin32)))))))))))))))))))))))))))))))) lix7) lix8) lix3) lix1) lix5) lix4) lix0) lix2) lix6) (fun _ h => absurd h List.not_mem_nil)
theorem GoodIn.tr {a b x : List Cond} (h : GoodIn b x) (hb : ∀ w ∈ b, w ∈ a) : GoodIn a x := fun w hw => ⟨hb w (h w hw).1, (h w hw).2⟩

/-! ===== the law: its words among the tables', by places ===== -/
set_option maxRecDepth 20000 in
theorem lin1 : GoodIn lw_tbl wsL_law_r1 := goodIn_r _ [25, 26, 10, 27, 28, 29, 30, 31, 32, 33, 34, 11, 269, 270, 202, 203, 16, 271, 222, 223, 17, 272, 238, 239] (by decide +kernel) (by decide +kernel)
set_option maxRecDepth 20000 in
theorem lin2 : GoodIn lw_tbl wsL_law_r2 := goodIn_r _ [18, 273, 35, 36, 37, 38, 39, 40, 12, 142, 79, 80, 13, 144, 109, 110, 14, 146, 78, 148, 150, 137, 139, 141] (by decide +kernel) (by decide +kernel)
set_option maxRecDepth 20000 in
theorem lin3 : GoodIn lw_tbl wsL_law_r3 := goodIn_r _ [140, 15, 42, 43, 44, 51, 54, 56, 59, 61, 82, 83, 84, 85, 88, 90, 92, 95, 112, 113, 114, 120, 122, 124] (by decide +kernel) (by decide +kernel)
set_option maxRecDepth 20000 in
theorem lin4 : GoodIn lw_tbl wsL_law_r4 := goodIn_r _ [204, 205, 206, 207, 208, 214, 210, 225, 226, 227, 237, 231, 241, 242, 243, 244, 246, 255, 650, 651, 9, 652, 394, 395] (by decide +kernel) (by decide +kernel)
set_option maxRecDepth 20000 in
theorem lin5 : GoodIn lw_tbl wsL_law_r5 := goodIn_r _ [396, 397, 149, 143, 46, 49, 153, 155, 157, 159, 161, 163, 147, 116, 118, 166, 168, 170, 145, 212, 230, 398, 399, 400] (by decide +kernel) (by decide +kernel)
set_option maxRecDepth 20000 in
theorem lin6 : GoodIn lw_tbl wsL_law_r6 := goodIn_r _ [401, 285, 286, 287, 288, 289, 290, 291, 292, 293, 294, 295, 296, 297, 298, 299, 300, 301, 302, 303, 304, 305, 306, 307] (by decide +kernel) (by decide +kernel)
set_option maxRecDepth 20000 in
theorem lin7 : GoodIn lw_tbl wsL_law_r7 := goodIn_r _ [45, 308, 309, 310, 311, 211, 213, 312, 313, 314, 315, 152, 154, 156, 158, 160, 162, 164, 165, 167, 169, 316, 317, 318] (by decide +kernel) (by decide +kernel)
set_option maxRecDepth 20000 in
theorem lin8 : GoodIn lw_tbl wsL_law_r8 := goodIn_r _ [319, 48, 320, 321, 322, 323, 324, 325, 326, 327, 328, 329, 115, 117, 330, 331, 332, 333, 334, 335, 336, 337, 338, 339] (by decide +kernel) (by decide +kernel)
set_option maxRecDepth 20000 in
theorem lin9 : GoodIn lw_tbl wsL_law_r9 := goodIn_r _ [52, 55, 57, 60, 62, 340, 341, 342, 343, 344, 345, 19, 346, 347, 348, 349, 549, 550, 551, 552, 553, 554, 555, 556] (by decide +kernel) (by decide +kernel)
set_option maxRecDepth 20000 in
theorem lin10 : GoodIn lw_tbl wsL_law_r10 := goodIn_r _ [557, 558, 559, 560, 533, 534, 535, 536, 537, 538, 539, 540, 541, 378, 379, 380, 381, 382, 384, 386, 387, 388, 389, 86] (by decide +kernel) (by decide +kernel)
set_option maxRecDepth 20000 in
theorem lin11 : GoodIn lw_tbl wsL_law_r11 := goodIn_r _ [89, 390, 391, 392, 393, 639, 640, 641, 642, 576, 577, 578, 579, 581, 582, 583, 584, 585, 586, 587, 588, 589, 591, 4] (by decide +kernel) (by decide +kernel)
set_option maxRecDepth 20000 in
theorem lin12 : GoodIn lw_tbl wsL_law_r12 := goodIn_r _ [592, 50, 593, 594, 596, 5, 597, 47, 53, 598, 599, 600, 602, 6, 603, 58, 604, 605, 606, 607, 608, 609, 610, 611] (by decide +kernel) (by decide +kernel)
set_option maxRecDepth 20000 in
theorem lin13 : GoodIn lw_tbl wsL_law_r13 := goodIn_r _ [612, 614, 7, 615, 616, 87, 93, 96, 119, 617, 618, 619, 620, 621, 622, 623, 624, 625, 627, 8, 628, 629, 525, 526] (by decide +kernel) (by decide +kernel)
set_option maxRecDepth 20000 in
theorem lin14 : GoodIn lw_tbl wsL_law_r14 := goodIn_r _ [527, 630, 631, 632, 633, 402, 403, 404, 405, 151, 406, 407, 408, 409, 91, 94, 97, 542, 543, 544, 545, 121, 123, 125] (by decide +kernel) (by decide +kernel)
set_option maxRecDepth 20000 in
theorem lin15 : GoodIn lw_tbl wsL_law_r15 := goodIn_r _ [561, 562, 563, 564, 565, 566, 567, 568, 572, 573, 574, 575, 580, 634, 635, 636, 637, 532, 638, 646, 647, 648, 649, 653] (by decide +kernel) (by decide +kernel)
set_option maxRecDepth 20000 in
theorem lin16 : GoodIn lw_tbl wsL_law_r16 := goodIn_r _ [654, 655, 656, 657, 658, 659, 660, 228, 661, 662, 663, 664, 665, 666, 667, 668, 669, 251, 249, 253, 414, 415, 416, 417] (by decide +kernel) (by decide +kernel)
set_option maxRecDepth 20000 in
theorem lin17 : GoodIn lw_tbl wsL_law_r17 := goodIn_r _ [250, 252, 254, 229, 248, 418, 419, 421, 0, 422, 423, 425, 1, 426, 427, 428, 429, 430, 431, 432, 433, 434, 436, 437] (by decide +kernel) (by decide +kernel)
set_option maxRecDepth 20000 in
theorem lin18 : GoodIn lw_tbl wsL_law_r18 := goodIn_r _ [438, 439, 440, 441, 442, 20, 443, 670, 444, 445, 446, 447, 448, 671, 450, 451, 452, 453, 454, 455, 456, 457, 458, 459] (by decide +kernel) (by decide +kernel)
set_option maxRecDepth 20000 in
theorem lin19 : GoodIn lw_tbl wsL_law_r19 := goodIn_r _ [21, 460, 461, 462, 463, 464, 466, 467, 22, 468, 469, 470, 23, 471, 472, 473, 474, 475, 476, 477, 478, 479, 480, 481] (by decide +kernel) (by decide +kernel)
set_option maxRecDepth 20000 in
theorem lin20 : GoodIn lw_tbl wsL_law_r20 := goodIn_r _ [482, 484, 486, 490, 492, 2, 493, 494, 363, 24, 364, 495, 496, 497, 498, 499, 500, 502, 3, 503, 504, 505, 506, 370] (by decide +kernel) (by decide +kernel)
set_option maxRecDepth 20000 in
theorem lin21 : GoodIn lw_tbl wsL_law_r21 := goodIn_r _ [371, 372, 373, 374, 375, 376, 377, 517, 518, 519, 520, 521, 522, 523, 524, 528, 529, 530, 531, 546, 547, 548, 513, 514] (by decide +kernel) (by decide +kernel)
set_option maxRecDepth 20000 in
theorem lin22 : GoodIn lw_tbl wsL_law_r22 := goodIn_r _ [515, 516, 410, 411, 412, 413, 247, 507, 509, 510, 511, 512, 350, 351, 352, 353, 354, 355, 356, 357, 358, 359, 360, 361] (by decide +kernel) (by decide +kernel)
set_option maxRecDepth 20000 in
theorem lin23 : GoodIn lw_tbl wsL_law_r23 := goodIn_r _ [362, 365, 366, 367, 368, 369, 569, 570, 571, 643, 644, 645] (by decide +kernel) (by decide +kernel)
set_option maxRecDepth 20000 in
theorem lix7 : GoodIn lw_tbl wsX70 := goodIn_of _ (by decide +kernel)
set_option maxRecDepth 20000 in
theorem lix3 : GoodIn lw_tbl wsX30 := goodIn_of _ (by decide +kernel)
set_option maxRecDepth 20000 in
theorem lix1 : GoodIn lw_tbl wsX10 := goodIn_of _ (by decide +kernel)
set_option maxRecDepth 20000 in
theorem lix5 : GoodIn lw_tbl wsX50 := goodIn_of _ (by decide +kernel)
set_option maxRecDepth 20000 in
theorem lix4 : GoodIn lw_tbl wsX40 := goodIn_of _ (by decide +kernel)
set_option maxRecDepth 20000 in
theorem lix0 : GoodIn lw_tbl wsX00 := goodIn_of _ (by decide +kernel)
set_option maxRecDepth 20000 in
theorem lix2 : GoodIn lw_tbl wsX20 := goodIn_of _ (by decide +kernel)
set_option maxRecDepth 20000 in
theorem lix6 : GoodIn lw_tbl wsX60 := goodIn_of _ (by decide +kernel)
theorem wsL_law_in : GoodIn lw_tbl wsL_law := goodIn_app (goodIn_app (goodIn_app (goodIn_app (goodIn_app (goodIn_app (goodIn_app (goodIn_app (goodIn_app (goodIn_app lin1 (goodIn_app lin2 (goodIn_app lin3 (goodIn_app lin4 (goodIn_app lin5 (goodIn_app lin6 (goodIn_app lin7 (goodIn_app lin8 (goodIn_app lin9 (goodIn_app lin10 (goodIn_app lin11 (goodIn_app lin12 (goodIn_app lin13 (goodIn_app lin14 (goodIn_app lin15 (goodIn_app lin16 (goodIn_app lin17 (goodIn_app lin18 (goodIn_app lin19 (goodIn_app lin20 (goodIn_app lin21 (goodIn_app lin22 (lin23))))))))))))))))))))))) lix7) lix3) lix1) lix5) lix4) lix0) lix2) lix6) (fun _ h => absurd h List.not_mem_nil)
theorem GoodIn.tr {a b x : List Cond} (h : GoodIn b x) (hb : ∀ w ∈ b, w ∈ a) : GoodIn a x := fun w hw => ⟨hb w (h w hw).1, (h w hw).2⟩

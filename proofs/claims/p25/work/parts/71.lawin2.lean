set_option maxRecDepth 20000 in
theorem lin9 : GoodIn lw_tbl wsL_law_r9 := goodIn_r _ [52, 55, 57, 60, 62, 340, 341, 342, 343, 344, 345, 19, 346, 347, 348, 349, 549, 550, 551, 552, 553, 554, 555, 556] (by decide +kernel) (by decide +kernel)
set_option maxRecDepth 20000 in
theorem lin10 : GoodIn lw_tbl wsL_law_r10 := goodIn_r _ [557, 558, 559, 560, 533, 534, 535, 536, 537, 538, 539, 540, 541, 378, 379, 380, 381, 382, 384, 386, 387, 388, 389, 86] (by decide +kernel) (by decide +kernel)
set_option maxRecDepth 20000 in
theorem lin11 : GoodIn lw_tbl wsL_law_r11 := goodIn_r _ [89, 390, 391, 392, 393, 639, 640, 641, 642, 576, 577, 578, 579, 581, 582, 583, 584, 585, 586, 587, 588, 589, 591, 4] (by decide +kernel) (by decide +kernel)
set_option maxRecDepth 20000 in
theorem lin12 : GoodIn lw_tbl wsL_law_r12 := goodIn_r _ [592, 50, 593, 594, 596, 5, 597, 47, 53, 598, 599, 600, 602, 6, 603, 58, 604, 605, 606, 607, 608, 609, 610, 611] (by decide +kernel) (by decide +kernel)
set_option maxRecDepth 20000 in
theorem lin13 : GoodIn lw_tbl wsL_law_r13 := goodIn_r _ [612, 614, 7, 615, 616, 87, 93, 96, 119, 617, 618, 619, 620, 621, 622, 623, 624, 625, 627, 8, 628, 629, 525, 526] (by decide +kernel) (by decide +kernel)
set_option maxRecDepth 20000 in
theorem lin14 : GoodIn lw_tbl wsL_law_r14 := goodIn_r _ [527, 630, 631, 632, 633, 402, 403, 404, 405, 151, 406, 407, 408, 409, 91, 94, 97, 542, 543, 544, 545, 121, 123, 125] (by decide +kernel) (by decide +kernel)
set_option maxRecDepth 20000 in
theorem lin15 : GoodIn lw_tbl wsL_law_r15 := goodIn_r _ [561, 562, 563, 564, 565, 566, 567, 568, 572, 573, 574, 575, 580, 634, 635, 636, 637, 532, 638, 646, 647, 648, 649, 653] (by decide +kernel) (by decide +kernel)
set_option maxRecDepth 20000 in
theorem lin16 : GoodIn lw_tbl wsL_law_r16 := goodIn_r _ [654, 655, 656, 657, 658, 659, 660, 228, 661, 662, 663, 664, 665, 666, 667, 668, 669, 251, 249, 253, 414, 415, 416, 417] (by decide +kernel) (by decide +kernel)

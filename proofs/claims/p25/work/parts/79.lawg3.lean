set_option maxRecDepth 20000 in
theorem ggL_law_X7_init : GoodIn wsL_law wsX7_init := goodIn_r _ [5, 6, 7, 8, 9, 10, 11, 12, 13, 14, 15, 16, 17, 18, 19, 20, 21, 22, 23, 24, 25, 26, 27, 28, 29, 30, 31, 32, 33, 34, 35, 36, 37, 38, 39, 40, 41, 42, 43, 44, 45, 46, 47, 48, 49, 50, 51, 52, 53, 54, 55, 56, 57, 58, 59, 60, 61, 62, 63, 64, 65, 66, 67, 68, 69, 70, 71, 72, 73, 74, 75, 76, 77, 78, 79, 80, 81, 82, 83, 84, 85, 86, 87, 88, 89, 545, 546, 547, 548, 549, 550, 551, 552, 553, 554, 555, 556, 557, 558, 559, 540, 541, 542, 543, 544, 560, 561, 562, 563, 564, 565, 566, 567, 568, 569, 570, 571, 572, 573, 574, 575, 576, 577, 578, 579, 580, 581, 582, 583, 584, 585, 586, 587] (by decide +kernel) (by decide +kernel)
set_option maxRecDepth 20000 in
theorem gL_law_X7_init : GoodIn wsL_law (wsX7_init) := ggL_law_X7_init
set_option maxRecDepth 20000 in
theorem gq_law_refuses__refuses_r1 : GoodIn wsL_law wsL_refuses_r1 := goodIn_r _ [94, 95, 96, 2, 97, 12, 98, 99, 100, 101, 102, 103, 104, 105, 106, 107, 108, 109, 110, 111, 112, 113, 114, 17] (by decide +kernel) (by decide +kernel)
set_option maxRecDepth 20000 in
theorem gq_law_refuses__refuses_r2 : GoodIn wsL_law wsL_refuses_r2 := goodIn_r _ [115, 21, 116, 117, 118, 119, 36, 120, 61, 121, 122, 123, 124, 125, 126, 32, 127, 128, 129, 130, 131, 132, 133, 134] (by decide +kernel) (by decide +kernel)
set_option maxRecDepth 20000 in
theorem gq_law_refuses__refuses_r3 : GoodIn wsL_law wsL_refuses_r3 := goodIn_r _ [135, 136, 137, 138, 139, 140, 141, 142, 143, 144, 145, 146, 147, 16, 148, 149, 150, 77, 151, 152, 153, 11, 154, 33] (by decide +kernel) (by decide +kernel)
set_option maxRecDepth 20000 in
theorem gq_law_refuses__refuses_r4 : GoodIn wsL_law wsL_refuses_r4 := goodIn_r _ [37, 41, 43, 46, 47, 48, 49, 44, 155, 156, 157, 158, 159, 160, 161, 162, 163, 164, 165, 166, 167, 168, 169, 53] (by decide +kernel) (by decide +kernel)
set_option maxRecDepth 20000 in
theorem gq_law_refuses__refuses_r5 : GoodIn wsL_law wsL_refuses_r5 := goodIn_r _ [170, 54, 55, 56, 57, 171, 172, 173, 174, 175, 62, 63, 64, 65, 176, 177, 178, 40, 179, 180, 181, 69, 182, 70] (by decide +kernel) (by decide +kernel)
set_option maxRecDepth 20000 in
theorem gq_law_refuses__refuses_r6 : GoodIn wsL_law wsL_refuses_r6 := goodIn_r _ [71, 183, 184, 185, 186, 187, 188, 189, 190, 191, 192, 193, 194, 195, 196, 197, 198, 199, 200, 201, 202, 203, 204, 205] (by decide +kernel) (by decide +kernel)
set_option maxRecDepth 20000 in
theorem gq_law_refuses__refuses_r7 : GoodIn wsL_law wsL_refuses_r7 := goodIn_r _ [206, 207, 208, 209, 210, 211, 212, 213, 214, 215, 216, 217, 218, 219, 220, 221, 222, 223, 224, 225, 226, 227, 228, 229] (by decide +kernel) (by decide +kernel)
set_option maxRecDepth 20000 in
theorem gq_law_refuses__refuses_r8 : GoodIn wsL_law wsL_refuses_r8 := goodIn_r _ [230, 231, 232, 233, 234, 235, 236, 237, 238, 239, 240, 241, 242, 243, 244, 245, 246, 247, 248, 249, 250, 251, 252, 253] (by decide +kernel) (by decide +kernel)
set_option maxRecDepth 20000 in
theorem gq_law_refuses__refuses_r9 : GoodIn wsL_law wsL_refuses_r9 := goodIn_r _ [254, 255, 256, 257, 258, 259, 260, 261, 262, 263, 264, 265, 266, 267, 268, 269, 270, 271, 272, 273, 274, 275, 276, 277] (by decide +kernel) (by decide +kernel)
set_option maxRecDepth 20000 in
theorem gq_law_refuses__refuses_r10 : GoodIn wsL_law wsL_refuses_r10 := goodIn_r _ [278, 279, 280, 281, 282, 283, 284, 285, 286, 287, 288, 289, 290, 291, 292, 293, 294, 295, 296, 297, 298, 299, 300, 301] (by decide +kernel) (by decide +kernel)
set_option maxRecDepth 20000 in
theorem gq_law_refuses__refuses_r11 : GoodIn wsL_law wsL_refuses_r11 := goodIn_r _ [302, 303, 304, 305, 306, 307, 308, 309, 310, 311, 312, 313, 314, 315, 316, 317, 318, 319, 320, 321, 322, 323, 324, 325] (by decide +kernel) (by decide +kernel)
set_option maxRecDepth 20000 in
theorem gq_law_refuses__refuses_r12 : GoodIn wsL_law wsL_refuses_r12 := goodIn_r _ [326, 327, 328, 329, 330, 331, 332, 333, 334, 335, 336, 337, 338, 339, 340, 341, 342, 343, 344, 345, 346, 347, 13, 348] (by decide +kernel) (by decide +kernel)
set_option maxRecDepth 20000 in
theorem gq_law_refuses__refuses_r13 : GoodIn wsL_law wsL_refuses_r13 := goodIn_r _ [349, 350, 351, 352, 353, 354, 355, 356, 357, 358, 359, 360, 361, 362, 363, 364, 365, 20, 366, 367, 368, 369, 370, 371] (by decide +kernel) (by decide +kernel)
set_option maxRecDepth 20000 in
theorem gq_law_refuses__refuses_r14 : GoodIn wsL_law wsL_refuses_r14 := goodIn_r _ [83, 372, 373, 374, 375, 376, 25, 377, 378, 379, 380, 381, 382, 24, 383, 88, 384, 385, 386, 387, 388, 389, 390, 391] (by decide +kernel) (by decide +kernel)
set_option maxRecDepth 20000 in
theorem gq_law_refuses__refuses_r15 : GoodIn wsL_law wsL_refuses_r15 := goodIn_r _ [392, 393, 89, 394, 395, 396, 397, 398, 399, 400, 401, 402, 403, 404, 405, 406, 407, 408, 409, 410, 411, 412, 413, 414] (by decide +kernel) (by decide +kernel)
set_option maxRecDepth 20000 in
theorem gq_law_refuses__refuses_r16 : GoodIn wsL_law wsL_refuses_r16 := goodIn_r _ [415, 416, 417, 418, 419, 420, 421, 422, 423, 424, 425, 426, 427, 428, 429, 430, 431, 432, 433, 434, 435, 436, 437, 438] (by decide +kernel) (by decide +kernel)
set_option maxRecDepth 20000 in
theorem gq_law_refuses__refuses_r17 : GoodIn wsL_law wsL_refuses_r17 := goodIn_r _ [439, 440, 441, 442, 443, 444, 445, 446, 447, 448, 449, 450, 451, 452, 453, 454, 455, 456, 457, 458, 459, 460, 461, 462] (by decide +kernel) (by decide +kernel)
set_option maxRecDepth 20000 in
theorem gq_law_refuses__refuses_r18 : GoodIn wsL_law wsL_refuses_r18 := goodIn_r _ [463, 464, 465, 466, 467, 468, 469, 470, 471, 472, 473, 474, 475, 476, 477, 478] (by decide +kernel) (by decide +kernel)
set_option maxRecDepth 20000 in
theorem gq_law_refuses_70 : GoodIn wsL_law wsX70 := goodIn_r _ [540, 541, 542, 543, 544] (by decide +kernel) (by decide +kernel)
set_option maxRecDepth 20000 in
theorem gq_law_refuses_30 : GoodIn wsL_law wsX30 := goodIn_r _ [545, 546, 547, 548, 549, 550, 551, 552, 553, 554, 555, 556, 557, 558, 559] (by decide +kernel) (by decide +kernel)
set_option maxRecDepth 20000 in
theorem gq_law_refuses_00 : GoodIn wsL_law wsX00 := goodIn_r _ [571, 572, 573, 574, 575, 576, 577] (by decide +kernel) (by decide +kernel)
set_option maxRecDepth 20000 in
theorem gq_law_refuses_60 : GoodIn wsL_law wsX60 := goodIn_r _ [583, 584, 585, 586, 587] (by decide +kernel) (by decide +kernel)
set_option maxRecDepth 20000 in
theorem gq_law_refuses_10 : GoodIn wsL_law wsX10 := goodIn_r _ [560, 561, 562] (by decide +kernel) (by decide +kernel)
set_option maxRecDepth 20000 in
theorem gq_law_refuses_50 : GoodIn wsL_law wsX50 := goodIn_r _ [563, 564] (by decide +kernel) (by decide +kernel)
set_option maxRecDepth 20000 in
theorem gq_law_refuses_20 : GoodIn wsL_law wsX20 := goodIn_r _ [578, 579, 580, 581, 582] (by decide +kernel) (by decide +kernel)
set_option maxRecDepth 20000 in
theorem gq_law_refuses_40 : GoodIn wsL_law wsX40 := goodIn_r _ [565, 566, 567, 568, 569, 570] (by decide +kernel) (by decide +kernel)
set_option maxRecDepth 100000 in
theorem ggL_law_L_refuses : GoodIn wsL_law wsL_refuses := goodIn_cons 93 rfl (by decide +kernel) (goodIn_app (goodIn_app (goodIn_app (goodIn_app (goodIn_app (goodIn_app (goodIn_app (goodIn_app (goodIn_app gq_law_refuses__refuses_r1 (goodIn_app gq_law_refuses__refuses_r2 (goodIn_app gq_law_refuses__refuses_r3 (goodIn_app gq_law_refuses__refuses_r4 (goodIn_app gq_law_refuses__refuses_r5 (goodIn_app gq_law_refuses__refuses_r6 (goodIn_app gq_law_refuses__refuses_r7 (goodIn_app gq_law_refuses__refuses_r8 (goodIn_app gq_law_refuses__refuses_r9 (goodIn_app gq_law_refuses__refuses_r10 (goodIn_app gq_law_refuses__refuses_r11 (goodIn_app gq_law_refuses__refuses_r12 (goodIn_app gq_law_refuses__refuses_r13 (goodIn_app gq_law_refuses__refuses_r14 (goodIn_app gq_law_refuses__refuses_r15 (goodIn_app gq_law_refuses__refuses_r16 (goodIn_app gq_law_refuses__refuses_r17 (gq_law_refuses__refuses_r18)))))))))))))))))) gq_law_refuses_70) gq_law_refuses_30) gq_law_refuses_00) gq_law_refuses_60) gq_law_refuses_10) gq_law_refuses_50) gq_law_refuses_20) gq_law_refuses_40)
set_option maxRecDepth 20000 in
theorem gL_law_L_refuses : GoodIn wsL_law (va_wsS RL 82 yL_refuses wsL_refuses) := goodIn_app (goodIn_of _ (by decide +kernel)) ggL_law_L_refuses
set_option maxRecDepth 20000 in
theorem ggL_law_X7_undo : GoodIn wsL_law wsX7_undo := goodIn_r _ [482, 17, 115, 12, 483, 484, 485, 16, 486, 149, 77, 150, 151, 152, 153, 11, 154, 33, 37, 41, 43, 46, 47, 48, 49, 44, 155, 156, 157, 158, 159, 160, 161, 162, 163, 164, 165, 166, 167, 32, 168, 144, 169, 53, 170, 54, 55, 56, 57, 171, 172, 173, 36, 174, 61, 175, 62, 63, 64, 65, 176, 177, 178, 40, 179, 180, 181, 69, 182, 70, 71, 540, 541, 542, 543, 544, 560, 561, 562, 545, 546, 547, 548, 549, 550, 551, 552, 553, 554, 555, 556, 557, 558, 559, 571, 572, 573, 574, 575, 576, 577, 578, 579, 580, 581, 582, 583, 584, 585, 586, 587] (by decide +kernel) (by decide +kernel)
set_option maxRecDepth 20000 in
theorem gL_law_X7_undo : GoodIn wsL_law (wsV RL 59 RX7 yX7_undo wsX7_undo) := goodIn_app (goodIn_of _ (by decide +kernel)) ggL_law_X7_undo
set_option maxRecDepth 20000 in
theorem gq_law_sound__sound_r1 : GoodIn wsL_law wsL_sound_r1 := goodIn_r _ [94, 95, 96, 2, 97, 12, 98, 99, 100, 101, 102, 103, 104, 105, 106, 107, 108, 109, 110, 111, 112, 113, 114, 17] (by decide +kernel) (by decide +kernel)
set_option maxRecDepth 20000 in
theorem gq_law_sound__sound_r2 : GoodIn wsL_law wsL_sound_r2 := goodIn_r _ [115, 21, 116, 117, 118, 119, 36, 120, 61, 317, 318, 319, 320, 321, 322, 323, 324, 325, 239, 240, 326, 327, 328, 490] (by decide +kernel) (by decide +kernel)
set_option maxRecDepth 20000 in
theorem gq_law_sound__sound_r3 : GoodIn wsL_law wsL_sound_r3 := goodIn_r _ [491, 492, 493, 353, 202, 203, 204, 494, 310, 311, 11, 312, 44, 495, 496, 497, 32, 498, 144, 55, 54, 201, 220, 221] (by decide +kernel) (by decide +kernel)
set_option maxRecDepth 20000 in
theorem gq_law_sound__sound_r4 : GoodIn wsL_law wsL_sound_r4 := goodIn_r _ [222, 223, 224, 225, 226, 227, 228, 198, 199, 200, 57, 205, 206, 207, 329, 330, 331, 332, 333, 334, 335] (by decide +kernel) (by decide +kernel)
set_option maxRecDepth 20000 in
theorem gq_law_sound_70 : GoodIn wsL_law wsX70 := goodIn_r _ [540, 541, 542, 543, 544] (by decide +kernel) (by decide +kernel)
set_option maxRecDepth 20000 in
theorem gq_law_sound_30 : GoodIn wsL_law wsX30 := goodIn_r _ [545, 546, 547, 548, 549, 550, 551, 552, 553, 554, 555, 556, 557, 558, 559] (by decide +kernel) (by decide +kernel)
set_option maxRecDepth 20000 in
theorem gq_law_sound_00 : GoodIn wsL_law wsX00 := goodIn_r _ [571, 572, 573, 574, 575, 576, 577] (by decide +kernel) (by decide +kernel)
set_option maxRecDepth 20000 in
theorem gq_law_sound_60 : GoodIn wsL_law wsX60 := goodIn_r _ [583, 584, 585, 586, 587] (by decide +kernel) (by decide +kernel)
set_option maxRecDepth 20000 in
theorem gq_law_sound_10 : GoodIn wsL_law wsX10 := goodIn_r _ [560, 561, 562] (by decide +kernel) (by decide +kernel)
set_option maxRecDepth 20000 in
theorem gq_law_sound_50 : GoodIn wsL_law wsX50 := goodIn_r _ [563, 564] (by decide +kernel) (by decide +kernel)
set_option maxRecDepth 20000 in
theorem gq_law_sound_20 : GoodIn wsL_law wsX20 := goodIn_r _ [578, 579, 580, 581, 582] (by decide +kernel) (by decide +kernel)
set_option maxRecDepth 100000 in
theorem ggL_law_L_sound : GoodIn wsL_law wsL_sound := goodIn_cons 489 rfl (by decide +kernel) (goodIn_app (goodIn_app (goodIn_app (goodIn_app (goodIn_app (goodIn_app (goodIn_app (goodIn_app gq_law_sound__sound_r1 (goodIn_app gq_law_sound__sound_r2 (goodIn_app gq_law_sound__sound_r3 (gq_law_sound__sound_r4)))) gq_law_sound_70) gq_law_sound_30) gq_law_sound_00) gq_law_sound_60) gq_law_sound_10) gq_law_sound_50) gq_law_sound_20)
set_option maxRecDepth 20000 in
theorem gL_law_L_sound : GoodIn wsL_law (va_wsS RL 55 yL_sound wsL_sound) := goodIn_app (goodIn_of _ (by decide +kernel)) ggL_law_L_sound
set_option maxRecDepth 20000 in
theorem gq_law_segments__segments_r1 : GoodIn wsL_law wsL_segments_r1 := goodIn_r _ [94, 95, 96, 2, 97, 12, 98, 99, 100, 101, 102, 103, 104, 105, 106, 107, 108, 109, 110, 111, 112, 113, 114, 17] (by decide +kernel) (by decide +kernel)
set_option maxRecDepth 20000 in
theorem gq_law_segments__segments_r2 : GoodIn wsL_law wsL_segments_r2 := goodIn_r _ [115, 21, 116, 117, 118, 119, 36, 120, 61, 188, 189, 190, 191, 192, 193, 194, 195, 196, 197, 198, 199, 32, 200, 57] (by decide +kernel) (by decide +kernel)
set_option maxRecDepth 20000 in
theorem gq_law_segments__segments_r3 : GoodIn wsL_law wsL_segments_r3 := goodIn_r _ [54, 201, 202, 203, 204, 205, 206, 207, 208, 209, 210, 211, 212, 213, 214, 215, 144, 216, 217, 218, 219, 220, 221, 222] (by decide +kernel) (by decide +kernel)
set_option maxRecDepth 20000 in
theorem gq_law_segments__segments_r4 : GoodIn wsL_law wsL_segments_r4 := goodIn_r _ [223, 224, 225, 226, 227, 55, 228, 502, 503, 92, 504, 505, 336, 337, 338, 339, 340, 341, 342, 40, 343, 180, 70, 329] (by decide +kernel) (by decide +kernel)
set_option maxRecDepth 20000 in
theorem gq_law_segments__segments_r5 : GoodIn wsL_law wsL_segments_r5 := goodIn_r _ [330, 331, 332, 333, 334, 335] (by decide +kernel) (by decide +kernel)
set_option maxRecDepth 20000 in
theorem gq_law_segments_70 : GoodIn wsL_law wsX70 := goodIn_r _ [540, 541, 542, 543, 544] (by decide +kernel) (by decide +kernel)
set_option maxRecDepth 20000 in
theorem gq_law_segments_30 : GoodIn wsL_law wsX30 := goodIn_r _ [545, 546, 547, 548, 549, 550, 551, 552, 553, 554, 555, 556, 557, 558, 559] (by decide +kernel) (by decide +kernel)
set_option maxRecDepth 20000 in
theorem gq_law_segments_00 : GoodIn wsL_law wsX00 := goodIn_r _ [571, 572, 573, 574, 575, 576, 577] (by decide +kernel) (by decide +kernel)
set_option maxRecDepth 20000 in
theorem gq_law_segments_60 : GoodIn wsL_law wsX60 := goodIn_r _ [583, 584, 585, 586, 587] (by decide +kernel) (by decide +kernel)
set_option maxRecDepth 20000 in
theorem gq_law_segments_10 : GoodIn wsL_law wsX10 := goodIn_r _ [560, 561, 562] (by decide +kernel) (by decide +kernel)
set_option maxRecDepth 20000 in
theorem gq_law_segments_50 : GoodIn wsL_law wsX50 := goodIn_r _ [563, 564] (by decide +kernel) (by decide +kernel)
set_option maxRecDepth 20000 in
theorem gq_law_segments_20 : GoodIn wsL_law wsX20 := goodIn_r _ [578, 579, 580, 581, 582] (by decide +kernel) (by decide +kernel)
set_option maxRecDepth 100000 in
theorem ggL_law_L_segments : GoodIn wsL_law wsL_segments := goodIn_cons 501 rfl (by decide +kernel) (goodIn_app (goodIn_app (goodIn_app (goodIn_app (goodIn_app (goodIn_app (goodIn_app (goodIn_app gq_law_segments__segments_r1 (goodIn_app gq_law_segments__segments_r2 (goodIn_app gq_law_segments__segments_r3 (goodIn_app gq_law_segments__segments_r4 (gq_law_segments__segments_r5))))) gq_law_segments_70) gq_law_segments_30) gq_law_segments_00) gq_law_segments_60) gq_law_segments_10) gq_law_segments_50) gq_law_segments_20)
set_option maxRecDepth 20000 in
theorem gL_law_L_segments : GoodIn wsL_law (va_wsS RL 85 yL_segments wsL_segments) := goodIn_app (goodIn_of _ (by decide +kernel)) ggL_law_L_segments
set_option maxRecDepth 20000 in
theorem ggL_law_X7_lay : GoodIn wsL_law wsX7_lay := goodIn_r _ [509, 25, 21, 12, 99, 377, 510, 100, 17, 380, 381, 382, 24, 383, 88, 384, 385, 386, 387, 388, 389, 166, 167, 32, 168, 144, 169, 53, 170, 47, 48, 49, 54, 55, 56, 57, 390, 391, 392, 393, 89, 394, 395, 396, 397, 398, 399, 400, 20, 401, 402, 403, 404, 405, 367, 83, 406, 407, 408, 409, 410, 411, 412, 413, 414, 415, 416, 417, 418, 419, 420, 421, 422, 423, 424, 425, 426, 427, 428, 429, 430, 431, 432, 433, 434, 435, 436, 437, 438, 439, 440, 441, 442, 443, 444, 445, 446, 447, 448, 449, 450, 451, 452, 453, 454, 455, 456, 457, 458, 459, 460, 461, 462, 463, 464, 465, 466, 467, 468, 469, 470, 471, 472, 473, 474, 475, 476, 126, 127, 128, 129, 130, 131, 132, 133, 134, 135, 136, 137, 138, 139, 477, 141, 142, 143, 478, 184, 185, 186, 187, 145, 146, 147, 16, 148, 149, 150, 77, 151, 152, 153, 11, 154, 33, 37, 41, 43, 46, 44, 155, 156, 157, 158, 159, 160, 161, 162, 163, 164, 165, 171, 172, 173, 36, 174, 61, 175, 62, 63, 64, 65, 176, 177, 178, 40, 179, 180, 181, 69, 182, 70, 71, 511, 540, 541, 542, 543, 544, 545, 546, 547, 548, 549, 550, 551, 552, 553, 554, 555, 556, 557, 558, 559, 565, 566, 567, 568, 569, 570, 571, 572, 573, 574, 575, 576, 577, 563, 564, 560, 561, 562, 578, 579, 580, 581, 582, 583, 584, 585, 586, 587] (by decide +kernel) (by decide +kernel)
set_option maxRecDepth 20000 in
theorem gL_law_X7_lay : GoodIn wsL_law (wsV RL 89 RX7 yX7_lay wsX7_lay) := goodIn_app (goodIn_of _ (by decide +kernel)) ggL_law_X7_lay
set_option maxRecDepth 20000 in
theorem ggL_law_L_lot : GoodIn wsL_law wsL_lot := goodIn_r _ [514, 515] (by decide +kernel) (by decide +kernel)
set_option maxRecDepth 20000 in
theorem gL_law_L_lot : GoodIn wsL_law (va_wsS RL 92 yL_lot wsL_lot) := goodIn_app (goodIn_of _ (by decide +kernel)) ggL_law_L_lot
set_option maxRecDepth 20000 in
theorem ggL_law_X7_count : GoodIn wsL_law wsX7_count := goodIn_r _ [97, 12, 98, 99, 100, 101, 102, 103, 104, 105, 106, 107, 108, 109, 110, 111, 112, 113, 114, 17, 115, 21, 116, 117, 118, 119, 36, 120, 61, 540, 541, 542, 543, 544, 545, 546, 547, 548, 549, 550, 551, 552, 553, 554, 555, 556, 557, 558, 559, 571, 572, 573, 574, 575, 576, 577, 583, 584, 585, 586, 587, 560, 561, 562, 563, 564, 578, 579, 580, 581, 582] (by decide +kernel) (by decide +kernel)
set_option maxRecDepth 20000 in
theorem gL_law_X7_count : GoodIn wsL_law (wsV RL 9 RX7 yX7_count wsX7_count) := goodIn_app (goodIn_of _ (by decide +kernel)) ggL_law_X7_count
set_option maxRecDepth 20000 in
theorem ggL_law_L_low : GoodIn wsL_law wsL_low := goodIn_r _ [504, 505] (by decide +kernel) (by decide +kernel)
set_option maxRecDepth 20000 in
theorem gL_law_L_low : GoodIn wsL_law (va_wsS RL 40 yL_low wsL_low) := goodIn_app (goodIn_of _ (by decide +kernel)) ggL_law_L_low
set_option maxRecDepth 20000 in
theorem ggL_law_X7_addSegment : GoodIn wsL_law wsX7_addSegment := goodIn_r _ [124, 12, 99, 17, 100, 125, 126, 32, 127, 128, 129, 130, 131, 132, 133, 134, 135, 136, 137, 138, 139, 140, 141, 142, 143, 144, 145, 146, 147, 16, 148, 149, 150, 77, 151, 152, 153, 11, 154, 33, 37, 41, 43, 46, 47, 48, 49, 44, 155, 156, 157, 158, 159, 160, 161, 162, 163, 164, 165, 166, 167, 168, 169, 53, 170, 54, 55, 56, 57, 171, 172, 173, 36, 174, 61, 175, 62, 63, 64, 65, 176, 177, 178, 40, 179, 180, 181, 69, 182, 70, 71, 183, 184, 185, 186, 187, 540, 541, 542, 543, 544, 545, 546, 547, 548, 549, 550, 551, 552, 553, 554, 555, 556, 557, 558, 559, 571, 572, 573, 574, 575, 576, 577, 560, 561, 562, 578, 579, 580, 581, 582, 583, 584, 585, 586, 587] (by decide +kernel) (by decide +kernel)
set_option maxRecDepth 20000 in
theorem gL_law_X7_addSegment : GoodIn wsL_law (wsV RL 68 RX7 yX7_addSegment wsX7_addSegment) := goodIn_app (goodIn_of _ (by decide +kernel)) ggL_law_X7_addSegment
set_option maxRecDepth 20000 in
theorem ggL_law_X7_segment : GoodIn wsL_law wsX7_segment := goodIn_r _ [191, 12, 99, 100, 192, 193, 194, 195, 196, 102, 197, 198, 199, 32, 200, 57, 54, 201, 202, 203, 204, 205, 206, 207, 540, 541, 542, 543, 544, 545, 546, 547, 548, 549, 550, 551, 552, 553, 554, 555, 556, 557, 558, 559, 571, 572, 573, 574, 575, 576, 577] (by decide +kernel) (by decide +kernel)
set_option maxRecDepth 20000 in
theorem gL_law_X7_segment : GoodIn wsL_law (wsV RL 34 RX7 yX7_segment wsX7_segment) := goodIn_app (goodIn_of _ (by decide +kernel)) ggL_law_X7_segment
set_option maxRecDepth 20000 in
theorem ggL_law_X7_set : GoodIn wsL_law wsX7_set := goodIn_r _ [232, 233, 234, 12, 98, 17, 145, 146, 147, 16, 148, 149, 150, 77, 151, 152, 153, 11, 154, 33, 37, 41, 43, 46, 47, 48, 49, 44, 155, 156, 157, 158, 159, 160, 161, 162, 163, 164, 165, 166, 167, 32, 168, 144, 169, 53, 170, 54, 55, 56, 57, 171, 172, 173, 36, 174, 61, 175, 62, 63, 64, 65, 176, 177, 178, 40, 179, 180, 181, 69, 182, 70, 71, 540, 541, 542, 543, 544, 545, 546, 547, 548, 549, 550, 551, 552, 553, 554, 555, 556, 557, 558, 559, 560, 561, 562, 571, 572, 573, 574, 575, 576, 577, 578, 579, 580, 581, 582, 583, 584, 585, 586, 587] (by decide +kernel) (by decide +kernel)
set_option maxRecDepth 20000 in
theorem gL_law_X7_set : GoodIn wsL_law (wsV RL 65 RX7 yX7_set wsX7_set) := goodIn_app (goodIn_of _ (by decide +kernel)) ggL_law_X7_set
set_option maxRecDepth 20000 in
theorem ggL_law_X7_line : GoodIn wsL_law wsX7_line := goodIn_r _ [325, 12, 114, 239, 240, 326, 327, 328, 540, 541, 542, 543, 544, 545, 546, 547, 548, 549, 550, 551, 552, 553, 554, 555, 556, 557, 558, 559, 578, 579, 580, 581, 582] (by decide +kernel) (by decide +kernel)
set_option maxRecDepth 20000 in
theorem gL_law_X7_line : GoodIn wsL_law (wsV RL 18 RX7 yX7_line wsX7_line) := goodIn_app (goodIn_of _ (by decide +kernel)) ggL_law_X7_line
set_option maxRecDepth 20000 in
theorem ggL_law_X7_clean : GoodIn wsL_law wsX7_clean := goodIn_r _ [238, 12, 114, 239, 240, 17, 145, 146, 147, 16, 148, 149, 150, 77, 151, 152, 153, 11, 154, 33, 37, 41, 43, 46, 47, 48, 49, 44, 155, 156, 157, 158, 159, 160, 161, 162, 163, 164, 165, 166, 167, 32, 168, 144, 169, 53, 170, 54, 55, 56, 57, 171, 172, 173, 36, 174, 61, 175, 62, 63, 64, 65, 176, 177, 178, 40, 179, 180, 181, 69, 182, 70, 71, 241, 242, 243, 244, 540, 541, 542, 543, 544, 545, 546, 547, 548, 549, 550, 551, 552, 553, 554, 555, 556, 557, 558, 559, 578, 579, 580, 581, 582, 560, 561, 562, 571, 572, 573, 574, 575, 576, 577, 583, 584, 585, 586, 587] (by decide +kernel) (by decide +kernel)
set_option maxRecDepth 20000 in
theorem gL_law_X7_clean : GoodIn wsL_law (wsV RL 72 RX7 yX7_clean wsX7_clean) := goodIn_app (goodIn_of _ (by decide +kernel)) ggL_law_X7_clean
set_option maxRecDepth 20000 in
theorem ggL_law_X7_renew : GoodIn wsL_law wsX7_renew := goodIn_r _ [519, 12, 102, 17, 145, 146, 147, 16, 148, 149, 150, 77, 151, 152, 153, 11, 154, 33, 37, 41, 43, 46, 47, 48, 49, 44, 155, 156, 157, 158, 159, 160, 161, 162, 163, 164, 165, 166, 167, 32, 168, 144, 169, 53, 170, 54, 55, 56, 57, 171, 172, 173, 36, 174, 61, 175, 62, 63, 64, 65, 176, 177, 178, 40, 179, 180, 181, 69, 182, 70, 71, 520, 521, 522, 523, 524, 525, 526, 527, 528, 464, 465, 466, 529, 530, 531, 532, 533, 540, 541, 542, 543, 544, 545, 546, 547, 548, 549, 550, 551, 552, 553, 554, 555, 556, 557, 558, 559, 560, 561, 562, 571, 572, 573, 574, 575, 576, 577, 578, 579, 580, 581, 582, 583, 584, 585, 586, 587] (by decide +kernel) (by decide +kernel)
set_option maxRecDepth 20000 in
theorem gL_law_X7_renew : GoodIn wsL_law (wsV RL 96 RX7 yX7_renew wsX7_renew) := goodIn_app (goodIn_of _ (by decide +kernel)) ggL_law_X7_renew
set_option maxRecDepth 20000 in
theorem ggL_law_X7_account : GoodIn wsL_law wsX7_account := goodIn_r _ [320, 12, 321, 540, 541, 542, 543, 544, 545, 546, 547, 548, 549, 550, 551, 552, 553, 554, 555, 556, 557, 558, 559] (by decide +kernel) (by decide +kernel)
set_option maxRecDepth 20000 in
theorem gL_law_X7_account : GoodIn wsL_law (wsV RL 15 RX7 yX7_account wsX7_account) := goodIn_app (goodIn_of _ (by decide +kernel)) ggL_law_X7_account
set_option maxRecDepth 20000 in
theorem gq_law_passes__passes_r1 : GoodIn wsL_law wsL_passes_r1 := goodIn_r _ [344, 345, 346, 2, 347, 12, 13, 107, 102, 321, 108, 109, 114, 113, 249, 250, 251, 11, 252, 162, 348, 152, 153, 154] (by decide +kernel) (by decide +kernel)
set_option maxRecDepth 20000 in
theorem gq_law_passes__passes_r2 : GoodIn wsL_law wsL_passes_r2 := goodIn_r _ [33, 37, 41, 43, 46, 47, 48, 49, 44, 155, 156, 157, 158, 159, 160, 161, 163, 164, 165, 166, 167, 32, 168, 144] (by decide +kernel) (by decide +kernel)
set_option maxRecDepth 20000 in
theorem gq_law_passes__passes_r3 : GoodIn wsL_law wsL_passes_r3 := goodIn_r _ [169, 53, 170, 54, 55, 56, 57, 171, 172, 173, 36, 174, 61, 175, 62, 63, 64, 65, 176, 177, 178, 40, 179, 180] (by decide +kernel) (by decide +kernel)
set_option maxRecDepth 20000 in
theorem gq_law_passes__passes_r4 : GoodIn wsL_law wsL_passes_r4 := goodIn_r _ [181, 69, 182, 70, 71, 253, 254, 255, 256, 257, 258, 259, 260, 261, 262, 263, 264, 265, 266, 118, 119, 120, 267, 268] (by decide +kernel) (by decide +kernel)
set_option maxRecDepth 20000 in
theorem gq_law_passes__passes_r5 : GoodIn wsL_law wsL_passes_r5 := goodIn_r _ [269, 270, 271, 272, 273, 213, 214, 215, 216, 217, 218, 219, 274, 275, 276, 277, 278, 279, 280, 281, 282, 283, 284, 285] (by decide +kernel) (by decide +kernel)
set_option maxRecDepth 20000 in
theorem gq_law_passes__passes_r6 : GoodIn wsL_law wsL_passes_r6 := goodIn_r _ [286, 287, 288, 289, 290, 291, 292, 202, 203, 204, 293, 294, 295, 296, 297, 298, 299, 300, 301, 302, 303, 304, 305, 306] (by decide +kernel) (by decide +kernel)
set_option maxRecDepth 20000 in
theorem gq_law_passes__passes_r7 : GoodIn wsL_law wsL_passes_r7 := goodIn_r _ [307, 308, 309, 310, 311, 312, 313, 314, 315, 316, 117, 94, 95, 96, 97, 98, 99, 100, 101, 103, 104, 105, 106, 110] (by decide +kernel) (by decide +kernel)
set_option maxRecDepth 20000 in
theorem gq_law_passes__passes_r8 : GoodIn wsL_law wsL_passes_r8 := goodIn_r _ [111, 112, 17, 115, 21, 116, 317, 318, 319, 320, 502, 503, 92, 504, 505, 349, 350, 351, 352, 353, 354, 245, 246, 247] (by decide +kernel) (by decide +kernel)
set_option maxRecDepth 100000 in
theorem gq_law_passes__passes_r9 : GoodIn wsL_law wsL_passes_r9 := goodIn_cons 248 rfl (by decide +kernel) (goodIn_cons 145 rfl (by decide +kernel) (goodIn_cons 146 rfl (by decide +kernel) (goodIn_cons 147 rfl (by decide +kernel) (goodIn_cons 16 rfl (by decide +kernel) (goodIn_cons 148 rfl (by decide +kernel) (goodIn_cons 149 rfl (by decide +kernel) (goodIn_cons 150 rfl (by decide +kernel) (goodIn_cons 77 rfl (by decide +kernel) (goodIn_cons 151 rfl (by decide +kernel) (goodIn_cons 487 rfl (by decide +kernel) (goodIn_cons 488 rfl (by decide +kernel) (goodIn_cons 489 rfl (by decide +kernel) (goodIn_cons 322 rfl (by decide +kernel) (goodIn_cons 323 rfl (by decide +kernel) (goodIn_cons 324 rfl (by decide +kernel) (goodIn_cons 325 rfl (by decide +kernel) (goodIn_cons 239 rfl (by decide +kernel) (goodIn_cons 240 rfl (by decide +kernel) (goodIn_cons 326 rfl (by decide +kernel) (goodIn_cons 327 rfl (by decide +kernel) (goodIn_cons 328 rfl (by decide +kernel) (goodIn_cons 490 rfl (by decide +kernel) (goodIn_cons 491 rfl (by decide +kernel) (goodIn_nil wsL_law))))))))))))))))))))))))
set_option maxRecDepth 20000 in
theorem gq_law_passes__passes_r10 : GoodIn wsL_law wsL_passes_r10 := goodIn_r _ [492, 493, 494, 495, 496, 497, 498, 201, 220, 221, 222, 223, 224, 225, 226, 227, 228, 198, 199, 200, 205, 206, 207, 329] (by decide +kernel) (by decide +kernel)
set_option maxRecDepth 20000 in
theorem gq_law_passes__passes_r11 : GoodIn wsL_law wsL_passes_r11 := goodIn_r _ [330, 331, 332, 333, 334, 335, 479, 480, 481, 482, 483, 484, 485, 486] (by decide +kernel) (by decide +kernel)
set_option maxRecDepth 20000 in
theorem gq_law_passes_70 : GoodIn wsL_law wsX70 := goodIn_r _ [540, 541, 542, 543, 544] (by decide +kernel) (by decide +kernel)
set_option maxRecDepth 20000 in
theorem gq_law_passes_30 : GoodIn wsL_law wsX30 := goodIn_r _ [545, 546, 547, 548, 549, 550, 551, 552, 553, 554, 555, 556, 557, 558, 559] (by decide +kernel) (by decide +kernel)
set_option maxRecDepth 20000 in
theorem gq_law_passes_60 : GoodIn wsL_law wsX60 := goodIn_r _ [583, 584, 585, 586, 587] (by decide +kernel) (by decide +kernel)
set_option maxRecDepth 20000 in
theorem gq_law_passes_00 : GoodIn wsL_law wsX00 := goodIn_r _ [571, 572, 573, 574, 575, 576, 577] (by decide +kernel) (by decide +kernel)
set_option maxRecDepth 20000 in
theorem gq_law_passes_20 : GoodIn wsL_law wsX20 := goodIn_r _ [578, 579, 580, 581, 582] (by decide +kernel) (by decide +kernel)
set_option maxRecDepth 20000 in
theorem gq_law_passes_10 : GoodIn wsL_law wsX10 := goodIn_r _ [560, 561, 562] (by decide +kernel) (by decide +kernel)
set_option maxRecDepth 20000 in
theorem gq_law_passes_50 : GoodIn wsL_law wsX50 := goodIn_r _ [563, 564] (by decide +kernel) (by decide +kernel)
set_option maxRecDepth 100000 in
theorem ggL_law_L_passes : GoodIn wsL_law wsL_passes := goodIn_cons 536 rfl (by decide +kernel) (goodIn_app (goodIn_app (goodIn_app (goodIn_app (goodIn_app (goodIn_app (goodIn_app (goodIn_app gq_law_passes__passes_r1 (goodIn_app gq_law_passes__passes_r2 (goodIn_app gq_law_passes__passes_r3 (goodIn_app gq_law_passes__passes_r4 (goodIn_app gq_law_passes__passes_r5 (goodIn_app gq_law_passes__passes_r6 (goodIn_app gq_law_passes__passes_r7 (goodIn_app gq_law_passes__passes_r8 (goodIn_app gq_law_passes__passes_r9 (goodIn_app gq_law_passes__passes_r10 (gq_law_passes__passes_r11))))))))))) gq_law_passes_70) gq_law_passes_30) gq_law_passes_60) gq_law_passes_00) gq_law_passes_20) gq_law_passes_10) gq_law_passes_50)
set_option maxRecDepth 20000 in
theorem gL_law_L_passes : GoodIn wsL_law (va_wsS RL 99 yL_passes wsL_passes) := goodIn_app (goodIn_of _ (by decide +kernel)) ggL_law_L_passes
set_option maxRecDepth 20000 in
theorem gq_law_flows__flows_r1 : GoodIn wsL_law wsL_flows_r1 := goodIn_r _ [502, 503, 92, 504, 505, 355, 356, 357, 2, 358, 12, 234, 13, 98, 321, 249, 250, 251, 11, 252, 162, 348, 152, 153] (by decide +kernel) (by decide +kernel)
set_option maxRecDepth 20000 in
theorem gq_law_flows__flows_r2 : GoodIn wsL_law wsL_flows_r2 := goodIn_r _ [154, 33, 37, 41, 43, 46, 47, 48, 49, 44, 155, 156, 157, 158, 159, 160, 161, 163, 164, 165, 166, 167, 32, 168] (by decide +kernel) (by decide +kernel)
set_option maxRecDepth 20000 in
theorem gq_law_flows__flows_r3 : GoodIn wsL_law wsL_flows_r3 := goodIn_r _ [144, 169, 53, 170, 54, 55, 56, 57, 171, 172, 173, 36, 174, 61, 175, 62, 63, 64, 65, 176, 177, 178, 40, 179] (by decide +kernel) (by decide +kernel)
set_option maxRecDepth 20000 in
theorem gq_law_flows__flows_r4 : GoodIn wsL_law wsL_flows_r4 := goodIn_r _ [180, 181, 69, 182, 70, 71, 253, 254, 255, 256, 257, 258, 259, 260, 261, 262, 263, 264, 265, 266, 118, 119, 120, 267] (by decide +kernel) (by decide +kernel)
set_option maxRecDepth 20000 in
theorem gq_law_flows__flows_r5 : GoodIn wsL_law wsL_flows_r5 := goodIn_r _ [268, 269, 270, 271, 272, 273, 213, 214, 215, 216, 217, 218, 219, 274, 275, 276, 277, 278, 279, 280, 281, 282, 283, 284] (by decide +kernel) (by decide +kernel)
set_option maxRecDepth 20000 in
theorem gq_law_flows__flows_r6 : GoodIn wsL_law wsL_flows_r6 := goodIn_r _ [285, 286, 287, 288, 289, 290, 291, 292, 202, 203, 204, 293, 294, 295, 296, 297, 298, 299, 300, 301, 302, 303, 304, 305] (by decide +kernel) (by decide +kernel)
set_option maxRecDepth 20000 in
theorem gq_law_flows__flows_r7 : GoodIn wsL_law wsL_flows_r7 := goodIn_r _ [306, 307, 308, 309, 310, 311, 312, 313, 314, 315, 316, 94, 95, 96, 97, 99, 100, 101, 102, 103, 104, 105, 106, 107] (by decide +kernel) (by decide +kernel)
set_option maxRecDepth 20000 in
theorem gq_law_flows__flows_r8 : GoodIn wsL_law wsL_flows_r8 := goodIn_r _ [108, 109, 110, 111, 112, 113, 114, 17, 115, 21, 116, 117, 229, 230, 231, 232, 233, 145, 146, 147, 16, 148, 149, 150] (by decide +kernel) (by decide +kernel)
set_option maxRecDepth 20000 in
theorem gq_law_flows__flows_r9 : GoodIn wsL_law wsL_flows_r9 := goodIn_r _ [77, 151, 344, 345, 346, 347, 479, 480, 481, 482, 483, 484, 485, 486] (by decide +kernel) (by decide +kernel)
set_option maxRecDepth 20000 in
theorem gq_law_flows_70 : GoodIn wsL_law wsX70 := goodIn_r _ [540, 541, 542, 543, 544] (by decide +kernel) (by decide +kernel)
set_option maxRecDepth 20000 in
theorem gq_law_flows_30 : GoodIn wsL_law wsX30 := goodIn_r _ [545, 546, 547, 548, 549, 550, 551, 552, 553, 554, 555, 556, 557, 558, 559] (by decide +kernel) (by decide +kernel)
set_option maxRecDepth 20000 in
theorem gq_law_flows_00 : GoodIn wsL_law wsX00 := goodIn_r _ [571, 572, 573, 574, 575, 576, 577] (by decide +kernel) (by decide +kernel)
set_option maxRecDepth 20000 in
theorem gq_law_flows_20 : GoodIn wsL_law wsX20 := goodIn_r _ [578, 579, 580, 581, 582] (by decide +kernel) (by decide +kernel)
set_option maxRecDepth 20000 in
theorem gq_law_flows_60 : GoodIn wsL_law wsX60 := goodIn_r _ [583, 584, 585, 586, 587] (by decide +kernel) (by decide +kernel)
set_option maxRecDepth 20000 in
theorem gq_law_flows_10 : GoodIn wsL_law wsX10 := goodIn_r _ [560, 561, 562] (by decide +kernel) (by decide +kernel)
set_option maxRecDepth 20000 in
theorem gq_law_flows_50 : GoodIn wsL_law wsX50 := goodIn_r _ [563, 564] (by decide +kernel) (by decide +kernel)
set_option maxRecDepth 100000 in
theorem ggL_law_L_flows : GoodIn wsL_law wsL_flows := goodIn_cons 539 rfl (by decide +kernel) (goodIn_app (goodIn_app (goodIn_app (goodIn_app (goodIn_app (goodIn_app (goodIn_app (goodIn_app gq_law_flows__flows_r1 (goodIn_app gq_law_flows__flows_r2 (goodIn_app gq_law_flows__flows_r3 (goodIn_app gq_law_flows__flows_r4 (goodIn_app gq_law_flows__flows_r5 (goodIn_app gq_law_flows__flows_r6 (goodIn_app gq_law_flows__flows_r7 (goodIn_app gq_law_flows__flows_r8 (gq_law_flows__flows_r9))))))))) gq_law_flows_70) gq_law_flows_30) gq_law_flows_00) gq_law_flows_20) gq_law_flows_60) gq_law_flows_10) gq_law_flows_50)
set_option maxRecDepth 20000 in
theorem gL_law_L_flows : GoodIn wsL_law (va_wsS RL 103 yL_flows wsL_flows) := goodIn_app (goodIn_of _ (by decide +kernel)) ggL_law_L_flows

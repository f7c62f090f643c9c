set_option maxRecDepth 20000 in
theorem ggL_sound_X7_count : GoodIn wsL_sound wsX7_count := goodIn_r _ [5, 6, 7, 8, 9, 10, 11, 12, 13, 14, 15, 16, 17, 18, 19, 20, 21, 22, 23, 24, 25, 26, 27, 28, 29, 30, 31, 32, 33, 94, 95, 96, 97, 98, 99, 100, 101, 102, 103, 104, 105, 106, 107, 108, 109, 110, 111, 112, 113, 114, 115, 116, 117, 118, 119, 120, 121, 122, 123, 124, 125, 126, 127, 128, 129, 130, 131, 132, 133, 134, 135] (by decide +kernel) (by decide +kernel)
set_option maxRecDepth 20000 in
theorem gL_sound_X7_count : GoodIn wsL_sound (wsV RL 9 RX7 yX7_count wsX7_count) := goodIn_app (goodIn_of _ (by decide +kernel)) ggL_sound_X7_count
set_option maxRecDepth 20000 in
theorem ggL_sound_X7_account : GoodIn wsL_sound wsX7_account := goodIn_r _ [37, 6, 38, 94, 95, 96, 97, 98, 99, 100, 101, 102, 103, 104, 105, 106, 107, 108, 109, 110, 111, 112, 113] (by decide +kernel) (by decide +kernel)
set_option maxRecDepth 20000 in
theorem gL_sound_X7_account : GoodIn wsL_sound (wsV RL 15 RX7 yX7_account wsX7_account) := goodIn_app (goodIn_of _ (by decide +kernel)) ggL_sound_X7_account
set_option maxRecDepth 20000 in
theorem ggL_sound_X7_line : GoodIn wsL_sound wsX7_line := goodIn_r _ [42, 6, 23, 43, 44, 45, 46, 47, 94, 95, 96, 97, 98, 99, 100, 101, 102, 103, 104, 105, 106, 107, 108, 109, 110, 111, 112, 113, 131, 132, 133, 134, 135] (by decide +kernel) (by decide +kernel)
set_option maxRecDepth 20000 in
theorem gL_sound_X7_line : GoodIn wsL_sound (wsV RL 18 RX7 yX7_line wsX7_line) := goodIn_app (goodIn_of _ (by decide +kernel)) ggL_sound_X7_line
set_option maxRecDepth 20000 in
theorem ggL_sound_X7_again : GoodIn wsL_sound wsX7_again := goodIn_r _ [51, 6, 8, 11, 52, 53, 54, 55, 56, 57, 58, 59, 60, 61, 62, 63, 64, 65, 66, 67, 68, 69, 70, 94, 95, 96, 97, 98, 99, 100, 101, 102, 103, 104, 105, 106, 107, 108, 109, 110, 111, 112, 113, 114, 115, 116, 117, 118, 119, 120] (by decide +kernel) (by decide +kernel)
set_option maxRecDepth 20000 in
theorem gL_sound_X7_again : GoodIn wsL_sound (wsV RL 22 RX7 yX7_again wsX7_again) := goodIn_app (goodIn_of _ (by decide +kernel)) ggL_sound_X7_again
set_option maxRecDepth 20000 in
theorem ggL_sound_X7_waterBelow : GoodIn wsL_sound wsX7_waterBelow := goodIn_r _ [74, 6, 8, 10, 75, 76, 77, 65, 78, 67, 68, 79, 80, 81, 82, 83, 69, 70, 53, 54, 55, 84, 85, 86, 94, 95, 96, 97, 98, 99, 100, 101, 102, 103, 104, 105, 106, 107, 108, 109, 110, 111, 112, 113, 114, 115, 116, 117, 118, 119, 120] (by decide +kernel) (by decide +kernel)
set_option maxRecDepth 20000 in
theorem gL_sound_X7_waterBelow : GoodIn wsL_sound (wsV RL 26 RX7 yX7_waterBelow wsX7_waterBelow) := goodIn_app (goodIn_of _ (by decide +kernel)) ggL_sound_X7_waterBelow
set_option maxRecDepth 20000 in
theorem ggL_sound_X7_vial : GoodIn wsL_sound wsX7_vial := goodIn_r _ [90, 6, 17, 18, 91, 92, 93, 94, 95, 96, 97, 98, 99, 100, 101, 102, 103, 104, 105, 106, 107, 108, 109, 110, 111, 112, 113, 121, 122, 123, 124, 125] (by decide +kernel) (by decide +kernel)
set_option maxRecDepth 20000 in
theorem gL_sound_X7_vial : GoodIn wsL_sound (wsV RL 29 RX7 yX7_vial wsX7_vial) := goodIn_app (goodIn_of _ (by decide +kernel)) ggL_sound_X7_vial
set_option maxRecDepth 20000 in
theorem ggL_segments_X7_count : GoodIn wsL_segments wsX7_count := goodIn_r _ [5, 6, 7, 8, 9, 10, 11, 12, 13, 14, 15, 16, 17, 18, 19, 20, 21, 22, 23, 24, 25, 26, 27, 28, 29, 30, 31, 32, 33, 103, 104, 105, 106, 107, 108, 109, 110, 111, 112, 113, 114, 115, 116, 117, 118, 119, 120, 121, 122, 123, 124, 125, 126, 127, 128, 129, 130, 131, 132, 133, 134, 135, 136, 137, 138, 139, 140, 141, 142, 143, 144] (by decide +kernel) (by decide +kernel)
set_option maxRecDepth 20000 in
theorem gL_segments_X7_count : GoodIn wsL_segments (wsV RL 9 RX7 yX7_count wsX7_count) := goodIn_app (goodIn_of _ (by decide +kernel)) ggL_segments_X7_count
set_option maxRecDepth 20000 in
theorem ggL_segments_X7_segment : GoodIn wsL_segments wsX7_segment := goodIn_r _ [37, 6, 8, 9, 38, 39, 40, 41, 42, 11, 43, 44, 45, 46, 47, 48, 49, 50, 51, 52, 53, 54, 55, 56, 103, 104, 105, 106, 107, 108, 109, 110, 111, 112, 113, 114, 115, 116, 117, 118, 119, 120, 121, 122, 123, 124, 125, 126, 127, 128, 129] (by decide +kernel) (by decide +kernel)
set_option maxRecDepth 20000 in
theorem gL_segments_X7_segment : GoodIn wsL_segments (wsV RL 34 RX7 yX7_segment wsX7_segment) := goodIn_app (goodIn_of _ (by decide +kernel)) ggL_segments_X7_segment
set_option maxRecDepth 20000 in
theorem ggL_segments_X7_segmentAt : GoodIn wsL_segments wsX7_segmentAt := goodIn_r _ [60, 6, 8, 10, 61, 62, 63, 46, 64, 65, 66, 67, 68, 69, 48, 49, 103, 104, 105, 106, 107, 108, 109, 110, 111, 112, 113, 114, 115, 116, 117, 118, 119, 120, 121, 122, 123, 124, 125, 126, 127, 128, 129] (by decide +kernel) (by decide +kernel)
set_option maxRecDepth 20000 in
theorem gL_segments_X7_segmentAt : GoodIn wsL_segments (wsV RL 37 RX7 yX7_segmentAt wsX7_segmentAt) := goodIn_app (goodIn_of _ (by decide +kernel)) ggL_segments_X7_segmentAt
set_option maxRecDepth 20000 in
theorem ggL_segments_X7_waterBelow : GoodIn wsL_segments wsX7_waterBelow := goodIn_r _ [73, 6, 8, 10, 74, 75, 76, 46, 77, 65, 78, 79, 44, 45, 47, 48, 49, 50, 51, 52, 53, 54, 55, 56, 103, 104, 105, 106, 107, 108, 109, 110, 111, 112, 113, 114, 115, 116, 117, 118, 119, 120, 121, 122, 123, 124, 125, 126, 127, 128, 129] (by decide +kernel) (by decide +kernel)
set_option maxRecDepth 20000 in
theorem gL_segments_X7_waterBelow : GoodIn wsL_segments (wsV RL 26 RX7 yX7_waterBelow wsX7_waterBelow) := goodIn_app (goodIn_of _ (by decide +kernel)) ggL_segments_X7_waterBelow
set_option maxRecDepth 20000 in
theorem ggL_segments_L_low : GoodIn wsL_segments wsL_low := goodIn_r _ [83, 84] (by decide +kernel) (by decide +kernel)
set_option maxRecDepth 20000 in
theorem gL_segments_L_low : GoodIn wsL_segments (va_wsS RL 40 yL_low wsL_low) := goodIn_app (goodIn_of _ (by decide +kernel)) ggL_segments_L_low
set_option maxRecDepth 20000 in
theorem ggL_segments_X7_vialAt : GoodIn wsL_segments wsX7_vialAt := goodIn_r _ [88, 6, 17, 18, 89, 90, 91, 92, 93, 94, 95, 103, 104, 105, 106, 107, 108, 109, 110, 111, 112, 113, 114, 115, 116, 117, 118, 119, 120, 121, 122, 130, 131, 132, 133, 134] (by decide +kernel) (by decide +kernel)
set_option maxRecDepth 20000 in
theorem gL_segments_X7_vialAt : GoodIn wsL_segments (wsV RL 43 RX7 yX7_vialAt wsX7_vialAt) := goodIn_app (goodIn_of _ (by decide +kernel)) ggL_segments_X7_vialAt
set_option maxRecDepth 20000 in
theorem ggL_segments_X7_vial : GoodIn wsL_segments wsX7_vial := goodIn_r _ [99, 6, 17, 18, 100, 101, 102, 103, 104, 105, 106, 107, 108, 109, 110, 111, 112, 113, 114, 115, 116, 117, 118, 119, 120, 121, 122, 130, 131, 132, 133, 134] (by decide +kernel) (by decide +kernel)
set_option maxRecDepth 20000 in
theorem gL_segments_X7_vial : GoodIn wsL_segments (wsV RL 29 RX7 yX7_vial wsX7_vial) := goodIn_app (goodIn_of _ (by decide +kernel)) ggL_segments_X7_vial
set_option maxRecDepth 20000 in
theorem ggL_passes_X7_ifRun : GoodIn wsL_passes wsX7_ifRun := goodIn_r _ [5, 6, 7, 8, 9, 10, 11, 12, 13, 14, 15, 16, 17, 18, 19, 20, 21, 22, 23, 24, 25, 26, 27, 28, 29, 30, 31, 32, 33, 34, 35, 36, 37, 38, 39, 40, 41, 42, 43, 44, 45, 46, 47, 48, 49, 50, 51, 52, 53, 54, 55, 56, 57, 58, 59, 60, 61, 62, 63, 64, 65, 66, 67, 68, 69, 70, 71, 72, 73, 74, 75, 76, 77, 78, 79, 80, 81, 82, 83, 84, 85, 86, 87, 88, 89, 90, 91, 92, 93, 94, 95, 96, 97, 98, 99, 100, 101, 102, 103, 104, 105, 106, 107, 108, 109, 110, 111, 112, 113, 114, 115, 116, 117, 118, 119, 120, 121, 122, 123, 124, 125, 126, 127, 128, 129, 130, 131, 132, 133, 134, 135, 136, 137, 138, 139, 140, 141, 142, 143, 144, 145, 146, 147, 148, 149, 150, 151, 152, 153, 154, 155, 255, 256, 257, 258, 259, 260, 261, 262, 263, 264, 265, 266, 267, 268, 269, 270, 271, 272, 273, 274, 275, 276, 277, 278, 279, 280, 281, 282, 283, 284, 285, 286, 287, 288, 289, 290, 291] (by decide +kernel) (by decide +kernel)
set_option maxRecDepth 20000 in
theorem gL_passes_X7_ifRun : GoodIn wsL_passes (wsV RL 46 RX7 yX7_ifRun wsX7_ifRun) := goodIn_app (goodIn_of _ (by decide +kernel)) ggL_passes_X7_ifRun
set_option maxRecDepth 20000 in
theorem ggL_passes_X7_count : GoodIn wsL_passes wsX7_count := goodIn_r _ [159, 6, 160, 161, 162, 163, 9, 164, 165, 166, 167, 8, 11, 12, 168, 169, 170, 14, 13, 171, 172, 173, 174, 155, 92, 93, 59, 94, 61, 255, 256, 257, 258, 259, 260, 261, 262, 263, 264, 265, 266, 267, 268, 269, 270, 271, 272, 273, 274, 280, 281, 282, 283, 284, 285, 286, 275, 276, 277, 278, 279, 292, 293, 294, 295, 296, 287, 288, 289, 290, 291] (by decide +kernel) (by decide +kernel)
set_option maxRecDepth 20000 in
theorem gL_passes_X7_count : GoodIn wsL_passes (wsV RL 9 RX7 yX7_count wsX7_count) := goodIn_app (goodIn_of _ (by decide +kernel)) ggL_passes_X7_count
set_option maxRecDepth 20000 in
theorem ggL_passes_X7_account : GoodIn wsL_passes wsX7_account := goodIn_r _ [178, 6, 10, 255, 256, 257, 258, 259, 260, 261, 262, 263, 264, 265, 266, 267, 268, 269, 270, 271, 272, 273, 274] (by decide +kernel) (by decide +kernel)
set_option maxRecDepth 20000 in
theorem gL_passes_X7_account : GoodIn wsL_passes (wsV RL 15 RX7 yX7_account wsX7_account) := goodIn_app (goodIn_of _ (by decide +kernel)) ggL_passes_X7_account
set_option maxRecDepth 20000 in
theorem ggL_passes_L_low : GoodIn wsL_passes wsL_low := goodIn_r _ [182, 183] (by decide +kernel) (by decide +kernel)
set_option maxRecDepth 20000 in
theorem gL_passes_L_low : GoodIn wsL_passes (va_wsS RL 40 yL_low wsL_low) := goodIn_app (goodIn_of _ (by decide +kernel)) ggL_passes_L_low
set_option maxRecDepth 20000 in
theorem ggL_passes_X7_ticksTo : GoodIn wsL_passes wsX7_ticksTo := goodIn_r _ [187, 6, 188, 128, 129, 130, 7, 8, 169, 15, 16, 17, 18, 19, 20, 21, 22, 23, 24, 25, 26, 27, 28, 29, 30, 31, 32, 33, 34, 35, 36, 37, 38, 39, 40, 41, 42, 43, 44, 45, 46, 47, 48, 49, 50, 51, 52, 53, 54, 55, 56, 57, 58, 59, 60, 61, 62, 63, 64, 65, 66, 67, 68, 69, 70, 71, 72, 73, 74, 75, 76, 77, 189, 83, 84, 85, 86, 87, 88, 89, 90, 91, 92, 93, 94, 95, 96, 97, 98, 99, 100, 101, 102, 103, 104, 105, 106, 107, 108, 109, 110, 111, 112, 113, 114, 115, 116, 117, 118, 119, 120, 121, 122, 123, 124, 125, 126, 127, 131, 132, 133, 134, 135, 136, 137, 138, 139, 140, 141, 142, 143, 144, 145, 146, 147, 148, 149, 150, 151, 152, 153, 154, 255, 256, 257, 258, 259, 260, 261, 262, 263, 264, 265, 266, 267, 268, 269, 270, 271, 272, 273, 274, 280, 281, 282, 283, 284, 285, 286, 287, 288, 289, 290, 291, 275, 276, 277, 278, 279] (by decide +kernel) (by decide +kernel)
set_option maxRecDepth 20000 in
theorem gL_passes_X7_ticksTo : GoodIn wsL_passes (wsV RL 49 RX7 yX7_ticksTo wsX7_ticksTo) := goodIn_app (goodIn_of _ (by decide +kernel)) ggL_passes_X7_ticksTo
set_option maxRecDepth 20000 in
theorem ggL_passes_X7_run : GoodIn wsL_passes wsX7_run := goodIn_r _ [193, 6, 171, 8, 15, 16, 17, 18, 19, 20, 194, 195, 196, 197, 198, 199, 200, 201, 202, 22, 23, 24, 25, 26, 27, 28, 29, 30, 31, 32, 33, 34, 35, 36, 37, 38, 39, 40, 41, 42, 43, 44, 45, 46, 47, 48, 49, 50, 51, 52, 53, 54, 55, 56, 57, 58, 59, 60, 61, 62, 63, 64, 65, 66, 67, 68, 69, 70, 71, 72, 73, 74, 75, 76, 77, 78, 79, 80, 81, 82, 83, 84, 85, 86, 87, 88, 89, 90, 91, 92, 93, 94, 95, 96, 97, 98, 99, 100, 101, 102, 103, 104, 105, 106, 107, 108, 109, 110, 111, 112, 113, 114, 115, 116, 117, 118, 119, 120, 121, 122, 123, 124, 125, 126, 127, 128, 129, 130, 131, 132, 133, 134, 135, 136, 137, 138, 139, 140, 141, 142, 143, 144, 145, 146, 147, 148, 149, 150, 151, 152, 153, 154, 255, 256, 257, 258, 259, 260, 261, 262, 263, 264, 265, 266, 267, 268, 269, 270, 271, 272, 273, 274, 292, 293, 294, 280, 281, 282, 283, 284, 285, 286, 287, 288, 289, 290, 291, 275, 276, 277, 278, 279] (by decide +kernel) (by decide +kernel)
set_option maxRecDepth 20000 in
theorem gL_passes_X7_run : GoodIn wsL_passes (wsV RL 52 RX7 yX7_run wsX7_run) := goodIn_app (goodIn_of _ (by decide +kernel)) ggL_passes_X7_run
set_option maxRecDepth 20000 in
theorem gq_passes_sound__sound_r1 : GoodIn wsL_passes wsL_sound_r1 := goodIn_r _ [156, 157, 158, 4, 159, 6, 160, 161, 162, 163, 9, 164, 165, 166, 167, 8, 11, 12, 168, 169, 170, 14, 13, 171] (by decide +kernel) (by decide +kernel)
set_option maxRecDepth 20000 in
theorem gq_passes_sound__sound_r2 : GoodIn wsL_passes wsL_sound_r2 := goodIn_r _ [172, 173, 174, 155, 92, 93, 59, 94, 61, 175, 176, 177, 178, 10, 206, 207, 208, 209, 210, 211, 212, 213, 214, 215] (by decide +kernel) (by decide +kernel)
set_option maxRecDepth 20000 in
theorem gq_passes_sound__sound_r3 : GoodIn wsL_passes wsL_sound_r3 := goodIn_r _ [216, 217, 218, 188, 128, 129, 130, 219, 148, 149, 18, 150, 33, 220, 221, 222, 46, 223, 48, 53, 52, 224, 225, 226] (by decide +kernel) (by decide +kernel)
set_option maxRecDepth 20000 in
theorem gq_passes_sound__sound_r4 : GoodIn wsL_passes wsL_sound_r4 := goodIn_r _ [227, 228, 229, 230, 231, 232, 233, 234, 235, 236, 55, 237, 238, 239, 240, 241, 242, 243, 244, 245, 246] (by decide +kernel) (by decide +kernel)
set_option maxRecDepth 20000 in
theorem gq_passes_sound_70 : GoodIn wsL_passes wsX70 := goodIn_r _ [255, 256, 257, 258, 259] (by decide +kernel) (by decide +kernel)
set_option maxRecDepth 20000 in
theorem gq_passes_sound_30 : GoodIn wsL_passes wsX30 := goodIn_r _ [260, 261, 262, 263, 264, 265, 266, 267, 268, 269, 270, 271, 272, 273, 274] (by decide +kernel) (by decide +kernel)
set_option maxRecDepth 20000 in
theorem gq_passes_sound_00 : GoodIn wsL_passes wsX00 := goodIn_r _ [280, 281, 282, 283, 284, 285, 286] (by decide +kernel) (by decide +kernel)
set_option maxRecDepth 20000 in
theorem gq_passes_sound_60 : GoodIn wsL_passes wsX60 := goodIn_r _ [275, 276, 277, 278, 279] (by decide +kernel) (by decide +kernel)
set_option maxRecDepth 20000 in
theorem gq_passes_sound_10 : GoodIn wsL_passes wsX10 := goodIn_r _ [292, 293, 294] (by decide +kernel) (by decide +kernel)
set_option maxRecDepth 20000 in
theorem gq_passes_sound_50 : GoodIn wsL_passes wsX50 := goodIn_r _ [295, 296] (by decide +kernel) (by decide +kernel)
set_option maxRecDepth 20000 in
theorem gq_passes_sound_20 : GoodIn wsL_passes wsX20 := goodIn_r _ [287, 288, 289, 290, 291] (by decide +kernel) (by decide +kernel)
set_option maxRecDepth 100000 in
theorem ggL_passes_L_sound : GoodIn wsL_passes wsL_sound := goodIn_cons 205 rfl (by decide +kernel) (goodIn_app (goodIn_app (goodIn_app (goodIn_app (goodIn_app (goodIn_app (goodIn_app (goodIn_app gq_passes_sound__sound_r1 (goodIn_app gq_passes_sound__sound_r2 (goodIn_app gq_passes_sound__sound_r3 (gq_passes_sound__sound_r4)))) gq_passes_sound_70) gq_passes_sound_30) gq_passes_sound_00) gq_passes_sound_60) gq_passes_sound_10) gq_passes_sound_50) gq_passes_sound_20)
set_option maxRecDepth 20000 in
theorem gL_passes_L_sound : GoodIn wsL_passes (va_wsS RL 55 yL_sound wsL_sound) := goodIn_app (goodIn_of _ (by decide +kernel)) ggL_passes_L_sound
set_option maxRecDepth 20000 in
theorem ggL_passes_X7_undo : GoodIn wsL_passes wsX7_undo := goodIn_r _ [250, 171, 172, 6, 251, 252, 253, 197, 254, 199, 201, 200, 202, 22, 23, 18, 24, 25, 26, 27, 28, 29, 30, 31, 32, 33, 34, 35, 36, 37, 38, 39, 40, 20, 41, 42, 43, 44, 45, 46, 47, 48, 49, 50, 51, 52, 53, 54, 55, 56, 57, 58, 59, 60, 61, 62, 63, 64, 65, 66, 67, 68, 69, 70, 71, 72, 73, 74, 75, 76, 77, 255, 256, 257, 258, 259, 292, 293, 294, 260, 261, 262, 263, 264, 265, 266, 267, 268, 269, 270, 271, 272, 273, 274, 280, 281, 282, 283, 284, 285, 286, 287, 288, 289, 290, 291, 275, 276, 277, 278, 279] (by decide +kernel) (by decide +kernel)
set_option maxRecDepth 20000 in
theorem gL_passes_X7_undo : GoodIn wsL_passes (wsV RL 59 RX7 yX7_undo wsX7_undo) := goodIn_app (goodIn_of _ (by decide +kernel)) ggL_passes_X7_undo
set_option maxRecDepth 20000 in
theorem ggL_flows_L_low : GoodIn wsL_flows wsL_low := goodIn_r _ [4, 5] (by decide +kernel) (by decide +kernel)
set_option maxRecDepth 20000 in
theorem gL_flows_L_low : GoodIn wsL_flows (va_wsS RL 40 yL_low wsL_low) := goodIn_app (goodIn_of _ (by decide +kernel)) ggL_flows_L_low
set_option maxRecDepth 20000 in
theorem ggL_flows_X7_flowFor : GoodIn wsL_flows wsX7_flowFor := goodIn_r _ [10, 11, 12, 13, 14, 15, 16, 17, 18, 19, 20, 21, 22, 23, 24, 25, 26, 27, 28, 29, 30, 31, 32, 33, 34, 35, 36, 37, 38, 39, 40, 41, 42, 43, 44, 45, 46, 47, 48, 49, 50, 51, 52, 53, 54, 55, 56, 57, 58, 59, 60, 61, 62, 63, 64, 65, 66, 67, 68, 69, 70, 71, 72, 73, 74, 75, 76, 77, 78, 79, 80, 81, 82, 83, 84, 85, 86, 87, 88, 89, 90, 91, 92, 93, 94, 95, 96, 97, 98, 99, 100, 101, 102, 103, 104, 105, 106, 107, 108, 109, 110, 111, 112, 113, 114, 115, 116, 117, 118, 119, 120, 121, 122, 123, 124, 125, 126, 127, 128, 129, 130, 131, 132, 133, 134, 135, 136, 137, 138, 139, 140, 141, 142, 143, 144, 145, 146, 147, 148, 149, 150, 151, 152, 153, 154, 155, 207, 208, 209, 210, 211, 212, 213, 214, 215, 216, 217, 218, 219, 220, 221, 222, 223, 224, 225, 226, 227, 228, 229, 230, 231, 232, 233, 234, 235, 236, 237, 238, 239, 240, 241, 242, 243] (by decide +kernel) (by decide +kernel)
set_option maxRecDepth 20000 in
theorem gL_flows_X7_flowFor : GoodIn wsL_flows (wsV RL 62 RX7 yX7_flowFor wsX7_flowFor) := goodIn_app (goodIn_of _ (by decide +kernel)) ggL_flows_X7_flowFor
set_option maxRecDepth 20000 in
theorem ggL_flows_X7_count : GoodIn wsL_flows wsX7_count := goodIn_r _ [159, 11, 14, 160, 161, 162, 163, 164, 165, 166, 167, 168, 169, 170, 171, 172, 173, 174, 175, 176, 177, 178, 179, 180, 93, 94, 60, 95, 62, 207, 208, 209, 210, 211, 212, 213, 214, 215, 216, 217, 218, 219, 220, 221, 222, 223, 224, 225, 226, 227, 228, 229, 230, 231, 232, 233, 239, 240, 241, 242, 243, 244, 245, 246, 247, 248, 234, 235, 236, 237, 238] (by decide +kernel) (by decide +kernel)
set_option maxRecDepth 20000 in
theorem gL_flows_X7_count : GoodIn wsL_flows (wsV RL 9 RX7 yX7_count wsX7_count) := goodIn_app (goodIn_of _ (by decide +kernel)) ggL_flows_X7_count
set_option maxRecDepth 20000 in
theorem ggL_flows_X7_set : GoodIn wsL_flows wsX7_set := goodIn_r _ [184, 185, 12, 11, 14, 176, 186, 187, 188, 189, 190, 191, 192, 193, 194, 23, 24, 19, 25, 26, 27, 28, 29, 30, 31, 32, 33, 34, 35, 36, 37, 38, 39, 40, 41, 21, 42, 43, 44, 45, 46, 47, 48, 49, 50, 51, 52, 53, 54, 55, 56, 57, 58, 59, 60, 61, 62, 63, 64, 65, 66, 67, 68, 69, 70, 71, 72, 73, 74, 75, 76, 77, 78, 207, 208, 209, 210, 211, 212, 213, 214, 215, 216, 217, 218, 219, 220, 221, 222, 223, 224, 225, 226, 244, 245, 246, 227, 228, 229, 230, 231, 232, 233, 234, 235, 236, 237, 238, 239, 240, 241, 242, 243] (by decide +kernel) (by decide +kernel)
set_option maxRecDepth 20000 in
theorem gL_flows_X7_set : GoodIn wsL_flows (wsV RL 65 RX7 yX7_set wsX7_set) := goodIn_app (goodIn_of _ (by decide +kernel)) ggL_flows_X7_set
set_option maxRecDepth 20000 in
theorem ggL_flows_X7_ifRun : GoodIn wsL_flows wsX7_ifRun := goodIn_r _ [198, 11, 13, 168, 163, 15, 169, 170, 175, 174, 16, 17, 18, 19, 20, 21, 22, 23, 24, 25, 26, 27, 28, 29, 30, 31, 32, 33, 34, 35, 36, 37, 38, 39, 40, 41, 42, 43, 44, 45, 46, 47, 48, 49, 50, 51, 52, 53, 54, 55, 56, 57, 58, 59, 60, 61, 62, 63, 64, 65, 66, 67, 68, 69, 70, 71, 72, 73, 74, 75, 76, 77, 78, 79, 80, 81, 82, 83, 84, 85, 86, 87, 88, 89, 90, 91, 92, 93, 94, 95, 96, 97, 98, 99, 100, 101, 102, 103, 104, 105, 106, 107, 108, 109, 110, 111, 112, 113, 114, 115, 116, 117, 118, 119, 120, 121, 122, 123, 124, 125, 126, 127, 128, 129, 130, 131, 132, 133, 134, 135, 136, 137, 138, 139, 140, 141, 142, 143, 144, 145, 146, 147, 148, 149, 150, 151, 152, 153, 154, 155, 180, 207, 208, 209, 210, 211, 212, 213, 214, 215, 216, 217, 218, 219, 220, 221, 222, 223, 224, 225, 226, 239, 240, 241, 242, 243, 227, 228, 229, 230, 231, 232, 233, 234, 235, 236, 237, 238] (by decide +kernel) (by decide +kernel)
set_option maxRecDepth 20000 in
theorem gL_flows_X7_ifRun : GoodIn wsL_flows (wsV RL 46 RX7 yX7_ifRun wsX7_ifRun) := goodIn_app (goodIn_of _ (by decide +kernel)) ggL_flows_X7_ifRun
set_option maxRecDepth 20000 in
theorem ggL_flows_X7_undo : GoodIn wsL_flows wsX7_undo := goodIn_r _ [202, 176, 177, 11, 203, 204, 205, 189, 206, 191, 193, 192, 194, 23, 24, 19, 25, 26, 27, 28, 29, 30, 31, 32, 33, 34, 35, 36, 37, 38, 39, 40, 41, 21, 42, 43, 44, 45, 46, 47, 48, 49, 50, 51, 52, 53, 54, 55, 56, 57, 58, 59, 60, 61, 62, 63, 64, 65, 66, 67, 68, 69, 70, 71, 72, 73, 74, 75, 76, 77, 78, 207, 208, 209, 210, 211, 244, 245, 246, 212, 213, 214, 215, 216, 217, 218, 219, 220, 221, 222, 223, 224, 225, 226, 227, 228, 229, 230, 231, 232, 233, 234, 235, 236, 237, 238, 239, 240, 241, 242, 243] (by decide +kernel) (by decide +kernel)
set_option maxRecDepth 20000 in
theorem gL_flows_X7_undo : GoodIn wsL_flows (wsV RL 59 RX7 yX7_undo wsX7_undo) := goodIn_app (goodIn_of _ (by decide +kernel)) ggL_flows_X7_undo

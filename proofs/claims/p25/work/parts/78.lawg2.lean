set_option maxRecDepth 20000 in
theorem ggL_refuses_X7_count : GoodIn wsL_refuses wsX7_count := goodIn_r _ [5, 6, 7, 8, 9, 10, 11, 12, 13, 14, 15, 16, 17, 18, 19, 20, 21, 22, 23, 24, 25, 26, 27, 28, 29, 30, 31, 32, 33, 425, 426, 427, 428, 429, 430, 431, 432, 433, 434, 435, 436, 437, 438, 439, 440, 441, 442, 443, 444, 445, 446, 447, 448, 449, 450, 451, 452, 453, 454, 455, 456, 457, 458, 459, 460, 461, 462, 463, 464, 465, 466] (by decide +kernel) (by decide +kernel)
set_option maxRecDepth 20000 in
theorem gL_refuses_X7_count : GoodIn wsL_refuses (wsV RL 9 RX7 yX7_count wsX7_count) := goodIn_app (goodIn_of _ (by decide +kernel)) ggL_refuses_X7_count
set_option maxRecDepth 20000 in
theorem ggL_refuses_X7_addSegment : GoodIn wsL_refuses wsX7_addSegment := goodIn_r _ [37, 6, 8, 24, 9, 38, 39, 40, 41, 42, 43, 44, 45, 46, 47, 48, 49, 50, 51, 52, 53, 54, 55, 56, 57, 58, 59, 60, 61, 62, 63, 64, 65, 66, 67, 68, 69, 70, 71, 72, 73, 74, 75, 76, 77, 78, 79, 80, 81, 82, 83, 84, 85, 86, 87, 88, 89, 90, 91, 92, 93, 94, 95, 96, 97, 98, 99, 100, 101, 102, 103, 104, 31, 105, 33, 106, 107, 108, 109, 110, 111, 112, 113, 114, 115, 116, 117, 118, 119, 120, 121, 122, 123, 124, 125, 126, 425, 426, 427, 428, 429, 430, 431, 432, 433, 434, 435, 436, 437, 438, 439, 440, 441, 442, 443, 444, 445, 446, 447, 448, 449, 450, 451, 457, 458, 459, 462, 463, 464, 465, 466, 452, 453, 454, 455, 456] (by decide +kernel) (by decide +kernel)
set_option maxRecDepth 20000 in
theorem gL_refuses_X7_addSegment : GoodIn wsL_refuses (wsV RL 68 RX7 yX7_addSegment wsX7_addSegment) := goodIn_app (goodIn_of _ (by decide +kernel)) ggL_refuses_X7_addSegment
set_option maxRecDepth 20000 in
theorem ggL_refuses_X7_segment : GoodIn wsL_refuses wsX7_segment := goodIn_r _ [130, 6, 8, 9, 131, 132, 133, 134, 135, 11, 136, 137, 138, 40, 139, 101, 98, 140, 141, 142, 143, 144, 145, 146, 425, 426, 427, 428, 429, 430, 431, 432, 433, 434, 435, 436, 437, 438, 439, 440, 441, 442, 443, 444, 445, 446, 447, 448, 449, 450, 451] (by decide +kernel) (by decide +kernel)
set_option maxRecDepth 20000 in
theorem gL_refuses_X7_segment : GoodIn wsL_refuses (wsV RL 34 RX7 yX7_segment wsX7_segment) := goodIn_app (goodIn_of _ (by decide +kernel)) ggL_refuses_X7_segment
set_option maxRecDepth 20000 in
theorem ggL_refuses_X7_segmentAt : GoodIn wsL_refuses wsX7_segmentAt := goodIn_r _ [150, 6, 8, 10, 151, 152, 153, 40, 154, 58, 155, 156, 157, 158, 101, 98, 425, 426, 427, 428, 429, 430, 431, 432, 433, 434, 435, 436, 437, 438, 439, 440, 441, 442, 443, 444, 445, 446, 447, 448, 449, 450, 451] (by decide +kernel) (by decide +kernel)
set_option maxRecDepth 20000 in
theorem gL_refuses_X7_segmentAt : GoodIn wsL_refuses (wsV RL 37 RX7 yX7_segmentAt wsX7_segmentAt) := goodIn_app (goodIn_of _ (by decide +kernel)) ggL_refuses_X7_segmentAt
set_option maxRecDepth 20000 in
theorem ggL_refuses_X7_waterBelow : GoodIn wsL_refuses wsX7_waterBelow := goodIn_r _ [162, 6, 8, 10, 163, 164, 165, 40, 166, 58, 99, 167, 137, 138, 139, 101, 98, 140, 141, 142, 143, 144, 145, 146, 425, 426, 427, 428, 429, 430, 431, 432, 433, 434, 435, 436, 437, 438, 439, 440, 441, 442, 443, 444, 445, 446, 447, 448, 449, 450, 451] (by decide +kernel) (by decide +kernel)
set_option maxRecDepth 20000 in
theorem gL_refuses_X7_waterBelow : GoodIn wsL_refuses (wsV RL 26 RX7 yX7_waterBelow wsX7_waterBelow) := goodIn_app (goodIn_of _ (by decide +kernel)) ggL_refuses_X7_waterBelow
set_option maxRecDepth 20000 in
theorem ggL_refuses_X7_set : GoodIn wsL_refuses wsX7_set := goodIn_r _ [171, 172, 173, 6, 7, 24, 59, 60, 61, 62, 63, 64, 65, 66, 67, 68, 69, 70, 71, 72, 73, 74, 75, 76, 77, 78, 79, 80, 81, 82, 83, 84, 85, 86, 87, 88, 89, 90, 91, 92, 93, 40, 94, 58, 95, 96, 97, 98, 99, 100, 101, 102, 103, 104, 31, 105, 33, 106, 107, 108, 109, 110, 111, 112, 113, 114, 115, 116, 117, 118, 119, 120, 121, 425, 426, 427, 428, 429, 430, 431, 432, 433, 434, 435, 436, 437, 438, 439, 440, 441, 442, 443, 444, 457, 458, 459, 445, 446, 447, 448, 449, 450, 451, 462, 463, 464, 465, 466, 452, 453, 454, 455, 456] (by decide +kernel) (by decide +kernel)
set_option maxRecDepth 20000 in
theorem gL_refuses_X7_set : GoodIn wsL_refuses (wsV RL 65 RX7 yX7_set wsX7_set) := goodIn_app (goodIn_of _ (by decide +kernel)) ggL_refuses_X7_set
set_option maxRecDepth 20000 in
theorem ggL_refuses_X7_clean : GoodIn wsL_refuses wsX7_clean := goodIn_r _ [177, 6, 23, 178, 179, 24, 59, 60, 61, 62, 63, 64, 65, 66, 67, 68, 69, 70, 71, 72, 73, 74, 75, 76, 77, 78, 79, 80, 81, 82, 83, 84, 85, 86, 87, 88, 89, 90, 91, 92, 93, 40, 94, 58, 95, 96, 97, 98, 99, 100, 101, 102, 103, 104, 31, 105, 33, 106, 107, 108, 109, 110, 111, 112, 113, 114, 115, 116, 117, 118, 119, 120, 121, 180, 181, 182, 183, 425, 426, 427, 428, 429, 430, 431, 432, 433, 434, 435, 436, 437, 438, 439, 440, 441, 442, 443, 444, 462, 463, 464, 465, 466, 457, 458, 459, 445, 446, 447, 448, 449, 450, 451, 452, 453, 454, 455, 456] (by decide +kernel) (by decide +kernel)
set_option maxRecDepth 20000 in
theorem gL_refuses_X7_clean : GoodIn wsL_refuses (wsV RL 72 RX7 yX7_clean wsX7_clean) := goodIn_app (goodIn_of _ (by decide +kernel)) ggL_refuses_X7_clean
set_option maxRecDepth 20000 in
theorem ggL_refuses_X7_run : GoodIn wsL_refuses wsX7_run := goodIn_r _ [187, 6, 24, 16, 188, 189, 190, 70, 191, 88, 59, 60, 61, 62, 63, 64, 65, 66, 67, 68, 69, 71, 72, 73, 74, 75, 76, 77, 78, 79, 80, 81, 82, 83, 84, 85, 86, 87, 89, 90, 91, 92, 93, 40, 94, 58, 95, 96, 97, 98, 99, 100, 101, 102, 103, 104, 31, 105, 33, 106, 107, 108, 109, 110, 111, 112, 113, 114, 115, 116, 117, 118, 119, 120, 121, 192, 193, 194, 195, 196, 197, 198, 199, 200, 201, 202, 203, 204, 205, 29, 30, 32, 206, 207, 208, 209, 210, 211, 212, 152, 153, 154, 155, 156, 157, 158, 213, 214, 215, 216, 217, 218, 219, 220, 221, 222, 223, 224, 225, 226, 227, 228, 229, 230, 231, 141, 142, 143, 232, 233, 234, 235, 236, 237, 238, 239, 240, 241, 242, 243, 244, 245, 246, 247, 248, 249, 250, 251, 252, 253, 254, 255, 425, 426, 427, 428, 429, 430, 431, 432, 433, 434, 435, 436, 437, 438, 439, 440, 441, 442, 443, 444, 457, 458, 459, 445, 446, 447, 448, 449, 450, 451, 462, 463, 464, 465, 466, 452, 453, 454, 455, 456] (by decide +kernel) (by decide +kernel)
set_option maxRecDepth 20000 in
theorem gL_refuses_X7_run : GoodIn wsL_refuses (wsV RL 52 RX7 yX7_run wsX7_run) := goodIn_app (goodIn_of _ (by decide +kernel)) ggL_refuses_X7_run
set_option maxRecDepth 20000 in
theorem ggL_refuses_X7_account : GoodIn wsL_refuses wsX7_account := goodIn_r _ [259, 6, 260, 425, 426, 427, 428, 429, 430, 431, 432, 433, 434, 435, 436, 437, 438, 439, 440, 441, 442, 443, 444] (by decide +kernel) (by decide +kernel)
set_option maxRecDepth 20000 in
theorem gL_refuses_X7_account : GoodIn wsL_refuses (wsV RL 15 RX7 yX7_account wsX7_account) := goodIn_app (goodIn_of _ (by decide +kernel)) ggL_refuses_X7_account
set_option maxRecDepth 20000 in
theorem ggL_refuses_X7_line : GoodIn wsL_refuses wsX7_line := goodIn_r _ [264, 6, 23, 178, 179, 265, 266, 267, 425, 426, 427, 428, 429, 430, 431, 432, 433, 434, 435, 436, 437, 438, 439, 440, 441, 442, 443, 444, 462, 463, 464, 465, 466] (by decide +kernel) (by decide +kernel)
set_option maxRecDepth 20000 in
theorem gL_refuses_X7_line : GoodIn wsL_refuses (wsV RL 18 RX7 yX7_line wsX7_line) := goodIn_app (goodIn_of _ (by decide +kernel)) ggL_refuses_X7_line
set_option maxRecDepth 20000 in
theorem ggL_refuses_X7_vial : GoodIn wsL_refuses wsX7_vial := goodIn_r _ [271, 6, 17, 18, 272, 273, 274, 425, 426, 427, 428, 429, 430, 431, 432, 433, 434, 435, 436, 437, 438, 439, 440, 441, 442, 443, 444, 452, 453, 454, 455, 456] (by decide +kernel) (by decide +kernel)
set_option maxRecDepth 20000 in
theorem gL_refuses_X7_vial : GoodIn wsL_refuses (wsV RL 29 RX7 yX7_vial wsX7_vial) := goodIn_app (goodIn_of _ (by decide +kernel)) ggL_refuses_X7_vial
set_option maxRecDepth 20000 in
theorem ggL_refuses_X7_vialAt : GoodIn wsL_refuses wsX7_vialAt := goodIn_r _ [278, 6, 17, 18, 279, 280, 281, 114, 282, 116, 120, 425, 426, 427, 428, 429, 430, 431, 432, 433, 434, 435, 436, 437, 438, 439, 440, 441, 442, 443, 444, 452, 453, 454, 455, 456] (by decide +kernel) (by decide +kernel)
set_option maxRecDepth 20000 in
theorem gL_refuses_X7_vialAt : GoodIn wsL_refuses (wsV RL 43 RX7 yX7_vialAt wsX7_vialAt) := goodIn_app (goodIn_of _ (by decide +kernel)) ggL_refuses_X7_vialAt
set_option maxRecDepth 20000 in
theorem ggL_refuses_X7_ifRun : GoodIn wsL_refuses wsX7_ifRun := goodIn_r _ [286, 6, 287, 16, 11, 260, 17, 18, 23, 22, 188, 189, 190, 70, 191, 88, 288, 68, 69, 71, 72, 73, 74, 75, 76, 77, 78, 79, 80, 81, 82, 83, 84, 85, 86, 87, 89, 90, 91, 92, 93, 40, 94, 58, 95, 96, 97, 98, 99, 100, 101, 102, 103, 104, 31, 105, 33, 106, 107, 108, 109, 110, 111, 112, 113, 114, 115, 116, 117, 118, 119, 120, 121, 192, 193, 194, 195, 196, 197, 198, 199, 200, 201, 202, 203, 204, 205, 29, 30, 32, 206, 207, 208, 209, 210, 211, 212, 152, 153, 154, 155, 156, 157, 158, 213, 214, 215, 216, 217, 218, 219, 220, 221, 222, 223, 224, 225, 226, 227, 228, 229, 230, 231, 141, 142, 143, 232, 233, 234, 235, 236, 237, 238, 239, 240, 241, 242, 243, 244, 245, 246, 247, 248, 249, 250, 251, 252, 253, 254, 255, 28, 425, 426, 427, 428, 429, 430, 431, 432, 433, 434, 435, 436, 437, 438, 439, 440, 441, 442, 443, 444, 452, 453, 454, 455, 456, 445, 446, 447, 448, 449, 450, 451, 462, 463, 464, 465, 466] (by decide +kernel) (by decide +kernel)
set_option maxRecDepth 20000 in
theorem gL_refuses_X7_ifRun : GoodIn wsL_refuses (wsV RL 46 RX7 yX7_ifRun wsX7_ifRun) := goodIn_app (goodIn_of _ (by decide +kernel)) ggL_refuses_X7_ifRun
set_option maxRecDepth 20000 in
theorem ggL_refuses_X7_ticksTo : GoodIn wsL_refuses wsX7_ticksTo := goodIn_r _ [292, 6, 293, 141, 142, 143, 287, 16, 20, 188, 189, 190, 70, 191, 88, 288, 68, 69, 71, 72, 73, 74, 75, 76, 77, 78, 79, 80, 81, 82, 83, 84, 85, 86, 87, 89, 90, 91, 92, 93, 40, 94, 58, 95, 96, 97, 98, 99, 100, 101, 102, 103, 104, 31, 105, 33, 106, 107, 108, 109, 110, 111, 112, 113, 114, 115, 116, 117, 118, 119, 120, 121, 294, 197, 198, 199, 200, 201, 202, 203, 204, 205, 29, 30, 32, 206, 207, 208, 209, 210, 211, 212, 152, 153, 154, 155, 156, 157, 158, 213, 214, 215, 216, 217, 218, 219, 220, 221, 222, 223, 224, 225, 226, 227, 228, 229, 230, 231, 232, 233, 234, 235, 236, 237, 238, 239, 240, 241, 242, 243, 244, 245, 246, 247, 248, 249, 250, 251, 252, 253, 254, 255, 425, 426, 427, 428, 429, 430, 431, 432, 433, 434, 435, 436, 437, 438, 439, 440, 441, 442, 443, 444, 445, 446, 447, 448, 449, 450, 451, 462, 463, 464, 465, 466, 452, 453, 454, 455, 456] (by decide +kernel) (by decide +kernel)
set_option maxRecDepth 20000 in
theorem gL_refuses_X7_ticksTo : GoodIn wsL_refuses (wsV RL 49 RX7 yX7_ticksTo wsX7_ticksTo) := goodIn_app (goodIn_of _ (by decide +kernel)) ggL_refuses_X7_ticksTo
set_option maxRecDepth 20000 in
theorem ggL_refuses_X7_flowFor : GoodIn wsL_refuses wsX7_flowFor := goodIn_r _ [298, 6, 173, 287, 7, 260, 188, 189, 190, 70, 191, 88, 288, 68, 69, 71, 72, 73, 74, 75, 76, 77, 78, 79, 80, 81, 82, 83, 84, 85, 86, 87, 89, 90, 91, 92, 93, 40, 94, 58, 95, 96, 97, 98, 99, 100, 101, 102, 103, 104, 31, 105, 33, 106, 107, 108, 109, 110, 111, 112, 113, 114, 115, 116, 117, 118, 119, 120, 121, 192, 193, 194, 195, 196, 197, 198, 199, 200, 201, 202, 203, 204, 205, 29, 30, 32, 206, 207, 208, 209, 210, 211, 212, 152, 153, 154, 155, 156, 157, 158, 213, 214, 215, 216, 217, 218, 219, 220, 221, 222, 223, 224, 225, 226, 227, 228, 229, 230, 231, 141, 142, 143, 232, 233, 234, 235, 236, 237, 238, 239, 240, 241, 242, 243, 244, 245, 246, 247, 248, 249, 250, 251, 252, 253, 254, 255, 425, 426, 427, 428, 429, 430, 431, 432, 433, 434, 435, 436, 437, 438, 439, 440, 441, 442, 443, 444, 445, 446, 447, 448, 449, 450, 451, 462, 463, 464, 465, 466, 452, 453, 454, 455, 456] (by decide +kernel) (by decide +kernel)
set_option maxRecDepth 20000 in
theorem gL_refuses_X7_flowFor : GoodIn wsL_refuses (wsV RL 62 RX7 yX7_flowFor wsX7_flowFor) := goodIn_app (goodIn_of _ (by decide +kernel)) ggL_refuses_X7_flowFor
set_option maxRecDepth 20000 in
theorem ggL_refuses_X7_type : GoodIn wsL_refuses wsX7_type := goodIn_r _ [302, 26, 27, 303, 304, 305, 306, 307, 308, 309, 310, 311, 312, 313, 314, 425, 426, 427, 428, 429, 460, 461] (by decide +kernel) (by decide +kernel)
set_option maxRecDepth 20000 in
theorem gL_refuses_X7_type : GoodIn wsL_refuses (wsV RL 75 RX7 yX7_type wsX7_type) := goodIn_app (goodIn_of _ (by decide +kernel)) ggL_refuses_X7_type
set_option maxRecDepth 20000 in
theorem ggL_refuses_X7_fault : GoodIn wsL_refuses wsX7_fault := goodIn_r _ [318, 319, 26, 6, 8, 320, 321, 322, 323, 324, 325, 326, 327, 328, 329, 330, 331, 332, 333, 334, 92, 93, 40, 94, 58, 95, 96, 97, 77, 78, 79, 98, 99, 100, 101, 335, 336, 337, 338, 339, 340, 341, 342, 343, 344, 345, 346, 306, 347, 348, 349, 350, 351, 308, 313, 352, 353, 354, 355, 356, 357, 358, 359, 360, 361, 362, 363, 364, 365, 366, 367, 368, 369, 370, 371, 372, 373, 374, 375, 376, 377, 378, 379, 380, 381, 382, 383, 384, 385, 386, 387, 388, 389, 390, 391, 392, 393, 394, 395, 396, 397, 398, 399, 400, 401, 402, 403, 404, 405, 406, 407, 408, 409, 410, 411, 412, 413, 414, 415, 416, 417, 418, 419, 420, 421, 422, 39, 41, 42, 43, 44, 45, 46, 47, 48, 49, 50, 51, 52, 53, 423, 55, 56, 57, 424, 123, 124, 125, 126, 425, 426, 427, 428, 429, 430, 431, 432, 433, 434, 435, 436, 437, 438, 439, 440, 441, 442, 443, 444, 467, 468, 469, 470, 471, 472, 460, 461, 445, 446, 447, 448, 449, 450, 451] (by decide +kernel) (by decide +kernel)
set_option maxRecDepth 20000 in
theorem gL_refuses_X7_fault : GoodIn wsL_refuses (wsV RL 78 RX7 yX7_fault wsX7_fault) := goodIn_app (goodIn_of _ (by decide +kernel)) ggL_refuses_X7_fault

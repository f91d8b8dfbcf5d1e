-- the law's calls: their words (begun as claim/NAMES.whole.lean.txt)
set_option maxRecDepth 100000 in
theorem ggL_areSigns_X10_doors : GoodIn wsL_areSigns wsX10_doors := goodIn_r _ [154, 6, 9, 7, 155, 128, 62, 63, 64, 65, 66, 67, 32, 33, 34, 35, 36, 156, 161, 162, 163, 164, 165, 166, 167, 168, 169, 170, 171, 172, 173, 174, 175, 176, 177, 178, 179, 180, 181, 186] rfl (by decide +kernel)
set_option maxRecDepth 100000 in
theorem gL_areSigns_X10_doors : GoodIn wsL_areSigns (wsV RL 19 RX10 yX10_doors wsX10_doors) := goodIn_app (goodIn_of _ (by decide +kernel)) ggL_areSigns_X10_doors
set_option maxRecDepth 100000 in
theorem ggL_areSigns_L_ones : GoodIn wsL_areSigns wsL_ones := goodIn_r _ [160] rfl (by decide +kernel)
set_option maxRecDepth 100000 in
theorem gL_areSigns_L_ones : GoodIn wsL_areSigns (va_wsS RL 87 yL_ones wsL_ones) := goodIn_app (goodIn_of _ (by decide +kernel)) ggL_areSigns_L_ones
set_option maxRecDepth 100000 in
theorem ggL_isWalk_X10_count : GoodIn wsL_isWalk wsX10_count := goodIn_r _ [5, 6, 7, 8, 9, 10, 11, 12, 13, 14, 15, 16, 17, 18, 19, 20, 21, 22, 23, 24, 25, 26, 27, 28, 29, 30, 31, 32, 33, 34, 35, 36, 37, 38, 39, 40, 41, 42, 43, 44, 45, 46, 47, 48, 49, 50, 51, 52, 53, 54, 55, 56, 57, 58, 59, 60, 61, 62, 63, 64, 65, 66, 67, 68, 69, 70, 71, 72, 73, 74, 75, 76, 77, 78, 79, 80, 81, 82, 83, 84, 85, 86, 87, 88, 89, 90, 91, 92, 93, 94, 95, 96, 97, 98, 99, 100, 101, 102, 103, 104, 105, 106, 107, 108, 109, 110, 111, 112, 113, 114, 115, 116, 117, 118, 119, 120, 121, 122, 123, 214, 215, 216, 217, 218, 219, 220, 221, 222, 223, 224, 225, 226, 227, 228, 229, 230, 231, 232, 233, 234, 235, 236, 237, 238, 239, 240, 241, 242, 243, 244, 245, 246] rfl (by decide +kernel)
set_option maxRecDepth 100000 in
theorem gL_isWalk_X10_count : GoodIn wsL_isWalk (wsV RL 13 RX10 yX10_count wsX10_count) := goodIn_app (goodIn_of _ (by decide +kernel)) ggL_isWalk_X10_count
set_option maxRecDepth 100000 in
theorem ggL_isWalk_X10_walk : GoodIn wsL_isWalk wsX10_walk := goodIn_r _ [127, 128, 6, 13, 129, 130, 131, 132, 133, 134, 135, 136, 137, 138, 139, 140, 141, 142, 143, 144, 145, 146, 70, 71, 47, 72, 73, 51, 52, 50, 53, 54, 55, 34, 56, 36, 57, 58, 59, 60, 74, 75, 76, 77, 68, 32, 33, 35, 78, 79, 80, 81, 82, 83, 84, 23, 85, 29, 30, 31, 86, 87, 88, 64, 89, 90, 147, 148, 149, 150, 151, 152, 153, 154, 155, 156, 157, 158, 112, 113, 114, 115, 116, 117, 118, 119, 120, 121, 122, 123, 25, 26, 27, 28, 37, 38, 39, 40, 41, 42, 43, 159, 160, 161, 162, 163, 164, 165, 166, 167, 168, 169, 170, 171, 172, 173, 174, 175, 176, 177, 178, 179, 180, 181, 182, 183, 184, 4, 185, 186, 214, 215, 216, 217, 218, 219, 220, 247, 248, 249, 250, 251, 221, 222, 223, 224, 225, 226, 227, 228, 240, 241, 242, 243, 244, 245, 246, 239, 229, 230, 231, 232, 233, 234] rfl (by decide +kernel)
set_option maxRecDepth 100000 in
theorem gL_isWalk_X10_walk : GoodIn wsL_isWalk (wsV RL 25 RX10 yX10_walk wsX10_walk) := goodIn_app (goodIn_of _ (by decide +kernel)) ggL_isWalk_X10_walk
set_option maxRecDepth 100000 in
theorem ggL_isWalk_L_beside : GoodIn wsL_isWalk wsL_beside := goodIn_r _ [190] rfl (by decide +kernel)
set_option maxRecDepth 100000 in
theorem gL_isWalk_L_beside : GoodIn wsL_isWalk (va_wsS RL 90 yL_beside wsL_beside) := goodIn_app (goodIn_of _ (by decide +kernel)) ggL_isWalk_L_beside
set_option maxRecDepth 100000 in
theorem ggL_isWalk_X10_doors : GoodIn wsL_isWalk wsX10_doors := goodIn_r _ [194, 6, 9, 7, 195, 196, 62, 63, 64, 65, 66, 67, 32, 33, 34, 35, 36, 197, 214, 215, 216, 217, 218, 219, 220, 221, 222, 223, 224, 225, 226, 227, 228, 229, 230, 231, 232, 233, 234, 239] rfl (by decide +kernel)
set_option maxRecDepth 100000 in
theorem gL_isWalk_X10_doors : GoodIn wsL_isWalk (wsV RL 19 RX10 yX10_doors wsX10_doors) := goodIn_app (goodIn_of _ (by decide +kernel)) ggL_isWalk_X10_doors
set_option maxRecDepth 100000 in
theorem ggL_isWalk_X10_points : GoodIn wsL_isWalk wsX10_points := goodIn_r _ [201, 6, 9, 13, 7, 15, 196, 62, 63, 64, 65, 66, 67, 32, 33, 34, 35, 36, 202, 112, 113, 23, 114, 115, 116, 117, 118, 29, 119, 31, 120, 121, 122, 123, 25, 26, 27, 28, 30, 37, 38, 39, 40, 41, 42, 43, 203, 70, 71, 47, 72, 73, 51, 52, 50, 53, 54, 55, 56, 57, 58, 59, 60, 74, 75, 76, 77, 68, 78, 79, 80, 81, 82, 83, 84, 85, 86, 87, 88, 89, 90, 204, 160, 161, 162, 163, 164, 165, 166, 167, 168, 169, 170, 171, 172, 173, 174, 175, 176, 177, 178, 214, 215, 216, 217, 218, 219, 220, 221, 222, 223, 224, 225, 226, 227, 228, 229, 230, 231, 232, 233, 234, 239, 240, 241, 242, 243, 244, 245, 246] rfl (by decide +kernel)
set_option maxRecDepth 100000 in
theorem gL_isWalk_X10_points : GoodIn wsL_isWalk (wsV RL 22 RX10 yX10_points wsX10_points) := goodIn_app (goodIn_of _ (by decide +kernel)) ggL_isWalk_X10_points
set_option maxRecDepth 100000 in
theorem ggL_isWalk_X10_walked : GoodIn wsL_isWalk wsX10_walked := goodIn_r _ [208, 128, 6, 13, 129, 7, 15, 130, 132, 133, 134, 135, 136, 137, 138, 139, 140, 141, 142, 143, 144, 145, 146, 70, 71, 47, 72, 73, 51, 52, 50, 53, 54, 55, 34, 56, 36, 57, 58, 59, 60, 74, 75, 76, 77, 68, 32, 33, 35, 78, 79, 80, 81, 82, 83, 84, 23, 85, 29, 30, 31, 86, 87, 88, 64, 89, 90, 147, 148, 149, 150, 151, 152, 153, 154, 155, 156, 157, 158, 112, 113, 114, 115, 116, 117, 118, 119, 120, 121, 122, 123, 25, 26, 27, 28, 37, 38, 39, 40, 41, 42, 43, 159, 160, 161, 162, 163, 164, 165, 166, 167, 168, 169, 170, 171, 172, 173, 174, 175, 176, 177, 178, 179, 180, 181, 182, 183, 184, 4, 185, 186, 214, 215, 216, 217, 218, 219, 220, 247, 248, 249, 250, 251, 221, 222, 223, 224, 225, 226, 227, 228, 240, 241, 242, 243, 244, 245, 246, 239, 229, 230, 231, 232, 233, 234] rfl (by decide +kernel)
set_option maxRecDepth 100000 in
theorem gL_isWalk_X10_walked : GoodIn wsL_isWalk (wsV RL 97 RX10 yX10_walked wsX10_walked) := goodIn_app (goodIn_of _ (by decide +kernel)) ggL_isWalk_X10_walked
set_option maxRecDepth 100000 in
theorem ggL_isWalk_X10_distance : GoodIn wsL_isWalk wsX10_distance := goodIn_r _ [212, 6, 9, 13, 213, 196, 62, 63, 64, 65, 66, 67, 32, 33, 34, 35, 36, 203, 70, 71, 47, 72, 73, 51, 52, 50, 53, 54, 55, 56, 57, 58, 59, 60, 74, 75, 76, 77, 68, 78, 79, 80, 81, 82, 83, 84, 23, 85, 29, 30, 31, 86, 87, 88, 89, 90, 197, 214, 215, 216, 217, 218, 219, 220, 221, 222, 240, 241, 242, 243, 244, 245, 246, 229, 230, 231, 232, 233, 234, 239, 223, 224, 225, 226, 227, 228] rfl (by decide +kernel)
set_option maxRecDepth 100000 in
theorem gL_isWalk_X10_distance : GoodIn wsL_isWalk (wsV RL 60 RX10 yX10_distance wsX10_distance) := goodIn_app (goodIn_of _ (by decide +kernel)) ggL_isWalk_X10_distance
set_option maxRecDepth 100000 in
theorem ggL_acts_L_anyRoom : GoodIn wsL_acts wsL_anyRoom := goodIn_r _ [7, 8, 9, 10, 11, 12, 13, 14, 15, 16, 17, 18, 19, 20, 21, 22, 23, 24, 25, 26, 27, 28, 29, 30, 31, 32, 33, 34, 35, 36, 37, 38, 39, 40, 41, 42, 43, 44, 45, 46, 47, 48, 49, 50, 51, 52, 53, 54, 55, 56, 57, 58, 59, 60, 61, 62, 63, 64, 65, 66, 67, 68, 69, 70, 71, 72, 73, 74, 75, 76, 77, 78, 79, 80, 81, 82, 83, 84, 85, 86, 87, 88, 89, 90, 91, 92, 93, 94, 95, 96, 97, 98, 99, 100, 101, 102, 103, 104, 105, 106, 107, 108, 109, 110, 111, 112, 113, 114, 115, 116, 117, 118, 119, 120, 121, 122, 123, 124, 125, 126, 127, 128, 129, 130, 131, 132, 133, 134, 135, 136, 430, 431, 432, 433, 434, 435, 436, 437, 438, 439, 440, 441, 442, 443, 444, 445, 446, 447, 448, 449, 450, 451, 452, 453, 454, 455, 456, 457, 458, 459, 460, 461, 462] rfl (by decide +kernel)
set_option maxRecDepth 100000 in
theorem gL_acts_L_anyRoom : GoodIn wsL_acts (va_wsS RL 100 yL_anyRoom wsL_anyRoom) := goodIn_app (goodIn_of _ (by decide +kernel)) ggL_acts_L_anyRoom
set_option maxRecDepth 100000 in
theorem ggL_acts_L_low : GoodIn wsL_acts wsL_low := goodIn_r _ [139, 140] rfl (by decide +kernel)
set_option maxRecDepth 100000 in
theorem gL_acts_L_low : GoodIn wsL_acts (va_wsS RL 104 yL_low wsL_low) := goodIn_app (goodIn_of _ (by decide +kernel)) ggL_acts_L_low
set_option maxRecDepth 100000 in
theorem ggL_acts_X10_clearText : GoodIn wsL_acts wsX10_clearText := goodIn_r _ [144, 25, 26, 430, 431, 432, 433, 434, 435, 436, 453, 454] rfl (by decide +kernel)
set_option maxRecDepth 100000 in
theorem gL_acts_X10_clearText : GoodIn wsL_acts (wsV RL 107 RX10 yX10_clearText wsX10_clearText) := goodIn_app (goodIn_of _ (by decide +kernel)) ggL_acts_X10_clearText
set_option maxRecDepth 100000 in
theorem ggL_acts_X10_type : GoodIn wsL_acts wsX10_type := goodIn_r _ [148, 25, 26, 149, 150, 86, 87, 41, 88, 43, 430, 431, 432, 433, 434, 435, 436, 453, 454, 455] rfl (by decide +kernel)
set_option maxRecDepth 100000 in
theorem gL_acts_X10_type : GoodIn wsL_acts (wsV RL 81 RX10 yX10_type wsX10_type) := goodIn_app (goodIn_of _ (by decide +kernel)) ggL_acts_X10_type
set_option maxRecDepth 100000 in
theorem ggL_acts_X10_word : GoodIn wsL_acts wsX10_word := goodIn_r _ [154, 25, 23, 13, 14, 155, 149, 26, 15, 16, 18, 156, 157, 158, 159, 160, 161, 162, 163, 39, 40, 41, 42, 43, 164, 165, 166, 167, 168, 169, 170, 171, 172, 173, 174, 175, 176, 177, 178, 179, 180, 181, 182, 183, 184, 185, 186, 187, 188, 189, 190, 191, 192, 193, 194, 195, 196, 197, 198, 199, 200, 201, 202, 203, 204, 205, 206, 207, 208, 209, 210, 211, 212, 213, 214, 215, 216, 217, 218, 219, 220, 221, 222, 223, 224, 225, 226, 227, 228, 229, 230, 231, 232, 233, 234, 235, 236, 237, 238, 239, 240, 241, 242, 243, 244, 245, 246, 247, 248, 249, 250, 251, 252, 253, 254, 255, 256, 257, 258, 259, 260, 261, 262, 263, 264, 265, 266, 267, 268, 269, 270, 271, 272, 273, 274, 275, 276, 277, 278, 279, 280, 281, 282, 283, 284, 285, 286, 287, 288, 289, 290, 291, 30, 292, 293, 36, 37, 126, 294, 295, 296, 297, 298, 299, 71, 300, 301, 97, 302, 73, 303, 304, 61, 62, 63, 64, 65, 66, 67, 74, 305, 306, 307, 308, 309, 310, 311, 312, 313, 86, 87, 88, 314, 315, 316, 317, 318, 319, 320, 321, 322, 323, 324, 325, 69, 70, 72, 326, 327, 328, 329, 330, 331, 332, 333, 334, 94, 95, 96, 335, 336, 430, 431, 432, 433, 434, 435, 436, 437, 438, 439, 440, 441, 442, 443, 444, 453, 454, 445, 446, 447, 448, 449, 450, 455, 451, 452] rfl (by decide +kernel)
set_option maxRecDepth 100000 in
theorem gL_acts_X10_word : GoodIn wsL_acts (wsV RL 114 RX10 yX10_word wsX10_word) := goodIn_app (goodIn_of _ (by decide +kernel)) ggL_acts_X10_word
set_option maxRecDepth 100000 in
theorem ggL_acts_X10_make : GoodIn wsL_acts wsX10_make := goodIn_r _ [340, 341, 23, 13, 14, 342, 253, 254, 255, 256, 257, 258, 259, 260, 261, 262, 263, 264, 265, 266, 267, 268, 269, 270, 271, 272, 273, 274, 275, 276, 277, 278, 279, 280, 281, 41, 282, 43, 283, 197, 194, 198, 284, 285, 286, 287, 343, 344, 345, 346, 347, 348, 349, 350, 351, 352, 353, 354, 61, 62, 63, 64, 65, 66, 67, 355, 356, 357, 358, 359, 327, 328, 71, 329, 325, 69, 70, 72, 73, 74, 39, 40, 42, 330, 331, 332, 333, 97, 334, 94, 95, 96, 360, 86, 87, 88, 361, 362, 363, 364, 365, 366, 367, 368, 369, 370, 371, 372, 373, 374, 375, 376, 377, 378, 30, 379, 293, 380, 381, 382, 383, 36, 37, 38, 384, 385, 386, 11, 387, 430, 431, 432, 433, 434, 435, 436, 437, 438, 451, 452, 439, 440, 441, 442, 443, 444, 455, 463, 464, 465, 445, 446, 447, 448, 449, 450] rfl (by decide +kernel)
set_option maxRecDepth 100000 in
theorem gL_acts_X10_make : GoodIn wsL_acts (wsV RL 44 RX10 yX10_make wsX10_make) := goodIn_app (goodIn_of _ (by decide +kernel)) ggL_acts_X10_make
set_option maxRecDepth 100000 in
theorem ggL_acts_X10_door : GoodIn wsL_acts wsX10_door := goodIn_r _ [391, 13, 16, 23, 14, 136, 69, 70, 71, 72, 73, 74, 39, 40, 41, 42, 43, 392, 393, 11, 394, 395, 327, 328, 329, 325, 330, 331, 332, 333, 97, 334, 94, 95, 96, 253, 254, 255, 256, 257, 258, 259, 260, 261, 262, 263, 264, 265, 266, 267, 268, 269, 270, 271, 272, 273, 274, 275, 276, 277, 278, 279, 280, 281, 282, 283, 197, 194, 198, 284, 285, 286, 287, 396, 90, 91, 30, 92, 36, 37, 38, 397, 377, 378, 379, 293, 380, 381, 382, 383, 384, 86, 87, 88, 385, 386, 387, 430, 431, 432, 433, 434, 435, 436, 437, 438, 445, 446, 447, 448, 449, 450, 455, 451, 452, 439, 440, 441, 442, 443, 444] rfl (by decide +kernel)
set_option maxRecDepth 100000 in
theorem gL_acts_X10_door : GoodIn wsL_acts (wsV RL 47 RX10 yX10_door wsX10_door) := goodIn_app (goodIn_of _ (by decide +kernel)) ggL_acts_X10_door
set_option maxRecDepth 100000 in
theorem ggL_acts_X10_start : GoodIn wsL_acts wsX10_start := goodIn_r _ [401, 13, 16, 23, 14, 21, 136, 69, 70, 71, 72, 73, 74, 39, 40, 41, 42, 43, 253, 254, 255, 256, 257, 258, 259, 260, 261, 262, 263, 264, 265, 266, 267, 268, 269, 270, 271, 272, 273, 274, 275, 276, 277, 278, 279, 280, 281, 282, 283, 197, 194, 198, 284, 285, 286, 287, 430, 431, 432, 433, 434, 435, 436, 437, 438, 439, 440, 441, 442, 443, 444, 445, 446, 447, 448, 449, 450, 455, 451, 452] rfl (by decide +kernel)
set_option maxRecDepth 100000 in
theorem gL_acts_X10_start : GoodIn wsL_acts (wsV RL 54 RX10 yX10_start wsX10_start) := goodIn_app (goodIn_of _ (by decide +kernel)) ggL_acts_X10_start
set_option maxRecDepth 100000 in
theorem ggL_acts_X10_goal : GoodIn wsL_acts wsX10_goal := goodIn_r _ [405, 13, 16, 23, 14, 22, 136, 69, 70, 71, 72, 73, 74, 39, 40, 41, 42, 43, 253, 254, 255, 256, 257, 258, 259, 260, 261, 262, 263, 264, 265, 266, 267, 268, 269, 270, 271, 272, 273, 274, 275, 276, 277, 278, 279, 280, 281, 282, 283, 197, 194, 198, 284, 285, 286, 287, 430, 431, 432, 433, 434, 435, 436, 437, 438, 439, 440, 441, 442, 443, 444, 445, 446, 447, 448, 449, 450, 455, 451, 452] rfl (by decide +kernel)
set_option maxRecDepth 100000 in
theorem gL_acts_X10_goal : GoodIn wsL_acts (wsV RL 57 RX10 yX10_goal wsX10_goal) := goodIn_app (goodIn_of _ (by decide +kernel)) ggL_acts_X10_goal
set_option maxRecDepth 100000 in
theorem ggL_acts_X10_unsign : GoodIn wsL_acts wsX10_unsign := goodIn_r _ [409, 13, 16, 23, 14, 136, 69, 70, 71, 72, 73, 74, 39, 40, 41, 42, 43, 410, 123, 124, 30, 125, 36, 126, 38, 253, 254, 255, 256, 257, 258, 259, 260, 261, 262, 263, 264, 265, 266, 267, 268, 269, 270, 271, 272, 273, 274, 275, 276, 277, 278, 279, 280, 281, 282, 283, 197, 194, 198, 284, 285, 286, 287, 411, 412, 413, 414, 415, 416, 417, 418, 384, 86, 87, 88, 430, 431, 432, 433, 434, 435, 436, 437, 438, 445, 446, 447, 448, 449, 450, 455, 439, 440, 441, 442, 443, 444, 451, 452] rfl (by decide +kernel)
set_option maxRecDepth 100000 in
theorem gL_acts_X10_unsign : GoodIn wsL_acts (wsV RL 78 RX10 yX10_unsign wsX10_unsign) := goodIn_app (goodIn_of _ (by decide +kernel)) ggL_acts_X10_unsign
set_option maxRecDepth 100000 in
theorem ggL_acts_X10_sign : GoodIn wsL_acts wsX10_sign := goodIn_r _ [422, 13, 16, 23, 14, 136, 69, 70, 71, 72, 73, 74, 39, 40, 41, 42, 43, 423, 424, 11, 425, 392, 393, 394, 410, 123, 124, 30, 125, 36, 126, 38, 114, 115, 116, 117, 118, 119, 120, 121, 122, 127, 128, 129, 130, 32, 33, 34, 35, 37, 44, 45, 46, 47, 48, 49, 50, 253, 254, 255, 256, 257, 258, 259, 260, 261, 262, 263, 264, 265, 266, 267, 268, 269, 270, 271, 272, 273, 274, 275, 276, 277, 278, 279, 280, 281, 282, 283, 197, 194, 198, 284, 285, 286, 287, 426, 427, 428, 429, 384, 86, 87, 88, 430, 431, 432, 433, 434, 435, 436, 437, 438, 445, 446, 447, 448, 449, 450, 455, 439, 440, 441, 442, 443, 444, 451, 452] rfl (by decide +kernel)
set_option maxRecDepth 100000 in
theorem gL_acts_X10_sign : GoodIn wsL_acts (wsV RL 75 RX10 yX10_sign wsX10_sign) := goodIn_app (goodIn_of _ (by decide +kernel)) ggL_acts_X10_sign
set_option maxRecDepth 100000 in
theorem ggL_law_X10_init : GoodIn wsL_law wsX10_init := goodIn_r _ [7, 8, 9, 10, 11, 12, 13, 14, 15, 16, 17, 18, 19, 20, 21, 22, 23, 24, 25, 26, 27, 28, 29, 30, 31, 32, 33, 34, 35, 36, 37, 38, 39, 40, 41, 42, 43, 44, 45, 46, 47, 48, 49, 50, 51, 52, 53, 54, 55, 56, 57, 58, 59, 60, 61, 62, 63, 64, 65, 66, 67, 68, 69, 70, 71, 72, 73, 74, 75, 76, 77, 78, 79, 80, 81, 82, 83, 84, 85, 86, 87, 88, 89, 90, 91, 92, 93, 94, 95, 96, 97, 98, 99, 100, 101, 102, 103, 104, 105, 106, 107, 108, 109, 110, 111, 112, 113, 114, 115, 116, 117, 118, 119, 120, 121, 122, 123, 124, 125, 126, 127, 128, 129, 130, 131, 132, 133, 134, 135, 136, 137, 138, 139, 140, 141, 142, 143, 144, 145, 146, 147, 148, 149, 150, 151, 152, 153, 154, 155, 156, 157, 158, 159, 160, 161, 162, 163, 164, 165, 166, 167, 168, 169, 170, 171, 172, 173, 174, 175, 176, 177, 178, 179, 180, 181, 182, 183, 184, 185, 186, 187, 188, 189, 190, 191, 192, 193, 194, 195, 196, 197, 198, 199, 200, 201, 202, 203, 204, 205, 206, 207, 208, 209, 210, 211, 212, 213, 214, 215, 216, 217, 218, 219, 220, 221, 222, 223, 224, 225, 226, 227, 228, 229, 230, 231, 232, 233, 234, 235, 236, 237, 238, 239, 240, 241, 242, 243, 244, 245, 246, 247, 248, 249, 250, 251, 252, 253, 254, 255, 256, 257, 258, 259, 260, 261, 262, 263, 264, 265, 266, 267, 268, 269, 743, 744, 736, 737, 738, 739, 740, 741, 742, 745, 746, 747, 748, 749, 750, 751, 752, 753, 754, 755, 756, 757, 758, 759, 760, 761, 762, 763, 764, 765, 766, 767, 768, 769, 770, 771, 772, 773, 774, 775, 776, 777, 778, 779] rfl (by decide +kernel)
set_option maxRecDepth 100000 in
theorem gL_law_X10_init : GoodIn wsL_law (wsX10_init) := ggL_law_X10_init

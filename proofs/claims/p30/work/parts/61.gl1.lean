-- the law's calls: their words (begun as claim/NAMES.whole.lean.txt)
set_option maxRecDepth 100000 in
theorem ggL_refused_X10_points : GoodIn wsL_refused wsX10_points := goodIn_r _ [140, 12, 15, 19, 13, 21, 135, 68, 69, 70, 71, 72, 73, 38, 39, 40, 41, 42, 141, 118, 119, 29, 120, 121, 122, 123, 124, 35, 125, 37, 126, 127, 128, 129, 31, 32, 33, 34, 36, 43, 44, 45, 46, 47, 48, 49, 142, 76, 77, 53, 78, 79, 57, 58, 56, 59, 60, 61, 62, 63, 64, 65, 66, 80, 81, 82, 83, 74, 84, 85, 86, 87, 88, 89, 90, 91, 92, 93, 94, 95, 96, 143, 144, 145, 146, 147, 148, 149, 150, 151, 152, 153, 154, 155, 156, 157, 158, 159, 160, 161, 162, 544, 545, 546, 547, 548, 549, 550, 551, 552, 553, 554, 555, 556, 557, 558, 559, 560, 561, 562, 563, 564, 569, 570, 571, 572, 573, 574, 575, 576] rfl (by decide +kernel)
set_option maxRecDepth 100000 in
theorem gL_refused_X10_points : GoodIn wsL_refused (wsV RL 22 RX10 yX10_points wsX10_points) := goodIn_app (goodIn_of _ (by decide +kernel)) ggL_refused_X10_points
set_option maxRecDepth 100000 in
theorem ggL_refused_X10_walk : GoodIn wsL_refused wsX10_walk := goodIn_r _ [166, 167, 12, 19, 168, 169, 170, 171, 172, 173, 174, 175, 176, 177, 178, 179, 180, 181, 182, 183, 184, 185, 76, 77, 53, 78, 79, 57, 58, 56, 59, 60, 61, 40, 62, 42, 63, 64, 65, 66, 80, 81, 82, 83, 74, 38, 39, 41, 84, 85, 86, 87, 88, 89, 90, 29, 91, 35, 36, 37, 92, 93, 94, 70, 95, 96, 186, 187, 188, 189, 190, 191, 192, 193, 194, 195, 196, 197, 118, 119, 120, 121, 122, 123, 124, 125, 126, 127, 128, 129, 31, 32, 33, 34, 43, 44, 45, 46, 47, 48, 49, 198, 144, 145, 146, 147, 148, 149, 150, 151, 152, 153, 154, 155, 156, 157, 158, 159, 160, 161, 162, 199, 200, 201, 202, 203, 204, 10, 205, 206, 544, 545, 546, 547, 548, 549, 550, 577, 578, 579, 580, 581, 551, 552, 553, 554, 555, 556, 557, 558, 570, 571, 572, 573, 574, 575, 576, 569, 559, 560, 561, 562, 563, 564] rfl (by decide +kernel)
set_option maxRecDepth 100000 in
theorem gL_refused_X10_walk : GoodIn wsL_refused (wsV RL 25 RX10 yX10_walk wsX10_walk) := goodIn_app (goodIn_of _ (by decide +kernel)) ggL_refused_X10_walk
set_option maxRecDepth 100000 in
theorem ggL_refused_X10_type : GoodIn wsL_refused wsX10_type := goodIn_r _ [426, 24, 25, 427, 428, 85, 86, 40, 87, 42, 544, 545, 546, 547, 548, 549, 550, 567, 568, 569] rfl (by decide +kernel)
set_option maxRecDepth 100000 in
theorem gL_refused_X10_type : GoodIn wsL_refused (wsV RL 81 RX10 yX10_type wsX10_type) := goodIn_app (goodIn_of _ (by decide +kernel)) ggL_refused_X10_type
set_option maxRecDepth 100000 in
theorem ggL_refused_X10_fault : GoodIn wsL_refused wsX10_fault := goodIn_r _ [432, 433, 12, 24, 434, 435, 436, 437, 438, 439, 440, 441, 442, 443, 444, 445, 446, 447, 448, 449, 450, 38, 39, 40, 41, 42, 451, 452, 453, 454, 455, 456, 457, 458, 459, 460, 461, 462, 463, 464, 465, 466, 467, 468, 469, 470, 471, 472, 473, 474, 475, 476, 477, 478, 479, 480, 277, 481, 482, 276, 278, 483, 484, 485, 486, 487, 488, 489, 490, 491, 492, 493, 494, 495, 496, 497, 498, 499, 500, 501, 502, 503, 504, 505, 506, 507, 508, 509, 510, 511, 512, 513, 514, 515, 516, 517, 518, 519, 520, 521, 522, 523, 524, 525, 526, 527, 528, 529, 530, 531, 532, 533, 534, 535, 536, 537, 538, 539, 540, 541, 300, 301, 70, 302, 232, 68, 69, 71, 72, 73, 303, 228, 229, 230, 96, 231, 93, 94, 95, 542, 89, 90, 29, 91, 35, 36, 37, 543, 544, 545, 546, 547, 548, 549, 550, 585, 586, 587, 551, 552, 553, 554, 555, 556, 557, 558, 567, 568, 569, 559, 560, 561, 562, 563, 564] rfl (by decide +kernel)
set_option maxRecDepth 100000 in
theorem gL_refused_X10_fault : GoodIn wsL_refused (wsV RL 84 RX10 yX10_fault wsX10_fault) := goodIn_app (goodIn_of _ (by decide +kernel)) ggL_refused_X10_fault
set_option maxRecDepth 100000 in
theorem ggL_areDoors_X10_count : GoodIn wsL_areDoors wsX10_count := goodIn_r _ [5, 6, 7, 8, 9, 10, 11, 12, 13, 14, 15, 16, 17, 18, 19, 20, 21, 22, 23, 24, 25, 26, 27, 28, 29, 30, 31, 32, 33, 34, 35, 36, 37, 38, 39, 40, 41, 42, 43, 44, 45, 46, 47, 48, 49, 50, 51, 52, 53, 54, 55, 56, 57, 58, 59, 60, 61, 62, 63, 64, 65, 66, 67, 68, 69, 70, 71, 72, 73, 74, 75, 76, 77, 78, 79, 80, 81, 82, 83, 84, 85, 86, 87, 88, 89, 90, 91, 92, 93, 94, 95, 96, 97, 98, 99, 100, 101, 102, 103, 104, 105, 106, 107, 108, 109, 110, 111, 112, 113, 114, 115, 116, 117, 118, 119, 120, 121, 122, 123, 170, 171, 172, 173, 174, 175, 176, 177, 178, 179, 180, 181, 182, 183, 184, 185, 186, 187, 188, 189, 190, 191, 192, 193, 194, 195, 196, 197, 198, 199, 200, 201, 202] rfl (by decide +kernel)
set_option maxRecDepth 100000 in
theorem gL_areDoors_X10_count : GoodIn wsL_areDoors (wsV RL 13 RX10 yX10_count wsX10_count) := goodIn_app (goodIn_of _ (by decide +kernel)) ggL_areDoors_X10_count
set_option maxRecDepth 100000 in
theorem ggL_areDoors_X10_isRoom : GoodIn wsL_areDoors wsX10_isRoom := goodIn_r _ [127, 6, 9, 128, 129, 62, 63, 64, 65, 66, 67, 32, 33, 34, 35, 36, 170, 171, 172, 173, 174, 175, 176, 177, 178, 185, 186, 187, 188, 189, 190, 195] rfl (by decide +kernel)
set_option maxRecDepth 100000 in
theorem gL_areDoors_X10_isRoom : GoodIn wsL_areDoors (wsV RL 41 RX10 yX10_isRoom wsX10_isRoom) := goodIn_app (goodIn_of _ (by decide +kernel)) ggL_areDoors_X10_isRoom
set_option maxRecDepth 100000 in
theorem ggL_areDoors_X10_doors : GoodIn wsL_areDoors wsX10_doors := goodIn_r _ [133, 6, 9, 7, 134, 129, 62, 63, 64, 65, 66, 67, 32, 33, 34, 35, 36, 135, 170, 171, 172, 173, 174, 175, 176, 177, 178, 179, 180, 181, 182, 183, 184, 185, 186, 187, 188, 189, 190, 195] rfl (by decide +kernel)
set_option maxRecDepth 100000 in
theorem gL_areDoors_X10_doors : GoodIn wsL_areDoors (wsV RL 19 RX10 yX10_doors wsX10_doors) := goodIn_app (goodIn_of _ (by decide +kernel)) ggL_areDoors_X10_doors
set_option maxRecDepth 100000 in
theorem ggL_areDoors_L_ones : GoodIn wsL_areDoors wsL_ones := goodIn_r _ [139] rfl (by decide +kernel)
set_option maxRecDepth 100000 in
theorem gL_areDoors_L_ones : GoodIn wsL_areDoors (va_wsS RL 87 yL_ones wsL_ones) := goodIn_app (goodIn_of _ (by decide +kernel)) ggL_areDoors_L_ones
set_option maxRecDepth 100000 in
theorem ggL_areDoors_X10_part : GoodIn wsL_areDoors wsX10_part := goodIn_r _ [143, 6, 9, 13, 144, 129, 62, 63, 64, 65, 66, 67, 32, 33, 34, 35, 36, 44, 45, 46, 47, 48, 49, 50, 51, 52, 53, 54, 55, 56, 57, 58, 59, 60, 61, 68, 69, 70, 71, 72, 73, 74, 75, 76, 77, 78, 79, 80, 81, 82, 83, 84, 23, 85, 29, 30, 31, 86, 87, 88, 89, 90, 135, 170, 171, 172, 173, 174, 175, 176, 177, 178, 196, 197, 198, 199, 200, 201, 202, 185, 186, 187, 188, 189, 190, 195, 179, 180, 181, 182, 183, 184] rfl (by decide +kernel)
set_option maxRecDepth 100000 in
theorem gL_areDoors_X10_part : GoodIn wsL_areDoors (wsV RL 51 RX10 yX10_part wsX10_part) := goodIn_app (goodIn_of _ (by decide +kernel)) ggL_areDoors_X10_part
set_option maxRecDepth 100000 in
theorem ggL_areDoors_L_beside : GoodIn wsL_areDoors wsL_beside := goodIn_r _ [147] rfl (by decide +kernel)
set_option maxRecDepth 100000 in
theorem gL_areDoors_L_beside : GoodIn wsL_areDoors (va_wsS RL 90 yL_beside wsL_beside) := goodIn_app (goodIn_of _ (by decide +kernel)) ggL_areDoors_L_beside
set_option maxRecDepth 100000 in
theorem ggL_areDoors_X10_letter : GoodIn wsL_areDoors wsX10_letter := goodIn_r _ [151, 6, 7, 8, 152, 9, 135, 32, 33, 34, 35, 36, 153, 154, 155, 64, 156, 66, 67, 157, 158, 159, 23, 160, 161, 162, 31, 163, 164, 165, 166, 90, 167, 87, 88, 89, 168, 62, 63, 65, 169, 83, 84, 85, 29, 30, 170, 171, 172, 173, 174, 175, 176, 177, 178, 179, 180, 181, 182, 183, 184, 195, 185, 186, 187, 188, 189, 190] rfl (by decide +kernel)
set_option maxRecDepth 100000 in
theorem gL_areDoors_X10_letter : GoodIn wsL_areDoors (wsV RL 38 RX10 yX10_letter wsX10_letter) := goodIn_app (goodIn_of _ (by decide +kernel)) ggL_areDoors_X10_letter
set_option maxRecDepth 100000 in
theorem ggL_anyRoom_X10_count : GoodIn wsL_anyRoom wsX10_count := goodIn_r _ [5, 6, 7, 8, 9, 10, 11, 12, 13, 14, 15, 16, 17, 18, 19, 20, 21, 22, 23, 24, 25, 26, 27, 28, 29, 30, 31, 32, 33, 34, 35, 36, 37, 38, 39, 40, 41, 42, 43, 44, 45, 46, 47, 48, 49, 50, 51, 52, 53, 54, 55, 56, 57, 58, 59, 60, 61, 62, 63, 64, 65, 66, 67, 68, 69, 70, 71, 72, 73, 74, 75, 76, 77, 78, 79, 80, 81, 82, 83, 84, 85, 86, 87, 88, 89, 90, 91, 92, 93, 94, 95, 96, 97, 98, 99, 100, 101, 102, 103, 104, 105, 106, 107, 108, 109, 110, 111, 112, 113, 114, 115, 116, 117, 118, 119, 120, 121, 122, 123, 130, 131, 132, 133, 134, 135, 136, 137, 138, 139, 140, 141, 142, 143, 144, 145, 146, 147, 148, 149, 150, 151, 152, 153, 154, 155, 156, 157, 158, 159, 160, 161, 162] rfl (by decide +kernel)
set_option maxRecDepth 100000 in
theorem gL_anyRoom_X10_count : GoodIn wsL_anyRoom (wsV RL 13 RX10 yX10_count wsX10_count) := goodIn_app (goodIn_of _ (by decide +kernel)) ggL_anyRoom_X10_count
set_option maxRecDepth 100000 in
theorem ggL_anyRoom_X10_isRoom : GoodIn wsL_anyRoom wsX10_isRoom := goodIn_r _ [127, 6, 9, 128, 129, 62, 63, 64, 65, 66, 67, 32, 33, 34, 35, 36, 130, 131, 132, 133, 134, 135, 136, 137, 138, 145, 146, 147, 148, 149, 150, 155] rfl (by decide +kernel)
set_option maxRecDepth 100000 in
theorem gL_anyRoom_X10_isRoom : GoodIn wsL_anyRoom (wsV RL 41 RX10 yX10_isRoom wsX10_isRoom) := goodIn_app (goodIn_of _ (by decide +kernel)) ggL_anyRoom_X10_isRoom
set_option maxRecDepth 100000 in
theorem ggL_areWays_X10_count : GoodIn wsL_areWays wsX10_count := goodIn_r _ [5, 6, 7, 8, 9, 10, 11, 12, 13, 14, 15, 16, 17, 18, 19, 20, 21, 22, 23, 24, 25, 26, 27, 28, 29, 30, 31, 32, 33, 34, 35, 36, 37, 38, 39, 40, 41, 42, 43, 44, 45, 46, 47, 48, 49, 50, 51, 52, 53, 54, 55, 56, 57, 58, 59, 60, 61, 62, 63, 64, 65, 66, 67, 68, 69, 70, 71, 72, 73, 74, 75, 76, 77, 78, 79, 80, 81, 82, 83, 84, 85, 86, 87, 88, 89, 90, 91, 92, 93, 94, 95, 96, 97, 98, 99, 100, 101, 102, 103, 104, 105, 106, 107, 108, 109, 110, 111, 112, 113, 114, 115, 116, 117, 118, 119, 120, 121, 122, 123, 208, 209, 210, 211, 212, 213, 214, 215, 216, 217, 218, 219, 220, 221, 222, 223, 224, 225, 226, 227, 228, 229, 230, 231, 232, 233, 234, 235, 236, 237, 238, 239, 240] rfl (by decide +kernel)
set_option maxRecDepth 100000 in
theorem gL_areWays_X10_count : GoodIn wsL_areWays (wsV RL 13 RX10 yX10_count wsX10_count) := goodIn_app (goodIn_of _ (by decide +kernel)) ggL_areWays_X10_count
set_option maxRecDepth 100000 in
theorem ggL_areWays_X10_distance : GoodIn wsL_areWays wsX10_distance := goodIn_r _ [127, 6, 9, 13, 128, 129, 62, 63, 64, 65, 66, 67, 32, 33, 34, 35, 36, 130, 70, 71, 47, 72, 73, 51, 52, 50, 53, 54, 55, 56, 57, 58, 59, 60, 74, 75, 76, 77, 68, 78, 79, 80, 81, 82, 83, 84, 23, 85, 29, 30, 31, 86, 87, 88, 89, 90, 131, 208, 209, 210, 211, 212, 213, 214, 215, 216, 234, 235, 236, 237, 238, 239, 240, 223, 224, 225, 226, 227, 228, 233, 217, 218, 219, 220, 221, 222] rfl (by decide +kernel)
set_option maxRecDepth 100000 in
theorem gL_areWays_X10_distance : GoodIn wsL_areWays (wsV RL 60 RX10 yX10_distance wsX10_distance) := goodIn_app (goodIn_of _ (by decide +kernel)) ggL_areWays_X10_distance
set_option maxRecDepth 100000 in
theorem ggL_areWays_X10_part : GoodIn wsL_areWays wsX10_part := goodIn_r _ [135, 6, 9, 13, 136, 129, 62, 63, 64, 65, 66, 67, 32, 33, 34, 35, 36, 44, 45, 46, 47, 48, 49, 50, 51, 52, 53, 54, 55, 56, 57, 58, 59, 60, 61, 68, 69, 70, 71, 72, 73, 74, 75, 76, 77, 78, 79, 80, 81, 82, 83, 84, 23, 85, 29, 30, 31, 86, 87, 88, 89, 90, 131, 208, 209, 210, 211, 212, 213, 214, 215, 216, 234, 235, 236, 237, 238, 239, 240, 223, 224, 225, 226, 227, 228, 233, 217, 218, 219, 220, 221, 222] rfl (by decide +kernel)
set_option maxRecDepth 100000 in
theorem gL_areWays_X10_part : GoodIn wsL_areWays (wsV RL 51 RX10 yX10_part wsX10_part) := goodIn_app (goodIn_of _ (by decide +kernel)) ggL_areWays_X10_part
set_option maxRecDepth 100000 in
theorem ggL_areWays_X10_way : GoodIn wsL_areWays wsX10_way := goodIn_r _ [140, 6, 9, 13, 128, 129, 62, 63, 64, 65, 66, 67, 32, 33, 34, 35, 36, 130, 70, 71, 47, 72, 73, 51, 52, 50, 53, 54, 55, 56, 57, 58, 59, 60, 74, 75, 76, 77, 68, 78, 79, 80, 81, 82, 83, 84, 23, 85, 29, 30, 31, 86, 87, 88, 89, 90, 131, 141, 142, 143, 144, 145, 146, 147, 148, 149, 150, 151, 152, 208, 209, 210, 211, 212, 213, 214, 215, 216, 234, 235, 236, 237, 238, 239, 240, 223, 224, 225, 226, 227, 228, 233, 217, 218, 219, 220, 221, 222] rfl (by decide +kernel)
set_option maxRecDepth 100000 in
theorem gL_areWays_X10_way : GoodIn wsL_areWays (wsV RL 66 RX10 yX10_way wsX10_way) := goodIn_app (goodIn_of _ (by decide +kernel)) ggL_areWays_X10_way
set_option maxRecDepth 100000 in
theorem ggL_areWays_X10_again : GoodIn wsL_areWays wsX10_again := goodIn_r _ [156, 6, 9, 13, 157, 128, 129, 62, 63, 64, 65, 66, 67, 32, 33, 34, 35, 36, 98, 99, 100, 47, 101, 102, 92, 93, 94, 50, 95, 96, 21, 22, 23, 24, 25, 26, 27, 28, 29, 30, 31, 37, 38, 39, 40, 41, 42, 43, 97, 45, 46, 48, 49, 51, 52, 53, 54, 55, 56, 57, 58, 59, 60, 61, 68, 69, 70, 71, 72, 73, 74, 75, 76, 77, 78, 79, 80, 81, 82, 83, 84, 85, 86, 87, 88, 89, 90, 130, 158, 159, 160, 161, 145, 146, 147, 148, 149, 150, 151, 152, 131, 208, 209, 210, 211, 212, 213, 214, 215, 216, 223, 224, 225, 226, 227, 228, 234, 235, 236, 237, 238, 239, 240, 233, 217, 218, 219, 220, 221, 222] rfl (by decide +kernel)
set_option maxRecDepth 100000 in
theorem gL_areWays_X10_again : GoodIn wsL_areWays (wsV RL 63 RX10 yX10_again wsX10_again) := goodIn_app (goodIn_of _ (by decide +kernel)) ggL_areWays_X10_again
set_option maxRecDepth 100000 in
theorem ggL_areWays_L_beside : GoodIn wsL_areWays wsL_beside := goodIn_r _ [165] rfl (by decide +kernel)
set_option maxRecDepth 100000 in
theorem gL_areWays_L_beside : GoodIn wsL_areWays (va_wsS RL 90 yL_beside wsL_beside) := goodIn_app (goodIn_of _ (by decide +kernel)) ggL_areWays_L_beside
set_option maxRecDepth 100000 in
theorem ggL_areWays_X10_doors : GoodIn wsL_areWays wsX10_doors := goodIn_r _ [169, 6, 9, 7, 170, 129, 62, 63, 64, 65, 66, 67, 32, 33, 34, 35, 36, 131, 208, 209, 210, 211, 212, 213, 214, 215, 216, 217, 218, 219, 220, 221, 222, 223, 224, 225, 226, 227, 228, 233] rfl (by decide +kernel)
set_option maxRecDepth 100000 in
theorem gL_areWays_X10_doors : GoodIn wsL_areWays (wsV RL 19 RX10 yX10_doors wsX10_doors) := goodIn_app (goodIn_of _ (by decide +kernel)) ggL_areWays_X10_doors
set_option maxRecDepth 100000 in
theorem ggL_areWays_X10_farthest : GoodIn wsL_areWays wsX10_farthest := goodIn_r _ [174, 6, 9, 13, 128, 129, 62, 63, 64, 65, 66, 67, 32, 33, 34, 35, 36, 130, 70, 71, 47, 72, 73, 51, 52, 50, 53, 54, 55, 56, 57, 58, 59, 60, 74, 75, 76, 77, 68, 78, 79, 80, 81, 82, 83, 84, 23, 85, 29, 30, 31, 86, 87, 88, 89, 90, 175, 176, 177, 178, 61, 131, 208, 209, 210, 211, 212, 213, 214, 215, 216, 234, 235, 236, 237, 238, 239, 240, 223, 224, 225, 226, 227, 228, 233, 217, 218, 219, 220, 221, 222] rfl (by decide +kernel)
set_option maxRecDepth 100000 in
theorem gL_areWays_X10_farthest : GoodIn wsL_areWays (wsV RL 69 RX10 yX10_farthest wsX10_farthest) := goodIn_app (goodIn_of _ (by decide +kernel)) ggL_areWays_X10_farthest
set_option maxRecDepth 100000 in
theorem ggL_areWays_X10_longest : GoodIn wsL_areWays wsX10_longest := goodIn_r _ [182, 13, 6, 183, 184, 185, 186, 187, 188, 47, 189, 190, 50, 73, 191, 192, 61, 62, 63, 64, 65, 66, 67, 32, 33, 34, 35, 36, 69, 70, 71, 72, 51, 52, 53, 54, 55, 56, 57, 58, 59, 60, 74, 75, 76, 77, 68, 78, 79, 80, 81, 82, 83, 84, 23, 85, 29, 30, 31, 86, 87, 88, 89, 90, 193, 176, 177, 178, 208, 209, 210, 211, 212, 213, 214, 234, 235, 236, 237, 238, 239, 240, 215, 216, 223, 224, 225, 226, 227, 228, 233, 217, 218, 219, 220, 221, 222] rfl (by decide +kernel)
set_option maxRecDepth 100000 in
theorem gL_areWays_X10_longest : GoodIn wsL_areWays (wsV RL 72 RX10 yX10_longest wsX10_longest) := goodIn_app (goodIn_of _ (by decide +kernel)) ggL_areWays_X10_longest
set_option maxRecDepth 100000 in
theorem ggL_areWays_X10_grade : GoodIn wsL_areWays wsX10_grade := goodIn_r _ [197, 13, 6, 7, 15, 128, 14, 198, 199, 200, 201, 202, 130, 70, 71, 47, 72, 73, 51, 52, 50, 53, 54, 55, 34, 56, 36, 57, 58, 59, 60, 74, 75, 76, 77, 68, 32, 33, 35, 78, 79, 80, 81, 82, 83, 84, 23, 85, 29, 30, 31, 86, 87, 88, 64, 89, 90, 131, 203, 204, 205, 206, 207, 121, 122, 123, 25, 26, 27, 28, 37, 38, 39, 40, 41, 42, 43, 145, 146, 147, 148, 149, 150, 151, 152, 208, 209, 210, 211, 212, 213, 214, 215, 216, 217, 218, 219, 220, 221, 222, 234, 235, 236, 237, 238, 239, 240, 233, 223, 224, 225, 226, 227, 228] rfl (by decide +kernel)
set_option maxRecDepth 100000 in
theorem gL_areWays_X10_grade : GoodIn wsL_areWays (wsV RL 93 RX10 yX10_grade wsX10_grade) := goodIn_app (goodIn_of _ (by decide +kernel)) ggL_areWays_X10_grade
set_option maxRecDepth 100000 in
theorem ggL_areSigns_X10_count : GoodIn wsL_areSigns wsX10_count := goodIn_r _ [5, 6, 7, 8, 9, 10, 11, 12, 13, 14, 15, 16, 17, 18, 19, 20, 21, 22, 23, 24, 25, 26, 27, 28, 29, 30, 31, 32, 33, 34, 35, 36, 37, 38, 39, 40, 41, 42, 43, 44, 45, 46, 47, 48, 49, 50, 51, 52, 53, 54, 55, 56, 57, 58, 59, 60, 61, 62, 63, 64, 65, 66, 67, 68, 69, 70, 71, 72, 73, 74, 75, 76, 77, 78, 79, 80, 81, 82, 83, 84, 85, 86, 87, 88, 89, 90, 91, 92, 93, 94, 95, 96, 97, 98, 99, 100, 101, 102, 103, 104, 105, 106, 107, 108, 109, 110, 111, 112, 113, 114, 115, 116, 117, 118, 119, 120, 121, 122, 123, 161, 162, 163, 164, 165, 166, 167, 168, 169, 170, 171, 172, 173, 174, 175, 176, 177, 178, 179, 180, 181, 182, 183, 184, 185, 186, 187, 188, 189, 190, 191, 192, 193] rfl (by decide +kernel)
set_option maxRecDepth 100000 in
theorem gL_areSigns_X10_count : GoodIn wsL_areSigns (wsV RL 13 RX10 yX10_count wsX10_count) := goodIn_app (goodIn_of _ (by decide +kernel)) ggL_areSigns_X10_count
set_option maxRecDepth 100000 in
theorem ggL_areSigns_X10_points : GoodIn wsL_areSigns wsX10_points := goodIn_r _ [127, 6, 9, 13, 7, 15, 128, 62, 63, 64, 65, 66, 67, 32, 33, 34, 35, 36, 129, 112, 113, 23, 114, 115, 116, 117, 118, 29, 119, 31, 120, 121, 122, 123, 25, 26, 27, 28, 30, 37, 38, 39, 40, 41, 42, 43, 130, 70, 71, 47, 72, 73, 51, 52, 50, 53, 54, 55, 56, 57, 58, 59, 60, 74, 75, 76, 77, 68, 78, 79, 80, 81, 82, 83, 84, 85, 86, 87, 88, 89, 90, 131, 132, 133, 134, 135, 136, 137, 138, 139, 140, 141, 142, 143, 144, 145, 146, 147, 148, 149, 150, 161, 162, 163, 164, 165, 166, 167, 168, 169, 170, 171, 172, 173, 174, 175, 176, 177, 178, 179, 180, 181, 186, 187, 188, 189, 190, 191, 192, 193] rfl (by decide +kernel)
set_option maxRecDepth 100000 in
theorem gL_areSigns_X10_points : GoodIn wsL_areSigns (wsV RL 22 RX10 yX10_points wsX10_points) := goodIn_app (goodIn_of _ (by decide +kernel)) ggL_areSigns_X10_points

-- the law's calls: their words (begun as claim/NAMES.whole.lean.txt)
set_option maxRecDepth 100000 in
theorem ggL_law_X10_init : GoodIn wsL_law wsX10_init := goodIn_r _ [8, 9, 10, 11, 12, 13, 14, 15, 16, 17, 18, 19, 20, 21, 22, 23, 24, 25, 26, 27, 28, 29, 30, 31, 32, 33, 34, 35, 36, 37, 38, 39, 40, 41, 42, 43, 44, 45, 46, 47, 48, 49, 50, 51, 52, 53, 54, 55, 56, 57, 58, 59, 60, 61, 62, 63, 64, 65, 66, 67, 68, 69, 70, 71, 72, 73, 74, 75, 76, 77, 78, 79, 80, 81, 82, 83, 84, 85, 86, 87, 88, 89, 90, 91, 92, 93, 94, 95, 96, 97, 98, 99, 100, 101, 102, 103, 104, 105, 106, 107, 108, 109, 110, 111, 112, 113, 114, 115, 116, 117, 118, 119, 120, 121, 122, 123, 124, 125, 126, 127, 128, 129, 130, 131, 132, 133, 134, 135, 136, 137, 138, 139, 140, 141, 142, 143, 144, 145, 146, 147, 148, 149, 150, 151, 152, 153, 154, 155, 156, 157, 158, 159, 160, 161, 162, 163, 164, 165, 166, 167, 168, 169, 170, 171, 172, 173, 174, 175, 176, 177, 178, 179, 180, 181, 182, 183, 184, 185, 186, 187, 188, 189, 190, 191, 192, 193, 194, 195, 196, 197, 198, 199, 200, 201, 202, 203, 204, 205, 206, 207, 208, 209, 210, 211, 212, 213, 214, 215, 216, 217, 218, 219, 220, 221, 222, 223, 224, 225, 226, 227, 228, 229, 230, 231, 232, 233, 234, 235, 236, 237, 238, 239, 240, 241, 242, 243, 244, 245, 246, 247, 248, 249, 250, 251, 252, 253, 254, 255, 256, 257, 258, 259, 260, 261, 262, 263, 264, 265, 266, 267, 268, 269, 270, 1003, 1004, 979, 980, 981, 982, 983, 984, 985, 1005, 1006, 1007, 1008, 1009, 1010, 1011, 1012, 1013, 1014, 1015, 1016, 1017, 1018, 1019, 1020, 1021, 1022, 1023, 1024, 1025, 1026, 1027, 1028, 1029, 1030, 1031, 1032, 1033, 1034, 1035, 1036, 1037, 1038, 1039] rfl (by decide +kernel)
set_option maxRecDepth 100000 in
theorem gL_law_X10_init : GoodIn wsL_law (wsX10_init) := ggL_law_X10_init
set_option maxRecDepth 100000 in
theorem ggL_law_X11_init : GoodIn wsL_law wsX11_init := goodIn_r _ [273, 274, 10, 11, 69, 275, 276, 277, 278, 279, 280, 281, 282, 283, 284, 285, 286, 5, 287, 288, 289, 290, 291, 292, 293, 294, 295, 296, 297, 298, 299, 300, 301, 986, 987, 988, 989, 990, 991, 992, 993, 994, 995, 996, 997, 998, 999, 1000, 1001, 1002] rfl (by decide +kernel)
set_option maxRecDepth 100000 in
theorem gL_law_X11_init : GoodIn wsL_law (wsX11_init) := ggL_law_X11_init
set_option maxRecDepth 100000 in
theorem ggL_law_X10_word : GoodIn wsL_law wsX10_word := goodIn_r _ [305, 35, 19, 15, 40, 41, 306, 307, 42, 308, 309, 310, 311, 312, 34, 313, 314, 110, 315, 145, 146, 59, 147, 70, 316, 156, 157, 158, 159, 160, 161, 162, 163, 164, 165, 166, 167, 168, 169, 170, 171, 172, 173, 174, 175, 176, 177, 178, 179, 180, 181, 182, 183, 66, 67, 68, 184, 185, 186, 187, 188, 189, 190, 191, 192, 193, 194, 195, 196, 197, 198, 199, 200, 201, 202, 203, 204, 205, 206, 207, 208, 209, 210, 211, 212, 213, 214, 215, 216, 217, 218, 219, 220, 221, 222, 223, 224, 225, 226, 227, 228, 229, 230, 231, 232, 233, 234, 235, 236, 237, 238, 239, 240, 317, 318, 319, 18, 320, 321, 84, 322, 323, 324, 325, 326, 327, 328, 329, 330, 331, 332, 52, 333, 75, 76, 77, 334, 335, 336, 337, 338, 339, 340, 341, 342, 343, 344, 345, 346, 119, 120, 121, 14, 122, 49, 53, 123, 124, 125, 126, 127, 128, 129, 130, 48, 131, 132, 133, 134, 60, 135, 136, 137, 138, 139, 140, 141, 142, 143, 144, 148, 149, 150, 151, 152, 153, 154, 155, 241, 116, 117, 118, 242, 243, 244, 245, 246, 247, 248, 249, 250, 251, 252, 253, 254, 255, 256, 257, 258, 259, 260, 261, 262, 263, 264, 265, 266, 267, 268, 269, 270, 979, 980, 981, 982, 983, 984, 985, 1003, 1004, 1027, 1028, 1029, 1030, 1031, 1032, 1022, 1023, 1033, 1034, 1035, 1036, 1037, 1038, 1039, 1005, 1006] rfl (by decide +kernel)
set_option maxRecDepth 100000 in
theorem gL_law_X10_word : GoodIn wsL_law (wsV RL 13 RX10 yX10_word wsX10_word) := goodIn_app (goodIn_of _ (by decide +kernel)) ggL_law_X10_word
set_option maxRecDepth 100000 in
theorem ggL_law_X11_word : GoodIn wsL_law wsX11_word := goodIn_r _ [350, 351, 277, 275, 352, 353, 5, 354, 296, 297, 298, 299, 300, 301, 355, 356, 357, 358, 359, 276, 284, 285, 286, 287, 288, 289, 290, 291, 292, 293, 294, 295, 360, 361, 362, 363, 364, 365, 366, 367, 986, 987, 988, 989, 990, 991, 992, 993, 994, 995, 996, 997, 998, 999, 1000, 1001, 1002] rfl (by decide +kernel)
set_option maxRecDepth 100000 in
theorem gL_law_X11_word : GoodIn wsL_law (wsV RL 17 RX11 yX11_word wsX11_word) := goodIn_app (goodIn_of _ (by decide +kernel)) ggL_law_X11_word
set_option maxRecDepth 100000 in
theorem ggL_law_X10_letterOf : GoodIn wsL_law wsX10_letterOf := goodIn_r _ [371, 15, 308, 372, 373, 254, 255, 48, 256, 60, 144, 145, 146, 59, 147, 70, 374, 979, 980, 981, 982, 983, 984, 985, 1003, 1004, 1033, 1034, 1035, 1036, 1037, 1038, 1039] rfl (by decide +kernel)
set_option maxRecDepth 100000 in
theorem gL_law_X10_letterOf : GoodIn wsL_law (wsV RL 18 RX10 yX10_letterOf wsX10_letterOf) := goodIn_app (goodIn_of _ (by decide +kernel)) ggL_law_X10_letterOf
set_option maxRecDepth 100000 in
theorem ggL_law_X11_letterOf : GoodIn wsL_law wsX11_letterOf := goodIn_r _ [378, 379, 380, 381, 5, 382, 364, 365, 366, 367, 288, 289, 290, 291, 275, 352, 353, 354, 292, 293, 294, 295, 296, 297, 298, 299, 300, 301, 383, 384, 385, 386, 986, 987, 988, 989, 990, 991, 992, 993, 994, 995, 996, 997, 998, 999, 1000, 1001, 1002] rfl (by decide +kernel)
set_option maxRecDepth 100000 in
theorem gL_law_X11_letterOf : GoodIn wsL_law (wsV RL 22 RX11 yX11_letterOf wsX11_letterOf) := goodIn_app (goodIn_of _ (by decide +kernel)) ggL_law_X11_letterOf
set_option maxRecDepth 100000 in
theorem ggL_law_X10_letter : GoodIn wsL_law wsX10_letter := goodIn_r _ [390, 15, 40, 42, 41, 308, 374, 145, 146, 59, 147, 70, 391, 392, 393, 48, 394, 60, 144, 395, 396, 397, 14, 398, 49, 399, 400, 401, 262, 263, 264, 133, 265, 266, 267, 268, 253, 254, 255, 256, 402, 403, 404, 405, 53, 123, 979, 980, 981, 982, 983, 984, 985, 1003, 1004, 1027, 1028, 1029, 1030, 1031, 1032, 1039, 1033, 1034, 1035, 1036, 1037, 1038] rfl (by decide +kernel)
set_option maxRecDepth 100000 in
theorem gL_law_X10_letter : GoodIn wsL_law (wsV RL 23 RX10 yX10_letter wsX10_letter) := goodIn_app (goodIn_of _ (by decide +kernel)) ggL_law_X10_letter
set_option maxRecDepth 100000 in
theorem ggL_law_X11_letter : GoodIn wsL_law wsX11_letter := goodIn_r _ [409, 275, 352, 353, 5, 354, 410, 411, 412, 413, 364, 365, 366, 367, 288, 289, 290, 291, 292, 293, 294, 295, 296, 297, 298, 299, 300, 301, 383, 384, 385, 386, 414, 415, 416, 417, 379, 380, 381, 382, 418, 419, 420, 421, 422, 423, 424, 425, 986, 987, 988, 989, 990, 991, 992, 993, 994, 995, 996, 997, 998, 999, 1000, 1001, 1002] rfl (by decide +kernel)
set_option maxRecDepth 100000 in
theorem gL_law_X11_letter : GoodIn wsL_law (wsV RL 27 RX11 yX11_letter wsX11_letter) := goodIn_app (goodIn_of _ (by decide +kernel)) ggL_law_X11_letter
set_option maxRecDepth 100000 in
theorem ggL_law_X10_isRoom : GoodIn wsL_law wsX10_isRoom := goodIn_r _ [429, 15, 308, 430, 373, 254, 255, 48, 256, 60, 144, 145, 146, 59, 147, 70, 979, 980, 981, 982, 983, 984, 985, 1003, 1004, 1033, 1034, 1035, 1036, 1037, 1038, 1039] rfl (by decide +kernel)
set_option maxRecDepth 100000 in
theorem gL_law_X10_isRoom : GoodIn wsL_law (wsV RL 28 RX10 yX10_isRoom wsX10_isRoom) := goodIn_app (goodIn_of _ (by decide +kernel)) ggL_law_X10_isRoom
set_option maxRecDepth 100000 in
theorem ggL_law_X11_isRoom : GoodIn wsL_law wsX11_isRoom := goodIn_r _ [434, 364, 365, 366, 5, 367, 288, 289, 290, 291, 275, 352, 353, 354, 292, 293, 294, 295, 296, 297, 298, 299, 300, 301, 986, 987, 988, 989, 990, 991, 992, 993, 994, 995, 996, 997, 998, 999, 1000, 1001, 1002] rfl (by decide +kernel)
set_option maxRecDepth 100000 in
theorem gL_law_X11_isRoom : GoodIn wsL_law (wsV RL 31 RX11 yX11_isRoom wsX11_isRoom) := goodIn_app (goodIn_of _ (by decide +kernel)) ggL_law_X11_isRoom
set_option maxRecDepth 100000 in
theorem ggL_law_X10_make : GoodIn wsL_law wsX10_make := goodIn_r _ [438, 439, 19, 15, 40, 23, 317, 318, 319, 18, 320, 321, 84, 322, 323, 324, 325, 326, 327, 328, 329, 330, 331, 332, 52, 333, 75, 76, 77, 334, 335, 336, 337, 338, 339, 59, 340, 70, 341, 185, 67, 186, 342, 343, 344, 345, 440, 441, 442, 22, 443, 444, 445, 446, 90, 89, 447, 448, 137, 138, 139, 140, 141, 142, 143, 449, 450, 451, 452, 453, 258, 259, 48, 260, 253, 254, 255, 256, 60, 144, 145, 146, 147, 261, 262, 263, 264, 133, 265, 266, 267, 268, 454, 116, 117, 118, 455, 456, 457, 458, 459, 460, 461, 462, 463, 464, 465, 466, 467, 468, 469, 470, 471, 472, 14, 473, 49, 474, 475, 476, 477, 53, 123, 400, 478, 479, 480, 2, 481, 979, 980, 981, 982, 983, 984, 985, 1003, 1004, 1005, 1006, 1027, 1028, 1029, 1030, 1031, 1032, 1039, 1007, 1008, 1009, 1033, 1034, 1035, 1036, 1037, 1038] rfl (by decide +kernel)
set_option maxRecDepth 100000 in
theorem gL_law_X10_make : GoodIn wsL_law (wsV RL 32 RX10 yX10_make wsX10_make) := goodIn_app (goodIn_of _ (by decide +kernel)) ggL_law_X10_make
set_option maxRecDepth 100000 in
theorem ggL_law_X11_make : GoodIn wsL_law wsX11_make := goodIn_r _ [485, 486, 275, 487, 488, 278, 279, 352, 353, 5, 354, 355, 356, 357, 358, 359, 276, 489, 490, 491, 492, 364, 365, 366, 367, 288, 289, 290, 291, 292, 293, 294, 295, 296, 297, 298, 299, 300, 301, 414, 415, 416, 417, 379, 380, 381, 382, 493, 494, 495, 496, 497, 498, 499, 500, 501, 418, 419, 420, 421, 422, 423, 424, 425, 502, 503, 504, 505, 506, 507, 508, 509, 510, 511, 512, 513, 986, 987, 988, 989, 990, 991, 992, 993, 994, 995, 996, 997, 998, 999, 1000, 1001, 1002] rfl (by decide +kernel)
set_option maxRecDepth 100000 in
theorem gL_law_X11_make : GoodIn wsL_law (wsV RL 35 RX11 yX11_make wsX11_make) := goodIn_app (goodIn_of _ (by decide +kernel)) ggL_law_X11_make
set_option maxRecDepth 100000 in
theorem ggL_law_X10_door : GoodIn wsL_law wsX10_door := goodIn_r _ [517, 15, 308, 19, 40, 373, 254, 255, 48, 256, 60, 144, 145, 146, 59, 147, 70, 518, 519, 2, 520, 521, 258, 259, 260, 253, 261, 262, 263, 264, 133, 265, 266, 267, 268, 317, 318, 319, 18, 320, 321, 84, 322, 323, 324, 325, 326, 327, 328, 329, 330, 331, 332, 52, 333, 75, 76, 77, 334, 335, 336, 337, 338, 339, 340, 341, 185, 67, 186, 342, 343, 344, 345, 522, 403, 404, 14, 405, 53, 123, 400, 523, 471, 472, 473, 49, 474, 475, 476, 477, 478, 116, 117, 118, 479, 480, 481, 979, 980, 981, 982, 983, 984, 985, 1003, 1004, 1033, 1034, 1035, 1036, 1037, 1038, 1039, 1005, 1006, 1027, 1028, 1029, 1030, 1031, 1032] rfl (by decide +kernel)
set_option maxRecDepth 100000 in
theorem gL_law_X10_door : GoodIn wsL_law (wsV RL 36 RX10 yX10_door wsX10_door) := goodIn_app (goodIn_of _ (by decide +kernel)) ggL_law_X10_door
set_option maxRecDepth 100000 in
theorem ggL_law_X11_door : GoodIn wsL_law wsX11_door := goodIn_r _ [527, 275, 379, 380, 381, 5, 382, 364, 365, 366, 367, 288, 289, 290, 291, 352, 353, 354, 292, 293, 294, 295, 296, 297, 298, 299, 300, 301, 414, 415, 416, 417, 355, 356, 357, 358, 359, 276, 422, 423, 424, 425, 986, 987, 988, 989, 990, 991, 992, 993, 994, 995, 996, 997, 998, 999, 1000, 1001, 1002] rfl (by decide +kernel)
set_option maxRecDepth 100000 in
theorem gL_law_X11_door : GoodIn wsL_law (wsV RL 40 RX11 yX11_door wsX11_door) := goodIn_app (goodIn_of _ (by decide +kernel)) ggL_law_X11_door
set_option maxRecDepth 100000 in
theorem ggL_law_X10_doors : GoodIn wsL_law wsX10_doors := goodIn_r _ [531, 15, 308, 40, 532, 373, 254, 255, 48, 256, 60, 144, 145, 146, 59, 147, 70, 374, 979, 980, 981, 982, 983, 984, 985, 1003, 1004, 1027, 1028, 1029, 1030, 1031, 1032, 1033, 1034, 1035, 1036, 1037, 1038, 1039] rfl (by decide +kernel)
set_option maxRecDepth 100000 in
theorem gL_law_X10_doors : GoodIn wsL_law (wsV RL 41 RX10 yX10_doors wsX10_doors) := goodIn_app (goodIn_of _ (by decide +kernel)) ggL_law_X10_doors
set_option maxRecDepth 100000 in
theorem ggL_law_X11_doors : GoodIn wsL_law wsX11_doors := goodIn_r _ [536, 379, 380, 381, 5, 382, 364, 365, 366, 367, 288, 289, 290, 291, 275, 352, 353, 354, 292, 293, 294, 295, 296, 297, 298, 299, 300, 301, 418, 419, 420, 421, 414, 415, 416, 417, 422, 423, 424, 425, 986, 987, 988, 989, 990, 991, 992, 993, 994, 995, 996, 997, 998, 999, 1000, 1001, 1002] rfl (by decide +kernel)
set_option maxRecDepth 100000 in
theorem gL_law_X11_doors : GoodIn wsL_law (wsV RL 44 RX11 yX11_doors wsX11_doors) := goodIn_app (goodIn_of _ (by decide +kernel)) ggL_law_X11_doors
set_option maxRecDepth 100000 in
theorem ggL_law_X10_count : GoodIn wsL_law wsX10_count := goodIn_r _ [540, 15, 40, 42, 308, 541, 309, 542, 27, 543, 544, 19, 545, 35, 307, 546, 547, 548, 14, 549, 550, 551, 552, 553, 53, 123, 400, 145, 146, 59, 147, 70, 554, 555, 556, 557, 558, 559, 560, 561, 562, 563, 26, 564, 97, 565, 566, 98, 567, 137, 138, 139, 140, 141, 142, 143, 568, 254, 255, 48, 256, 60, 144, 569, 570, 571, 572, 573, 96, 574, 575, 576, 577, 578, 116, 117, 118, 579, 403, 404, 405, 580, 266, 267, 268, 133, 581, 582, 583, 584, 585, 586, 587, 588, 589, 590, 591, 592, 593, 594, 595, 596, 597, 598, 599, 600, 601, 602, 603, 604, 605, 606, 607, 608, 124, 609, 610, 611, 612, 979, 980, 981, 982, 983, 984, 985, 1003, 1004, 1027, 1028, 1029, 1030, 1031, 1032, 1033, 1034, 1035, 1036, 1037, 1038, 1005, 1006, 1022, 1023, 1039, 1010, 1011, 1012, 1013, 1014, 1015, 1016] rfl (by decide +kernel)
set_option maxRecDepth 100000 in
theorem gL_law_X10_count : GoodIn wsL_law (wsV RL 45 RX10 yX10_count wsX10_count) := goodIn_app (goodIn_of _ (by decide +kernel)) ggL_law_X10_count
set_option maxRecDepth 100000 in
theorem ggL_law_X11_count : GoodIn wsL_law wsX11_count := goodIn_r _ [616, 275, 488, 359, 351, 288, 289, 290, 5, 291, 360, 361, 362, 363, 364, 365, 366, 367, 292, 293, 294, 295, 296, 297, 298, 299, 300, 301, 489, 490, 491, 492, 278, 414, 415, 416, 417, 379, 380, 381, 382, 352, 353, 354, 510, 511, 512, 513, 617, 618, 619, 620, 279, 498, 499, 500, 501, 418, 419, 420, 421, 422, 423, 424, 425, 502, 503, 504, 505, 506, 507, 508, 509, 621, 622, 623, 624, 625, 626, 627, 628, 629, 630, 631, 632, 633, 634, 635, 636, 637, 638, 639, 640, 641, 642, 643, 644, 986, 987, 988, 989, 990, 991, 992, 993, 994, 995, 996, 997, 998, 999, 1000, 1001, 1002] rfl (by decide +kernel)
set_option maxRecDepth 100000 in
theorem gL_law_X11_count : GoodIn wsL_law (wsV RL 48 RX11 yX11_count wsX11_count) := goodIn_app (goodIn_of _ (by decide +kernel)) ggL_law_X11_count
set_option maxRecDepth 100000 in
theorem ggL_law_X10_part : GoodIn wsL_law wsX10_part := goodIn_r _ [648, 15, 308, 27, 649, 373, 254, 255, 48, 256, 60, 144, 145, 146, 59, 147, 70, 561, 562, 563, 26, 564, 97, 565, 566, 98, 567, 137, 138, 139, 140, 141, 142, 143, 568, 569, 570, 571, 572, 573, 96, 574, 575, 576, 577, 578, 116, 117, 118, 579, 403, 404, 14, 405, 53, 123, 400, 580, 266, 267, 268, 133, 374, 979, 980, 981, 982, 983, 984, 985, 1003, 1004, 1010, 1011, 1012, 1013, 1014, 1015, 1016, 1033, 1034, 1035, 1036, 1037, 1038, 1039, 1027, 1028, 1029, 1030, 1031, 1032] rfl (by decide +kernel)
set_option maxRecDepth 100000 in
theorem gL_law_X10_part : GoodIn wsL_law (wsV RL 49 RX10 yX10_part wsX10_part) := goodIn_app (goodIn_of _ (by decide +kernel)) ggL_law_X10_part
set_option maxRecDepth 100000 in
theorem ggL_law_X11_part : GoodIn wsL_law wsX11_part := goodIn_r _ [653, 279, 379, 380, 381, 5, 382, 364, 365, 366, 367, 288, 289, 290, 291, 275, 352, 353, 354, 292, 293, 294, 295, 296, 297, 298, 299, 300, 301, 498, 499, 500, 501, 418, 419, 420, 421, 414, 415, 416, 417, 422, 423, 424, 425, 502, 503, 504, 505, 506, 507, 508, 509, 986, 987, 988, 989, 990, 991, 992, 993, 994, 995, 996, 997, 998, 999, 1000, 1001, 1002] rfl (by decide +kernel)
set_option maxRecDepth 100000 in
theorem gL_law_X11_part : GoodIn wsL_law (wsV RL 52 RX11 yX11_part wsX11_part) := goodIn_app (goodIn_of _ (by decide +kernel)) ggL_law_X11_part
set_option maxRecDepth 100000 in
theorem ggL_law_X10_start : GoodIn wsL_law wsX10_start := goodIn_r _ [657, 15, 308, 19, 40, 543, 373, 254, 255, 48, 256, 60, 144, 145, 146, 59, 147, 70, 317, 318, 319, 18, 320, 321, 84, 322, 323, 324, 325, 326, 327, 328, 329, 330, 331, 332, 52, 333, 75, 76, 77, 334, 335, 336, 337, 338, 339, 340, 341, 185, 67, 186, 342, 343, 344, 345, 979, 980, 981, 982, 983, 984, 985, 1003, 1004, 1027, 1028, 1029, 1030, 1031, 1032, 1033, 1034, 1035, 1036, 1037, 1038, 1039, 1005, 1006] rfl (by decide +kernel)
set_option maxRecDepth 100000 in
theorem gL_law_X10_start : GoodIn wsL_law (wsV RL 53 RX10 yX10_start wsX10_start) := goodIn_app (goodIn_of _ (by decide +kernel)) ggL_law_X10_start
set_option maxRecDepth 100000 in
theorem ggL_law_X11_start : GoodIn wsL_law wsX11_start := goodIn_r _ [661, 379, 380, 381, 5, 382, 364, 365, 366, 367, 288, 289, 290, 291, 275, 352, 353, 354, 292, 293, 294, 295, 296, 297, 298, 299, 300, 301, 662, 663, 664, 665, 355, 356, 357, 358, 359, 276, 986, 987, 988, 989, 990, 991, 992, 993, 994, 995, 996, 997, 998, 999, 1000, 1001, 1002] rfl (by decide +kernel)
set_option maxRecDepth 100000 in
theorem gL_law_X11_start : GoodIn wsL_law (wsV RL 56 RX11 yX11_start wsX11_start) := goodIn_app (goodIn_of _ (by decide +kernel)) ggL_law_X11_start
set_option maxRecDepth 100000 in
theorem ggL_law_X10_goal : GoodIn wsL_law wsX10_goal := goodIn_r _ [669, 15, 308, 19, 40, 544, 373, 254, 255, 48, 256, 60, 144, 145, 146, 59, 147, 70, 317, 318, 319, 18, 320, 321, 84, 322, 323, 324, 325, 326, 327, 328, 329, 330, 331, 332, 52, 333, 75, 76, 77, 334, 335, 336, 337, 338, 339, 340, 341, 185, 67, 186, 342, 343, 344, 345, 979, 980, 981, 982, 983, 984, 985, 1003, 1004, 1027, 1028, 1029, 1030, 1031, 1032, 1033, 1034, 1035, 1036, 1037, 1038, 1039, 1005, 1006] rfl (by decide +kernel)
set_option maxRecDepth 100000 in
theorem gL_law_X10_goal : GoodIn wsL_law (wsV RL 57 RX10 yX10_goal wsX10_goal) := goodIn_app (goodIn_of _ (by decide +kernel)) ggL_law_X10_goal
set_option maxRecDepth 100000 in
theorem ggL_law_X11_goal : GoodIn wsL_law wsX11_goal := goodIn_r _ [673, 379, 380, 381, 5, 382, 364, 365, 366, 367, 288, 289, 290, 291, 275, 352, 353, 354, 292, 293, 294, 295, 296, 297, 298, 299, 300, 301, 662, 663, 664, 665, 355, 356, 357, 358, 359, 276, 986, 987, 988, 989, 990, 991, 992, 993, 994, 995, 996, 997, 998, 999, 1000, 1001, 1002] rfl (by decide +kernel)
set_option maxRecDepth 100000 in
theorem gL_law_X11_goal : GoodIn wsL_law (wsV RL 60 RX11 yX11_goal wsX11_goal) := goodIn_app (goodIn_of _ (by decide +kernel)) ggL_law_X11_goal
set_option maxRecDepth 100000 in
theorem ggL_law_X10_distance : GoodIn wsL_law wsX10_distance := goodIn_r _ [677, 15, 308, 27, 678, 373, 254, 255, 48, 256, 60, 144, 145, 146, 59, 147, 70, 679, 571, 572, 26, 573, 96, 566, 98, 565, 567, 137, 138, 139, 140, 141, 142, 143, 574, 575, 576, 577, 569, 578, 116, 117, 118, 579, 403, 404, 14, 405, 53, 123, 400, 580, 266, 267, 268, 133, 374, 979, 980, 981, 982, 983, 984, 985, 1003, 1004, 1010, 1011, 1012, 1013, 1014, 1015, 1016, 1033, 1034, 1035, 1036, 1037, 1038, 1039, 1027, 1028, 1029, 1030, 1031, 1032] rfl (by decide +kernel)
set_option maxRecDepth 100000 in
theorem gL_law_X10_distance : GoodIn wsL_law (wsV RL 61 RX10 yX10_distance wsX10_distance) := goodIn_app (goodIn_of _ (by decide +kernel)) ggL_law_X10_distance
set_option maxRecDepth 100000 in
theorem ggL_law_X11_distance : GoodIn wsL_law wsX11_distance := goodIn_r _ [683, 280, 379, 380, 381, 5, 382, 364, 365, 366, 367, 288, 289, 290, 291, 275, 352, 353, 354, 292, 293, 294, 295, 296, 297, 298, 299, 300, 301, 684, 685, 686, 687, 281, 418, 419, 420, 421, 414, 415, 416, 417, 422, 423, 424, 425, 986, 987, 988, 989, 990, 991, 992, 993, 994, 995, 996, 997, 998, 999, 1000, 1001, 1002] rfl (by decide +kernel)
set_option maxRecDepth 100000 in
theorem gL_law_X11_distance : GoodIn wsL_law (wsV RL 64 RX11 yX11_distance wsX11_distance) := goodIn_app (goodIn_of _ (by decide +kernel)) ggL_law_X11_distance
set_option maxRecDepth 100000 in
theorem ggL_law_X10_again : GoodIn wsL_law wsX10_again := goodIn_r _ [691, 15, 308, 27, 692, 678, 373, 254, 255, 48, 256, 60, 144, 145, 146, 59, 147, 70, 588, 589, 590, 26, 591, 592, 582, 583, 584, 565, 585, 586, 547, 548, 14, 549, 550, 551, 552, 553, 53, 123, 400, 554, 555, 556, 557, 558, 559, 560, 587, 562, 563, 564, 97, 566, 98, 567, 137, 138, 139, 140, 141, 142, 143, 568, 569, 570, 571, 572, 573, 96, 574, 575, 576, 577, 578, 116, 117, 118, 579, 403, 404, 405, 580, 266, 267, 268, 133, 679, 693, 694, 695, 696, 697, 698, 699, 700, 701, 702, 703, 704, 374, 979, 980, 981, 982, 983, 984, 985, 1003, 1004, 1033, 1034, 1035, 1036, 1037, 1038, 1010, 1011, 1012, 1013, 1014, 1015, 1016, 1039, 1027, 1028, 1029, 1030, 1031, 1032] rfl (by decide +kernel)
set_option maxRecDepth 100000 in
theorem gL_law_X10_again : GoodIn wsL_law (wsV RL 65 RX10 yX10_again wsX10_again) := goodIn_app (goodIn_of _ (by decide +kernel)) ggL_law_X10_again
set_option maxRecDepth 100000 in
theorem ggL_law_X11_again : GoodIn wsL_law wsX11_again := goodIn_r _ [708, 709, 681, 682, 5, 683, 280, 379, 380, 381, 382, 364, 365, 366, 367, 288, 289, 290, 291, 275, 352, 353, 354, 292, 293, 294, 295, 296, 297, 298, 299, 300, 301, 684, 685, 686, 687, 281, 418, 419, 420, 421, 414, 415, 416, 417, 422, 423, 424, 425, 625, 626, 627, 628, 617, 618, 619, 620, 279, 498, 499, 500, 501, 502, 503, 504, 505, 506, 507, 508, 509, 621, 622, 623, 624, 510, 511, 512, 513, 360, 361, 362, 363, 986, 987, 988, 989, 990, 991, 992, 993, 994, 995, 996, 997, 998, 999, 1000, 1001, 1002] rfl (by decide +kernel)
set_option maxRecDepth 100000 in
theorem gL_law_X11_again : GoodIn wsL_law (wsV RL 68 RX11 yX11_again wsX11_again) := goodIn_app (goodIn_of _ (by decide +kernel)) ggL_law_X11_again

-- the law's calls: their words
set_option maxRecDepth 100000 in
theorem ggL_law_X10_way : GoodIn wsL_law wsX10_way := goodIn_r _ [713, 15, 308, 27, 678, 373, 254, 255, 48, 256, 60, 144, 145, 146, 59, 147, 70, 679, 571, 572, 26, 573, 96, 566, 98, 565, 567, 137, 138, 139, 140, 141, 142, 143, 574, 575, 576, 577, 569, 578, 116, 117, 118, 579, 403, 404, 14, 405, 53, 123, 400, 580, 266, 267, 268, 133, 374, 714, 715, 716, 717, 697, 698, 699, 700, 701, 702, 703, 704, 979, 980, 981, 982, 983, 984, 985, 1003, 1004, 1010, 1011, 1012, 1013, 1014, 1015, 1016, 1033, 1034, 1035, 1036, 1037, 1038, 1039, 1027, 1028, 1029, 1030, 1031, 1032] rfl (by decide +kernel)
set_option maxRecDepth 100000 in
theorem gL_law_X10_way : GoodIn wsL_law (wsV RL 69 RX10 yX10_way wsX10_way) := goodIn_app (goodIn_of _ (by decide +kernel)) ggL_law_X10_way
set_option maxRecDepth 100000 in
theorem ggL_law_X11_way : GoodIn wsL_law wsX11_way := goodIn_r _ [721, 280, 379, 380, 381, 5, 382, 364, 365, 366, 367, 288, 289, 290, 291, 275, 352, 353, 354, 292, 293, 294, 295, 296, 297, 298, 299, 300, 301, 684, 685, 686, 687, 281, 418, 419, 420, 421, 414, 415, 416, 417, 422, 423, 424, 425, 722, 723, 724, 725, 986, 987, 988, 989, 990, 991, 992, 993, 994, 995, 996, 997, 998, 999, 1000, 1001, 1002] rfl (by decide +kernel)
set_option maxRecDepth 100000 in
theorem gL_law_X11_way : GoodIn wsL_law (wsV RL 72 RX11 yX11_way wsX11_way) := goodIn_app (goodIn_of _ (by decide +kernel)) ggL_law_X11_way
set_option maxRecDepth 100000 in
theorem ggL_law_X10_farthest : GoodIn wsL_law wsX10_farthest := goodIn_r _ [729, 15, 308, 27, 678, 373, 254, 255, 48, 256, 60, 144, 145, 146, 59, 147, 70, 679, 571, 572, 26, 573, 96, 566, 98, 565, 567, 137, 138, 139, 140, 141, 142, 143, 574, 575, 576, 577, 569, 578, 116, 117, 118, 579, 403, 404, 14, 405, 53, 123, 400, 580, 266, 267, 268, 133, 730, 731, 732, 733, 568, 374, 979, 980, 981, 982, 983, 984, 985, 1003, 1004, 1010, 1011, 1012, 1013, 1014, 1015, 1016, 1033, 1034, 1035, 1036, 1037, 1038, 1039, 1027, 1028, 1029, 1030, 1031, 1032] rfl (by decide +kernel)
set_option maxRecDepth 100000 in
theorem gL_law_X10_farthest : GoodIn wsL_law (wsV RL 73 RX10 yX10_farthest wsX10_farthest) := goodIn_app (goodIn_of _ (by decide +kernel)) ggL_law_X10_farthest
set_option maxRecDepth 100000 in
theorem ggL_law_X11_farthest : GoodIn wsL_law wsX11_farthest := goodIn_r _ [737, 280, 379, 380, 381, 5, 382, 364, 365, 366, 367, 288, 289, 290, 291, 275, 352, 353, 354, 292, 293, 294, 295, 296, 297, 298, 299, 300, 301, 684, 685, 686, 687, 281, 418, 419, 420, 421, 414, 415, 416, 417, 422, 423, 424, 425, 738, 739, 740, 741, 986, 987, 988, 989, 990, 991, 992, 993, 994, 995, 996, 997, 998, 999, 1000, 1001, 1002] rfl (by decide +kernel)
set_option maxRecDepth 100000 in
theorem gL_law_X11_farthest : GoodIn wsL_law (wsV RL 76 RX11 yX11_farthest wsX11_farthest) := goodIn_app (goodIn_of _ (by decide +kernel)) ggL_law_X11_farthest
set_option maxRecDepth 100000 in
theorem ggL_law_X10_longest : GoodIn wsL_law wsX10_longest := goodIn_r _ [745, 27, 15, 746, 747, 748, 749, 750, 751, 26, 752, 753, 565, 96, 754, 755, 568, 254, 255, 48, 256, 60, 144, 145, 146, 59, 147, 70, 570, 571, 572, 573, 566, 98, 567, 137, 138, 139, 140, 141, 142, 143, 574, 575, 576, 577, 569, 578, 116, 117, 118, 579, 403, 404, 14, 405, 53, 123, 400, 580, 266, 267, 268, 133, 756, 731, 732, 733, 979, 980, 981, 982, 983, 984, 985, 1010, 1011, 1012, 1013, 1014, 1015, 1016, 1003, 1004, 1033, 1034, 1035, 1036, 1037, 1038, 1039, 1027, 1028, 1029, 1030, 1031, 1032] rfl (by decide +kernel)
set_option maxRecDepth 100000 in
theorem gL_law_X10_longest : GoodIn wsL_law (wsV RL 77 RX10 yX10_longest wsX10_longest) := goodIn_app (goodIn_of _ (by decide +kernel)) ggL_law_X10_longest
set_option maxRecDepth 100000 in
theorem ggL_law_X11_longest : GoodIn wsL_law wsX11_longest := goodIn_r _ [760, 280, 352, 353, 5, 354, 364, 365, 366, 367, 288, 289, 290, 291, 275, 292, 293, 294, 295, 296, 297, 298, 299, 300, 301, 684, 685, 686, 687, 281, 418, 419, 420, 421, 414, 415, 416, 417, 379, 380, 381, 382, 422, 423, 424, 425, 738, 739, 740, 741, 986, 987, 988, 989, 990, 991, 992, 993, 994, 995, 996, 997, 998, 999, 1000, 1001, 1002] rfl (by decide +kernel)
set_option maxRecDepth 100000 in
theorem gL_law_X11_longest : GoodIn wsL_law (wsV RL 80 RX11 yX11_longest wsX11_longest) := goodIn_app (goodIn_of _ (by decide +kernel)) ggL_law_X11_longest
set_option maxRecDepth 100000 in
theorem ggL_law_X10_grade : GoodIn wsL_law wsX10_grade := goodIn_r _ [764, 27, 15, 40, 544, 678, 543, 765, 766, 185, 67, 186, 679, 571, 572, 26, 573, 96, 566, 98, 565, 567, 137, 138, 59, 139, 70, 140, 141, 142, 143, 574, 575, 576, 577, 569, 145, 146, 147, 578, 116, 117, 118, 579, 403, 404, 14, 405, 53, 123, 400, 580, 266, 267, 48, 268, 133, 374, 767, 768, 769, 770, 771, 610, 611, 612, 550, 551, 552, 553, 554, 555, 556, 557, 558, 559, 560, 697, 698, 699, 700, 701, 702, 703, 704, 979, 980, 981, 982, 983, 984, 985, 1003, 1004, 1027, 1028, 1029, 1030, 1031, 1032, 1010, 1011, 1012, 1013, 1014, 1015, 1016, 1039, 1033, 1034, 1035, 1036, 1037, 1038] rfl (by decide +kernel)
set_option maxRecDepth 100000 in
theorem gL_law_X10_grade : GoodIn wsL_law (wsV RL 81 RX10 yX10_grade wsX10_grade) := goodIn_app (goodIn_of _ (by decide +kernel)) ggL_law_X10_grade
set_option maxRecDepth 100000 in
theorem ggL_law_X11_grade : GoodIn wsL_law wsX11_grade := goodIn_r _ [775, 275, 280, 684, 685, 686, 5, 687, 281, 364, 365, 366, 367, 288, 289, 290, 291, 418, 419, 420, 421, 414, 415, 416, 417, 379, 380, 381, 382, 352, 353, 354, 292, 293, 294, 295, 296, 297, 298, 299, 300, 301, 422, 423, 424, 425, 641, 642, 643, 644, 633, 634, 635, 636, 722, 723, 724, 725, 986, 987, 988, 989, 990, 991, 992, 993, 994, 995, 996, 997, 998, 999, 1000, 1001, 1002] rfl (by decide +kernel)
set_option maxRecDepth 100000 in
theorem gL_law_X11_grade : GoodIn wsL_law (wsV RL 84 RX11 yX11_grade wsX11_grade) := goodIn_app (goodIn_of _ (by decide +kernel)) ggL_law_X11_grade
set_option maxRecDepth 100000 in
theorem ggL_law_X10_sign : GoodIn wsL_law wsX10_sign := goodIn_r _ [779, 15, 308, 19, 40, 373, 254, 255, 48, 256, 60, 144, 145, 146, 59, 147, 70, 780, 781, 2, 782, 518, 519, 520, 783, 606, 607, 14, 608, 53, 124, 400, 597, 598, 599, 600, 601, 602, 603, 604, 605, 609, 610, 611, 612, 550, 551, 552, 553, 123, 554, 555, 556, 557, 558, 559, 560, 317, 318, 319, 18, 320, 321, 84, 322, 323, 324, 325, 326, 327, 328, 329, 330, 331, 332, 52, 333, 75, 76, 77, 334, 335, 336, 337, 338, 339, 340, 341, 185, 67, 186, 342, 343, 344, 345, 784, 785, 786, 787, 478, 116, 117, 118, 979, 980, 981, 982, 983, 984, 985, 1003, 1004, 1033, 1034, 1035, 1036, 1037, 1038, 1039, 1027, 1028, 1029, 1030, 1031, 1032, 1005, 1006] rfl (by decide +kernel)
set_option maxRecDepth 100000 in
theorem gL_law_X10_sign : GoodIn wsL_law (wsV RL 85 RX10 yX10_sign wsX10_sign) := goodIn_app (goodIn_of _ (by decide +kernel)) ggL_law_X10_sign
set_option maxRecDepth 100000 in
theorem ggL_law_X11_sign : GoodIn wsL_law wsX11_sign := goodIn_r _ [791, 275, 379, 380, 381, 5, 382, 364, 365, 366, 367, 288, 289, 290, 291, 352, 353, 354, 292, 293, 294, 295, 296, 297, 298, 299, 300, 301, 637, 638, 639, 640, 641, 642, 643, 644, 633, 634, 635, 636, 418, 419, 420, 421, 414, 415, 416, 417, 422, 423, 424, 425, 355, 356, 357, 358, 359, 276, 986, 987, 988, 989, 990, 991, 992, 993, 994, 995, 996, 997, 998, 999, 1000, 1001, 1002] rfl (by decide +kernel)
set_option maxRecDepth 100000 in
theorem gL_law_X11_sign : GoodIn wsL_law (wsV RL 88 RX11 yX11_sign wsX11_sign) := goodIn_app (goodIn_of _ (by decide +kernel)) ggL_law_X11_sign
set_option maxRecDepth 100000 in
theorem ggL_law_X10_unsign : GoodIn wsL_law wsX10_unsign := goodIn_r _ [795, 15, 308, 19, 40, 373, 254, 255, 48, 256, 60, 144, 145, 146, 59, 147, 70, 783, 606, 607, 14, 608, 53, 124, 400, 317, 318, 319, 18, 320, 321, 84, 322, 323, 324, 325, 326, 327, 328, 329, 330, 331, 332, 52, 333, 75, 76, 77, 334, 335, 336, 337, 338, 339, 340, 341, 185, 67, 186, 342, 343, 344, 345, 796, 797, 798, 799, 800, 801, 802, 803, 478, 116, 117, 118, 979, 980, 981, 982, 983, 984, 985, 1003, 1004, 1033, 1034, 1035, 1036, 1037, 1038, 1039, 1027, 1028, 1029, 1030, 1031, 1032, 1005, 1006] rfl (by decide +kernel)
set_option maxRecDepth 100000 in
theorem gL_law_X10_unsign : GoodIn wsL_law (wsV RL 89 RX10 yX10_unsign wsX10_unsign) := goodIn_app (goodIn_of _ (by decide +kernel)) ggL_law_X10_unsign
set_option maxRecDepth 100000 in
theorem ggL_law_X11_unsign : GoodIn wsL_law wsX11_unsign := goodIn_r _ [807, 275, 379, 380, 381, 5, 382, 364, 365, 366, 367, 288, 289, 290, 291, 352, 353, 354, 292, 293, 294, 295, 296, 297, 298, 299, 300, 301, 355, 356, 357, 358, 359, 276, 986, 987, 988, 989, 990, 991, 992, 993, 994, 995, 996, 997, 998, 999, 1000, 1001, 1002] rfl (by decide +kernel)
set_option maxRecDepth 100000 in
theorem gL_law_X11_unsign : GoodIn wsL_law (wsV RL 92 RX11 yX11_unsign wsX11_unsign) := goodIn_app (goodIn_of _ (by decide +kernel)) ggL_law_X11_unsign
set_option maxRecDepth 100000 in
theorem ggL_law_X10_points : GoodIn wsL_law wsX10_points := goodIn_r _ [811, 15, 308, 27, 40, 544, 373, 254, 255, 48, 256, 60, 144, 145, 146, 59, 147, 70, 812, 602, 603, 14, 604, 605, 606, 607, 608, 53, 124, 400, 609, 610, 611, 612, 550, 551, 552, 553, 123, 554, 555, 556, 557, 558, 559, 560, 679, 571, 572, 26, 573, 96, 566, 98, 565, 567, 137, 138, 139, 140, 141, 142, 143, 574, 575, 576, 577, 569, 578, 116, 117, 118, 579, 403, 404, 405, 580, 266, 267, 268, 133, 813, 814, 815, 816, 817, 797, 798, 799, 818, 819, 820, 821, 701, 702, 703, 704, 822, 823, 824, 825, 979, 980, 981, 982, 983, 984, 985, 1003, 1004, 1027, 1028, 1029, 1030, 1031, 1032, 1033, 1034, 1035, 1036, 1037, 1038, 1039, 1010, 1011, 1012, 1013, 1014, 1015, 1016] rfl (by decide +kernel)
set_option maxRecDepth 100000 in
theorem gL_law_X10_points : GoodIn wsL_law (wsV RL 93 RX10 yX10_points wsX10_points) := goodIn_app (goodIn_of _ (by decide +kernel)) ggL_law_X10_points
set_option maxRecDepth 100000 in
theorem ggL_law_X11_points : GoodIn wsL_law wsX11_points := goodIn_r _ [829, 275, 379, 380, 381, 5, 382, 364, 365, 366, 367, 288, 289, 290, 291, 352, 353, 354, 292, 293, 294, 295, 296, 297, 298, 299, 300, 301, 830, 831, 832, 833, 641, 642, 643, 644, 633, 634, 635, 636, 418, 419, 420, 421, 414, 415, 416, 417, 422, 423, 424, 425, 684, 685, 686, 687, 280, 281, 834, 835, 836, 837, 722, 723, 724, 725, 986, 987, 988, 989, 990, 991, 992, 993, 994, 995, 996, 997, 998, 999, 1000, 1001, 1002] rfl (by decide +kernel)
set_option maxRecDepth 100000 in
theorem gL_law_X11_points : GoodIn wsL_law (wsV RL 96 RX11 yX11_points wsX11_points) := goodIn_app (goodIn_of _ (by decide +kernel)) ggL_law_X11_points
set_option maxRecDepth 100000 in
theorem ggL_law_X10_walk : GoodIn wsL_law wsX10_walk := goodIn_r _ [841, 31, 15, 27, 842, 843, 844, 845, 846, 847, 30, 848, 849, 850, 104, 851, 852, 853, 854, 855, 856, 857, 571, 572, 26, 573, 96, 566, 98, 565, 567, 137, 138, 59, 139, 70, 140, 141, 142, 143, 574, 575, 576, 577, 569, 145, 146, 147, 578, 116, 117, 118, 579, 403, 404, 14, 405, 53, 123, 400, 580, 266, 267, 48, 268, 133, 858, 859, 860, 861, 862, 863, 864, 865, 866, 867, 868, 869, 602, 603, 604, 605, 606, 607, 608, 124, 609, 610, 611, 612, 550, 551, 552, 553, 554, 555, 556, 557, 558, 559, 560, 870, 814, 815, 816, 817, 797, 798, 799, 818, 819, 820, 821, 701, 702, 703, 704, 822, 823, 824, 825, 871, 872, 873, 874, 875, 480, 2, 481, 876, 979, 980, 981, 982, 983, 984, 985, 1017, 1018, 1019, 1020, 1021, 1003, 1004, 1027, 1028, 1029, 1030, 1031, 1032, 1010, 1011, 1012, 1013, 1014, 1015, 1016, 1039, 1033, 1034, 1035, 1036, 1037, 1038] rfl (by decide +kernel)
set_option maxRecDepth 100000 in
theorem gL_law_X10_walk : GoodIn wsL_law (wsV RL 97 RX10 yX10_walk wsX10_walk) := goodIn_app (goodIn_of _ (by decide +kernel)) ggL_law_X10_walk
set_option maxRecDepth 100000 in
theorem ggL_law_X11_walk : GoodIn wsL_law wsX11_walk := goodIn_r _ [880, 283, 881, 882, 352, 353, 5, 354, 883, 884, 885, 886, 275, 887, 684, 685, 686, 687, 280, 281, 364, 365, 366, 367, 288, 289, 290, 291, 418, 419, 420, 421, 414, 415, 416, 417, 379, 380, 381, 382, 292, 293, 294, 295, 296, 297, 298, 299, 300, 301, 422, 423, 424, 425, 888, 889, 890, 891, 830, 831, 832, 833, 641, 642, 643, 644, 633, 634, 635, 636, 834, 835, 836, 837, 722, 723, 724, 725, 986, 987, 988, 989, 990, 991, 992, 993, 994, 995, 996, 997, 998, 999, 1000, 1001, 1002] rfl (by decide +kernel)
set_option maxRecDepth 100000 in
theorem gL_law_X11_walk : GoodIn wsL_law (wsV RL 100 RX11 yX11_walk wsX11_walk) := goodIn_app (goodIn_of _ (by decide +kernel)) ggL_law_X11_walk
set_option maxRecDepth 100000 in
theorem ggL_law_X10_walked : GoodIn wsL_law wsX10_walked := goodIn_r _ [895, 31, 15, 27, 842, 40, 544, 843, 845, 846, 847, 30, 848, 849, 850, 104, 851, 852, 853, 854, 855, 856, 857, 571, 572, 26, 573, 96, 566, 98, 565, 567, 137, 138, 59, 139, 70, 140, 141, 142, 143, 574, 575, 576, 577, 569, 145, 146, 147, 578, 116, 117, 118, 579, 403, 404, 14, 405, 53, 123, 400, 580, 266, 267, 48, 268, 133, 858, 859, 860, 861, 862, 863, 864, 865, 866, 867, 868, 869, 602, 603, 604, 605, 606, 607, 608, 124, 609, 610, 611, 612, 550, 551, 552, 553, 554, 555, 556, 557, 558, 559, 560, 870, 814, 815, 816, 817, 797, 798, 799, 818, 819, 820, 821, 701, 702, 703, 704, 822, 823, 824, 825, 871, 872, 873, 874, 875, 480, 2, 481, 876, 979, 980, 981, 982, 983, 984, 985, 1017, 1018, 1019, 1020, 1021, 1003, 1004, 1027, 1028, 1029, 1030, 1031, 1032, 1010, 1011, 1012, 1013, 1014, 1015, 1016, 1039, 1033, 1034, 1035, 1036, 1037, 1038] rfl (by decide +kernel)
set_option maxRecDepth 100000 in
theorem gL_law_X10_walked : GoodIn wsL_law (wsV RL 101 RX10 yX10_walked wsX10_walked) := goodIn_app (goodIn_of _ (by decide +kernel)) ggL_law_X10_walked
set_option maxRecDepth 100000 in
theorem ggL_law_X11_walked : GoodIn wsL_law wsX11_walked := goodIn_r _ [899, 881, 275, 882, 883, 884, 885, 5, 886, 283, 887, 684, 685, 686, 687, 280, 281, 364, 365, 366, 367, 288, 289, 290, 291, 418, 419, 420, 421, 414, 415, 416, 417, 379, 380, 381, 382, 352, 353, 354, 292, 293, 294, 295, 296, 297, 298, 299, 300, 301, 422, 423, 424, 425, 888, 889, 890, 891, 830, 831, 832, 833, 641, 642, 643, 644, 633, 634, 635, 636, 834, 835, 836, 837, 722, 723, 724, 725, 986, 987, 988, 989, 990, 991, 992, 993, 994, 995, 996, 997, 998, 999, 1000, 1001, 1002] rfl (by decide +kernel)
set_option maxRecDepth 100000 in
theorem gL_law_X11_walked : GoodIn wsL_law (wsV RL 104 RX11 yX11_walked wsX11_walked) := goodIn_app (goodIn_of _ (by decide +kernel)) ggL_law_X11_walked
set_option maxRecDepth 100000 in
theorem ggL_law_X10_undo : GoodIn wsL_law wsX10_undo := goodIn_r _ [903, 19, 545, 15, 40, 308, 904, 905, 906, 18, 907, 321, 326, 327, 328, 329, 84, 330, 331, 332, 52, 333, 75, 76, 77, 334, 335, 336, 337, 338, 339, 59, 340, 70, 341, 185, 67, 186, 342, 343, 344, 345, 908, 129, 130, 48, 131, 132, 133, 134, 60, 135, 136, 137, 138, 139, 140, 141, 142, 143, 144, 145, 146, 147, 148, 149, 150, 151, 152, 153, 154, 155, 156, 157, 158, 159, 160, 161, 162, 163, 164, 165, 166, 167, 168, 169, 170, 171, 172, 173, 174, 175, 176, 177, 178, 179, 180, 181, 182, 183, 66, 68, 184, 187, 188, 189, 190, 191, 192, 193, 194, 195, 196, 197, 198, 199, 200, 201, 202, 203, 204, 205, 206, 207, 208, 209, 210, 211, 212, 213, 214, 215, 216, 217, 218, 219, 220, 221, 222, 223, 224, 225, 226, 227, 228, 229, 230, 231, 232, 233, 234, 235, 236, 237, 238, 239, 240, 241, 116, 117, 118, 242, 243, 244, 245, 246, 247, 248, 249, 250, 251, 252, 253, 254, 255, 256, 257, 258, 259, 260, 261, 262, 263, 264, 265, 266, 267, 268, 979, 980, 981, 982, 983, 984, 985, 1005, 1006, 1003, 1004, 1027, 1028, 1029, 1030, 1031, 1032, 1039, 1033, 1034, 1035, 1036, 1037, 1038] rfl (by decide +kernel)
set_option maxRecDepth 100000 in
theorem gL_law_X10_undo : GoodIn wsL_law (wsV RL 105 RX10 yX10_undo wsX10_undo) := goodIn_app (goodIn_of _ (by decide +kernel)) ggL_law_X10_undo
set_option maxRecDepth 100000 in
theorem ggL_law_X11_undo : GoodIn wsL_law wsX11_undo := goodIn_r _ [912, 359, 275, 276, 986, 987, 988, 989, 990, 991, 992, 993, 994, 995, 996, 997, 998, 999, 1000, 1001, 1002] rfl (by decide +kernel)
set_option maxRecDepth 100000 in
theorem gL_law_X11_undo : GoodIn wsL_law (wsV RL 108 RX11 yX11_undo wsX11_undo) := goodIn_app (goodIn_of _ (by decide +kernel)) ggL_law_X11_undo
set_option maxRecDepth 100000 in
theorem ggL_law_X10_type : GoodIn wsL_law wsX10_type := goodIn_r _ [916, 35, 307, 306, 115, 116, 117, 59, 118, 70, 979, 980, 981, 982, 983, 984, 985, 1022, 1023, 1039] rfl (by decide +kernel)
set_option maxRecDepth 100000 in
theorem gL_law_X10_type : GoodIn wsL_law (wsV RL 109 RX10 yX10_type wsX10_type) := goodIn_app (goodIn_of _ (by decide +kernel)) ggL_law_X10_type
set_option maxRecDepth 100000 in
theorem ggL_law_X11_type : GoodIn wsL_law wsX11_type := goodIn_r _ [920, 351, 277, 352, 353, 5, 354, 986, 987, 988, 989, 990, 991, 992, 993, 994, 995, 996, 997, 998, 999, 1000, 1001, 1002] rfl (by decide +kernel)
set_option maxRecDepth 100000 in
theorem gL_law_X11_type : GoodIn wsL_law (wsV RL 112 RX11 yX11_type wsX11_type) := goodIn_app (goodIn_of _ (by decide +kernel)) ggL_law_X11_type
set_option maxRecDepth 100000 in
theorem ggL_law_X10_clearText : GoodIn wsL_law wsX10_clearText := goodIn_r _ [924, 35, 307, 979, 980, 981, 982, 983, 984, 985, 1022, 1023] rfl (by decide +kernel)
set_option maxRecDepth 100000 in
theorem gL_law_X10_clearText : GoodIn wsL_law (wsV RL 113 RX10 yX10_clearText wsX10_clearText) := goodIn_app (goodIn_of _ (by decide +kernel)) ggL_law_X10_clearText
set_option maxRecDepth 100000 in
theorem ggL_law_X11_clearText : GoodIn wsL_law wsX11_clearText := goodIn_r _ [928, 351, 986, 987, 988, 989, 990, 991, 992, 993, 994, 995, 996, 997, 998, 999, 1000, 1001, 1002] rfl (by decide +kernel)
set_option maxRecDepth 100000 in
theorem gL_law_X11_clearText : GoodIn wsL_law (wsV RL 116 RX11 yX11_clearText wsX11_clearText) := goodIn_app (goodIn_of _ (by decide +kernel)) ggL_law_X11_clearText
set_option maxRecDepth 100000 in
theorem ggL_law_X10_fault : GoodIn wsL_law wsX10_fault := goodIn_r _ [932, 39, 15, 35, 933, 934, 935, 936, 937, 38, 938, 939, 940, 941, 942, 943, 944, 945, 946, 947, 948, 145, 146, 59, 147, 70, 949, 156, 157, 158, 159, 160, 161, 162, 163, 164, 165, 166, 167, 168, 169, 170, 171, 172, 173, 174, 175, 176, 177, 178, 179, 180, 181, 182, 183, 66, 67, 68, 184, 185, 186, 187, 188, 189, 190, 191, 192, 193, 194, 195, 196, 197, 198, 199, 200, 201, 202, 203, 204, 205, 206, 207, 208, 209, 210, 211, 212, 213, 214, 215, 216, 217, 218, 219, 220, 221, 222, 223, 224, 225, 226, 227, 228, 229, 230, 231, 232, 233, 234, 235, 236, 237, 238, 239, 240, 950, 951, 952, 953, 954, 258, 259, 48, 260, 253, 254, 255, 256, 60, 144, 261, 262, 263, 264, 133, 265, 266, 267, 268, 955, 403, 404, 14, 405, 53, 123, 400, 956, 979, 980, 981, 982, 983, 984, 985, 1024, 1025, 1026, 1003, 1004, 1027, 1028, 1029, 1030, 1031, 1032, 1022, 1023, 1039, 1033, 1034, 1035, 1036, 1037, 1038] rfl (by decide +kernel)
set_option maxRecDepth 100000 in
theorem gL_law_X10_fault : GoodIn wsL_law (wsV RL 117 RX10 yX10_fault wsX10_fault) := goodIn_app (goodIn_of _ (by decide +kernel)) ggL_law_X10_fault
set_option maxRecDepth 100000 in
theorem ggL_law_X11_fault : GoodIn wsL_law wsX11_fault := goodIn_r _ [960, 961, 352, 353, 5, 354, 962, 963, 964, 965, 275, 966, 351, 277, 967, 968, 969, 414, 415, 416, 417, 288, 289, 290, 291, 379, 380, 381, 382, 364, 365, 366, 367, 292, 293, 294, 295, 296, 297, 298, 299, 300, 301, 418, 419, 420, 421, 422, 423, 424, 425, 986, 987, 988, 989, 990, 991, 992, 993, 994, 995, 996, 997, 998, 999, 1000, 1001, 1002] rfl (by decide +kernel)
set_option maxRecDepth 100000 in
theorem gL_law_X11_fault : GoodIn wsL_law (wsV RL 120 RX11 yX11_fault wsX11_fault) := goodIn_app (goodIn_of _ (by decide +kernel)) ggL_law_X11_fault
set_option maxRecDepth 100000 in
theorem ggL_law_X10_moved : GoodIn wsL_law wsX10_moved := goodIn_r _ [973, 39, 15, 35, 974, 935, 936, 937, 38, 938, 939, 940, 941, 942, 943, 944, 945, 946, 947, 948, 145, 146, 59, 147, 70, 949, 156, 157, 158, 159, 160, 161, 162, 163, 164, 165, 166, 167, 168, 169, 170, 171, 172, 173, 174, 175, 176, 177, 178, 179, 180, 181, 182, 183, 66, 67, 68, 184, 185, 186, 187, 188, 189, 190, 191, 192, 193, 194, 195, 196, 197, 198, 199, 200, 201, 202, 203, 204, 205, 206, 207, 208, 209, 210, 211, 212, 213, 214, 215, 216, 217, 218, 219, 220, 221, 222, 223, 224, 225, 226, 227, 228, 229, 230, 231, 232, 233, 234, 235, 236, 237, 238, 239, 240, 950, 951, 952, 953, 954, 258, 259, 48, 260, 253, 254, 255, 256, 60, 144, 261, 262, 263, 264, 133, 265, 266, 267, 268, 955, 403, 404, 14, 405, 53, 123, 400, 956, 979, 980, 981, 982, 983, 984, 985, 1024, 1025, 1026, 1003, 1004, 1027, 1028, 1029, 1030, 1031, 1032, 1022, 1023, 1039, 1033, 1034, 1035, 1036, 1037, 1038] rfl (by decide +kernel)
set_option maxRecDepth 100000 in
theorem gL_law_X10_moved : GoodIn wsL_law (wsV RL 121 RX10 yX10_moved wsX10_moved) := goodIn_app (goodIn_of _ (by decide +kernel)) ggL_law_X10_moved
set_option maxRecDepth 100000 in
theorem ggL_law_X11_moved : GoodIn wsL_law wsX11_moved := goodIn_r _ [978, 966, 962, 963, 964, 5, 965, 275, 351, 277, 961, 967, 968, 969, 414, 415, 416, 417, 288, 289, 290, 291, 379, 380, 381, 382, 364, 365, 366, 367, 352, 353, 354, 292, 293, 294, 295, 296, 297, 298, 299, 300, 301, 418, 419, 420, 421, 422, 423, 424, 425, 986, 987, 988, 989, 990, 991, 992, 993, 994, 995, 996, 997, 998, 999, 1000, 1001, 1002] rfl (by decide +kernel)
set_option maxRecDepth 100000 in
theorem gL_law_X11_moved : GoodIn wsL_law (wsV RL 124 RX11 yX11_moved wsX11_moved) := goodIn_app (goodIn_of _ (by decide +kernel)) ggL_law_X11_moved

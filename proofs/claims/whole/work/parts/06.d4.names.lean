set_option maxRecDepth 20000 in
theorem ggL_law_X7_fewest : GoodIn wsL_law wsX7_fewest := goodIn_r _ [705, 116, 117, 118, 5, 119, 86, 120, 121, 122, 123, 124, 125, 126, 127, 706, 707, 708, 709, 710, 711, 712, 713, 199, 200, 206, 207, 208, 201, 202, 203, 204, 69, 74, 71, 72, 205, 75, 209, 210, 211, 212, 76, 79, 80, 81, 389, 164, 165, 166, 167, 168, 169, 1048, 1049, 1050, 1051, 1052, 1053, 1054, 1055, 1056, 1057, 1058, 1059, 1060, 1061, 1062, 1063, 1064, 1065, 1066, 1067, 1068, 1069, 1070, 1071] (by decide +kernel) (by decide +kernel)
set_option maxRecDepth 20000 in
theorem gL_law_X7_fewest : GoodIn wsL_law (wsV RL 210 RX7 yX7_fewest wsX7_fewest) := goodIn_app (goodIn_of _ (by decide +kernel)) ggL_law_X7_fewest
set_option maxRecDepth 20000 in
theorem ggL_law_L_toRetract : GoodIn wsL_law wsL_toRetract := goodIn_ca (goodIn_ca (goodIn_r _ [716, 91, 717, 718, 719, 2, 720, 100, 101, 102, 103, 104, 105, 16, 695, 696, 697, 698, 285, 286, 149, 150, 450, 15, 451, 452, 41, 186, 157, 158, 457, 458, 459, 460, 20, 461, 462, 463, 464, 465, 466, 467, 37, 38, 162, 39, 40, 163, 164, 165, 166, 167, 168, 169, 468, 19, 469, 470, 173, 174, 175, 176, 177, 178, 45, 46, 699, 700, 701, 220, 1041, 1042, 1043, 1044, 1045, 1046, 1047, 1072, 1073, 1074, 1075, 1076, 1077, 1078, 1079, 1080, 1081, 1082] (by decide +kernel) (by decide +kernel)) (goodIn_sub (fun _ h => List.mem_append_left _ (List.mem_append_left _ (List.mem_append_right _ h))) (by decide +kernel))) (goodIn_sub (fun _ h => List.mem_append_right _ h) (by decide +kernel))
set_option maxRecDepth 20000 in
theorem gL_law_L_toRetract : GoodIn wsL_law (va_wsS RL 211 yL_toRetract wsL_toRetract) := goodIn_app (goodIn_of _ (by decide +kernel)) ggL_law_L_toRetract
set_option maxRecDepth 20000 in
theorem ggL_law_X7_toRetract : GoodIn wsL_law wsX7_toRetract := goodIn_r _ [724, 116, 117, 118, 5, 119, 86, 120, 121, 122, 123, 124, 125, 126, 127, 706, 707, 708, 709, 710, 711, 712, 713, 199, 200, 206, 207, 208, 201, 202, 203, 204, 69, 74, 71, 72, 205, 75, 209, 210, 211, 212, 76, 79, 80, 81, 389, 164, 165, 166, 167, 168, 169, 1048, 1049, 1050, 1051, 1052, 1053, 1054, 1055, 1056, 1057, 1058, 1059, 1060, 1061, 1062, 1063, 1064, 1065, 1066, 1067, 1068, 1069, 1070, 1071] (by decide +kernel) (by decide +kernel)
set_option maxRecDepth 20000 in
theorem gL_law_X7_toRetract : GoodIn wsL_law (wsV RL 213 RX7 yX7_toRetract wsX7_toRetract) := goodIn_app (goodIn_of _ (by decide +kernel)) ggL_law_X7_toRetract
set_option maxRecDepth 20000 in
theorem ggL_law_L_force : GoodIn wsL_law wsL_force := goodIn_ca (goodIn_ca (goodIn_ca (goodIn_r _ [727, 91, 728, 729, 730, 2, 731, 149, 150, 100, 101, 102, 103, 104, 105, 16, 141, 142, 143, 144, 96, 97, 695, 696, 697, 698, 285, 286, 450, 15, 451, 452, 41, 186, 157, 158, 457, 458, 459, 460, 20, 461, 462, 463, 464, 465, 466, 467, 37, 38, 162, 39, 40, 163, 164, 165, 166, 167, 168, 169, 468, 19, 469, 470, 173, 174, 175, 176, 177, 178, 45, 46, 699, 700, 701, 220, 408, 409, 410, 411, 1041, 1042, 1043, 1044, 1045, 1046, 1047, 1072, 1073, 1074, 1075, 1076, 1077, 1078, 1079, 1080, 1081, 1082] (by decide +kernel) (by decide +kernel)) (goodIn_sub (fun _ h => List.mem_append_left _ (List.mem_append_left _ (List.mem_append_right _ h))) (by decide +kernel))) (goodIn_sub (fun _ h => List.mem_append_left _ (List.mem_append_left _ (List.mem_append_left _ (List.mem_append_left _ (List.mem_append_right _ h))))) (by decide +kernel))) (goodIn_sub (fun _ h => List.mem_append_right _ h) (by decide +kernel))
set_option maxRecDepth 20000 in
theorem gL_law_L_force : GoodIn wsL_law (va_wsS RL 214 yL_force wsL_force) := goodIn_app (goodIn_of _ (by decide +kernel)) ggL_law_L_force
set_option maxRecDepth 20000 in
theorem ggL_law_X7_force : GoodIn wsL_law wsX7_force := goodIn_r _ [735, 199, 200, 116, 117, 118, 5, 119, 86, 120, 121, 122, 123, 124, 125, 126, 127, 706, 707, 708, 709, 710, 711, 712, 713, 206, 207, 208, 201, 202, 203, 204, 69, 74, 71, 72, 205, 75, 209, 210, 211, 212, 76, 79, 80, 81, 389, 164, 165, 166, 167, 168, 169, 1048, 1049, 1050, 1051, 1052, 1053, 1054, 1055, 1056, 1057, 1058, 1059, 1060, 1061, 1062, 1063, 1064, 1065, 1066, 1067, 1068, 1069, 1070, 1071] (by decide +kernel) (by decide +kernel)
set_option maxRecDepth 20000 in
theorem gL_law_X7_force : GoodIn wsL_law (wsV RL 216 RX7 yX7_force wsX7_force) := goodIn_app (goodIn_of _ (by decide +kernel)) ggL_law_X7_force
set_option maxRecDepth 20000 in
theorem ggL_law_X6_lineLength : GoodIn wsL_law wsX6_lineLength := goodIn_r _ [739, 32, 740, 741, 742, 2, 743, 16, 28, 306, 307, 308, 309, 20, 149, 150, 310, 27, 311, 312, 313, 314, 59, 157, 158, 315, 316, 317, 318, 319, 320, 321, 322, 323, 324, 325, 326, 327, 328, 329, 330, 331, 332, 333, 334, 335, 164, 165, 166, 167, 168, 169, 336, 337, 338, 339, 340, 341, 342, 343, 60, 344, 19, 345, 346, 173, 45, 46, 174, 744, 31, 745, 746, 747, 748, 749, 750, 751, 64, 1041, 1042, 1043, 1044, 1045, 1046, 1047, 1092, 1093, 1072, 1073, 1074, 1075, 1076, 1077, 1088, 1089, 1090, 1091, 1078, 1079, 1080, 1081, 1082] (by decide +kernel) (by decide +kernel)
set_option maxRecDepth 20000 in
theorem gL_law_X6_lineLength : GoodIn wsL_law (wsV RL 217 RX6 yX6_lineLength wsX6_lineLength) := goodIn_app (goodIn_of _ (by decide +kernel)) ggL_law_X6_lineLength
set_option maxRecDepth 20000 in
theorem gh_X7_lineLength_wsX7_lineLength_r1 : GoodIn wsL_law wsX7_lineLength_r1 := goodIn_r _ [127, 756, 757, 758, 5, 759, 760, 761, 762, 86, 78, 363, 364, 365, 366, 367, 368, 199, 200, 355, 356, 357, 358, 206] (by decide +kernel) (by decide +kernel)
set_option maxRecDepth 20000 in
theorem gh_X7_lineLength_wsX7_lineLength_r2 : GoodIn wsL_law wsX7_lineLength_r2 := goodIn_r _ [207, 208, 369, 370, 371, 372, 69, 74, 72, 71, 205, 75, 85, 373, 374, 375, 376, 377, 378, 379, 380, 381, 382, 383] (by decide +kernel) (by decide +kernel)
set_option maxRecDepth 20000 in
theorem gh_X7_lineLength_wsX7_lineLength_r3 : GoodIn wsL_law wsX7_lineLength_r3 := goodIn_r _ [384, 385, 386, 387, 388, 76, 80, 79, 81, 763, 764, 765, 766, 767, 768, 769, 770, 11, 12, 771, 772, 773, 774, 775] (by decide +kernel) (by decide +kernel)
set_option maxRecDepth 20000 in
theorem gh_X7_lineLength_wsX7_lineLength_r4 : GoodIn wsL_law wsX7_lineLength_r4 := goodIn_r _ [776, 777, 778, 779, 780, 781, 782, 783, 784, 785, 786, 787, 788, 789, 790, 791, 792, 793, 794, 795, 796, 797, 798, 799] (by decide +kernel) (by decide +kernel)
set_option maxRecDepth 20000 in
theorem gh_X7_lineLength_wsX7_lineLength_r5 : GoodIn wsL_law wsX7_lineLength_r5 := goodIn_r _ [800, 801, 802, 803, 804, 805, 806, 807, 808, 233, 234, 235, 809, 810, 811, 812, 813, 814, 815, 816, 817, 818, 819, 820] (by decide +kernel) (by decide +kernel)
set_option maxRecDepth 20000 in
theorem gh_X7_lineLength_wsX7_lineLength_r6 : GoodIn wsL_law wsX7_lineLength_r6 := goodIn_r _ [821, 822, 823, 824, 825, 826, 827, 828, 829, 830, 831, 832, 833, 834, 835, 836, 837, 838, 839, 840, 841, 842, 843, 844] (by decide +kernel) (by decide +kernel)
set_option maxRecDepth 20000 in
theorem gh_X7_lineLength_wsX7_lineLength_r7 : GoodIn wsL_law wsX7_lineLength_r7 := goodIn_r _ [845, 846, 847, 848, 849, 850, 851, 852, 853, 854, 855, 856, 857, 858, 859, 860, 861, 862, 863, 864, 865, 866, 867, 868] (by decide +kernel) (by decide +kernel)
set_option maxRecDepth 20000 in
theorem gh_X7_lineLength_wsX7_lineLength_r8 : GoodIn wsL_law wsX7_lineLength_r8 := goodIn_r _ [869, 870, 871, 872, 873, 874, 875, 876, 877, 878, 879, 880, 881, 882, 883, 884, 885, 886, 887, 888, 889, 890, 891, 892] (by decide +kernel) (by decide +kernel)
set_option maxRecDepth 20000 in
theorem gh_X7_lineLength_wsX7_lineLength_r9 : GoodIn wsL_law wsX7_lineLength_r9 := goodIn_r _ [165, 893, 894, 895, 896, 897, 898, 899, 900, 901, 902, 903, 904, 905, 906, 907, 908, 909, 910, 911, 912, 913, 914, 915] (by decide +kernel) (by decide +kernel)
set_option maxRecDepth 20000 in
theorem gh_X7_lineLength_wsX7_lineLength_r10 : GoodIn wsL_law wsX7_lineLength_r10 := goodIn_r _ [916, 917, 918, 919, 920, 921, 922, 923, 924, 925, 926, 927, 928, 929, 930, 931, 932, 933, 934, 935, 936, 937, 938, 939] (by decide +kernel) (by decide +kernel)
set_option maxRecDepth 20000 in
theorem gh_X7_lineLength_wsX7_lineLength_r11 : GoodIn wsL_law wsX7_lineLength_r11 := goodIn_r _ [940, 941, 942, 943, 944, 945, 946, 947, 948, 949, 950, 951, 952, 953, 954, 955, 956, 957, 958, 959, 960, 961, 962, 963] (by decide +kernel) (by decide +kernel)
set_option maxRecDepth 20000 in
theorem gh_X7_lineLength_wsX7_lineLength_r12 : GoodIn wsL_law wsX7_lineLength_r12 := goodIn_r _ [964, 965, 966, 967, 968, 969, 970, 971, 972, 973, 974, 975, 976, 977, 978] (by decide +kernel) (by decide +kernel)
set_option maxRecDepth 20000 in
theorem gh_X7_lineLength_wsX70 : GoodIn wsL_law wsX70 := goodIn_r _ [1048, 1049, 1050, 1051, 1052, 1053, 1054, 1055, 1056, 1057, 1058, 1059, 1060, 1061, 1062, 1063, 1064, 1065, 1066, 1067, 1068, 1069, 1070, 1071] (by decide +kernel) (by decide +kernel)
set_option maxRecDepth 20000 in
theorem gh_X7_lineLength_wsJ40 : GoodIn wsL_law wsJ40 := goodIn_r _ [1094, 1095, 1096, 1097] (by decide +kernel) (by decide +kernel)
set_option maxRecDepth 20000 in
theorem gh_X7_lineLength_wsJ00 : GoodIn wsL_law wsJ00 := goodIn_r _ [1098, 1099, 1100, 1101] (by decide +kernel) (by decide +kernel)
set_option maxRecDepth 20000 in
theorem gh_X7_lineLength_0 : GoodIn wsL_law [.code yX7_lineLength cX7_lineLength 1 (some .int)] := goodIn_r _ [755] (by decide +kernel) (by decide +kernel)
theorem ggL_law_X7_lineLength : GoodIn wsL_law wsX7_lineLength := goodIn_app gh_X7_lineLength_0 (goodIn_app (goodIn_app (goodIn_app (goodIn_app gh_X7_lineLength_wsX7_lineLength_r1 (goodIn_app gh_X7_lineLength_wsX7_lineLength_r2 (goodIn_app gh_X7_lineLength_wsX7_lineLength_r3 (goodIn_app gh_X7_lineLength_wsX7_lineLength_r4 (goodIn_app gh_X7_lineLength_wsX7_lineLength_r5 (goodIn_app gh_X7_lineLength_wsX7_lineLength_r6 (goodIn_app gh_X7_lineLength_wsX7_lineLength_r7 (goodIn_app gh_X7_lineLength_wsX7_lineLength_r8 (goodIn_app gh_X7_lineLength_wsX7_lineLength_r9 (goodIn_app gh_X7_lineLength_wsX7_lineLength_r10 (goodIn_app gh_X7_lineLength_wsX7_lineLength_r11 gh_X7_lineLength_wsX7_lineLength_r12))))))))))) gh_X7_lineLength_wsX70) gh_X7_lineLength_wsJ40) gh_X7_lineLength_wsJ00)
set_option maxRecDepth 20000 in
theorem gL_law_X7_lineLength : GoodIn wsL_law (wsV RL 220 RX7 yX7_lineLength wsX7_lineLength) := goodIn_app (goodIn_of _ (by decide +kernel)) ggL_law_X7_lineLength
set_option maxRecDepth 20000 in
theorem ggL_law_L_lineAt : GoodIn wsL_law wsL_lineAt := goodIn_ca (goodIn_r _ [981, 91, 982, 983, 984, 2, 985, 104, 105, 32, 740, 741, 742, 743, 16, 28, 306, 307, 308, 309, 20, 149, 150, 310, 27, 311, 312, 313, 314, 59, 157, 158, 315, 316, 317, 318, 319, 320, 321, 322, 323, 324, 325, 326, 327, 328, 329, 330, 331, 332, 333, 334, 335, 164, 165, 166, 167, 168, 169, 336, 337, 338, 339, 340, 341, 342, 343, 60, 344, 19, 345, 346, 173, 45, 46, 174, 744, 31, 745, 746, 747, 748, 749, 750, 751, 64, 1041, 1042, 1043, 1044, 1045, 1046, 1047, 1092, 1093, 1072, 1073, 1074, 1075, 1076, 1077, 1088, 1089, 1090, 1091, 1078, 1079, 1080, 1081, 1082] (by decide +kernel) (by decide +kernel)) (goodIn_sub (fun _ h => List.mem_append_left _ (List.mem_append_left _ (List.mem_append_right _ h))) (by decide +kernel))
set_option maxRecDepth 20000 in
theorem gL_law_L_lineAt : GoodIn wsL_law (va_wsS RL 221 yL_lineAt wsL_lineAt) := goodIn_app (goodIn_of _ (by decide +kernel)) ggL_law_L_lineAt
set_option maxRecDepth 20000 in
theorem gh_X7_lineAt_wsX7_lineAt_r1 : GoodIn wsL_law wsX7_lineAt_r1 := goodIn_r _ [756, 757, 758, 5, 759, 760, 761, 762, 86, 78, 363, 364, 365, 366, 367, 368, 199, 200, 355, 356, 357, 358, 206, 207] (by decide +kernel) (by decide +kernel)
set_option maxRecDepth 20000 in
theorem gh_X7_lineAt_wsX7_lineAt_r2 : GoodIn wsL_law wsX7_lineAt_r2 := goodIn_r _ [208, 369, 370, 371, 372, 69, 74, 72, 71, 205, 75, 85, 373, 374, 375, 376, 377, 378, 379, 380, 381, 382, 383, 384] (by decide +kernel) (by decide +kernel)
set_option maxRecDepth 20000 in
theorem gh_X7_lineAt_wsX7_lineAt_r3 : GoodIn wsL_law wsX7_lineAt_r3 := goodIn_r _ [385, 386, 387, 388, 76, 80, 79, 81, 763, 764, 765, 766, 767, 768, 769, 770, 11, 12, 771, 772, 773, 774, 775, 776] (by decide +kernel) (by decide +kernel)
set_option maxRecDepth 20000 in
theorem gh_X7_lineAt_wsX7_lineAt_r4 : GoodIn wsL_law wsX7_lineAt_r4 := goodIn_r _ [777, 778, 779, 780, 781, 782, 783, 784, 785, 786, 787, 788, 789, 790, 791, 792, 793, 794, 795, 796, 797, 798, 799, 800] (by decide +kernel) (by decide +kernel)
set_option maxRecDepth 20000 in
theorem gh_X7_lineAt_wsX7_lineAt_r5 : GoodIn wsL_law wsX7_lineAt_r5 := goodIn_r _ [801, 802, 803, 804, 805, 806, 807, 808, 233, 234, 235, 809, 810, 811, 812, 813, 814, 815, 816, 817, 818, 819, 820, 821] (by decide +kernel) (by decide +kernel)
set_option maxRecDepth 20000 in
theorem gh_X7_lineAt_wsX7_lineAt_r6 : GoodIn wsL_law wsX7_lineAt_r6 := goodIn_r _ [822, 823, 824, 825, 826, 827, 828, 829, 830, 831, 832, 833, 834, 835, 836, 837, 838, 839, 840, 841, 842, 843, 844, 845] (by decide +kernel) (by decide +kernel)
set_option maxRecDepth 20000 in
theorem gh_X7_lineAt_wsX7_lineAt_r7 : GoodIn wsL_law wsX7_lineAt_r7 := goodIn_r _ [846, 847, 848, 849, 850, 851, 852, 853, 854, 855, 856, 857, 858, 859, 860, 861, 862, 863, 864, 865, 866, 867, 868, 869] (by decide +kernel) (by decide +kernel)
set_option maxRecDepth 20000 in
theorem gh_X7_lineAt_wsX7_lineAt_r8 : GoodIn wsL_law wsX7_lineAt_r8 := goodIn_r _ [870, 871, 872, 873, 874, 875, 876, 877, 878, 879, 880, 881, 882, 883, 884, 885, 886, 887, 888, 889, 890, 891, 892, 165] (by decide +kernel) (by decide +kernel)
set_option maxRecDepth 20000 in
theorem gh_X7_lineAt_wsX7_lineAt_r9 : GoodIn wsL_law wsX7_lineAt_r9 := goodIn_r _ [893, 894, 895, 896, 897, 898, 899, 900, 901, 902, 903, 904, 905, 906, 907, 908, 909, 910, 911, 912, 913, 914, 915, 916] (by decide +kernel) (by decide +kernel)
set_option maxRecDepth 20000 in
theorem gh_X7_lineAt_wsX7_lineAt_r10 : GoodIn wsL_law wsX7_lineAt_r10 := goodIn_r _ [917, 918, 919, 920, 921, 922, 923, 924, 925, 926, 927, 928, 929, 930, 931, 932, 933, 934, 935, 936, 937, 938, 939, 940] (by decide +kernel) (by decide +kernel)
set_option maxRecDepth 20000 in
theorem gh_X7_lineAt_wsX7_lineAt_r11 : GoodIn wsL_law wsX7_lineAt_r11 := goodIn_r _ [941, 942, 943, 944, 945, 946, 947, 948, 949, 950, 951, 952, 953, 954, 955, 956, 957, 958, 959, 960, 961, 962, 963, 964] (by decide +kernel) (by decide +kernel)
set_option maxRecDepth 20000 in
theorem gh_X7_lineAt_wsX7_lineAt_r12 : GoodIn wsL_law wsX7_lineAt_r12 := goodIn_r _ [965, 966, 967, 968, 969, 970, 971, 972, 973, 974, 975, 976, 977, 978, 120, 121, 122, 123, 124, 125, 126, 127, 990, 991] (by decide +kernel) (by decide +kernel)
set_option maxRecDepth 20000 in
theorem gh_X7_lineAt_wsX7_lineAt_r13 : GoodIn wsL_law wsX7_lineAt_r13 := goodIn_r _ [992, 993, 994, 995, 996, 997, 998, 999, 1000, 1001, 1002, 1003, 1004] (by decide +kernel) (by decide +kernel)
set_option maxRecDepth 20000 in
theorem gh_X7_lineAt_wsJ40 : GoodIn wsL_law wsJ40 := goodIn_r _ [1094, 1095, 1096, 1097] (by decide +kernel) (by decide +kernel)
set_option maxRecDepth 20000 in
theorem gh_X7_lineAt_wsX70 : GoodIn wsL_law wsX70 := goodIn_r _ [1048, 1049, 1050, 1051, 1052, 1053, 1054, 1055, 1056, 1057, 1058, 1059, 1060, 1061, 1062, 1063, 1064, 1065, 1066, 1067, 1068, 1069, 1070, 1071] (by decide +kernel) (by decide +kernel)
set_option maxRecDepth 20000 in
theorem gh_X7_lineAt_wsJ00 : GoodIn wsL_law wsJ00 := goodIn_r _ [1098, 1099, 1100, 1101] (by decide +kernel) (by decide +kernel)
set_option maxRecDepth 20000 in
theorem gh_X7_lineAt_0 : GoodIn wsL_law [.code yX7_lineAt cX7_lineAt 3 (some .char)] := goodIn_r _ [989] (by decide +kernel) (by decide +kernel)
theorem ggL_law_X7_lineAt : GoodIn wsL_law wsX7_lineAt := goodIn_app gh_X7_lineAt_0 (goodIn_app (goodIn_app (goodIn_app (goodIn_app gh_X7_lineAt_wsX7_lineAt_r1 (goodIn_app gh_X7_lineAt_wsX7_lineAt_r2 (goodIn_app gh_X7_lineAt_wsX7_lineAt_r3 (goodIn_app gh_X7_lineAt_wsX7_lineAt_r4 (goodIn_app gh_X7_lineAt_wsX7_lineAt_r5 (goodIn_app gh_X7_lineAt_wsX7_lineAt_r6 (goodIn_app gh_X7_lineAt_wsX7_lineAt_r7 (goodIn_app gh_X7_lineAt_wsX7_lineAt_r8 (goodIn_app gh_X7_lineAt_wsX7_lineAt_r9 (goodIn_app gh_X7_lineAt_wsX7_lineAt_r10 (goodIn_app gh_X7_lineAt_wsX7_lineAt_r11 (goodIn_app gh_X7_lineAt_wsX7_lineAt_r12 gh_X7_lineAt_wsX7_lineAt_r13)))))))))))) gh_X7_lineAt_wsJ40) gh_X7_lineAt_wsX70) gh_X7_lineAt_wsJ00)
set_option maxRecDepth 20000 in
theorem gL_law_X7_lineAt : GoodIn wsL_law (wsV RL 223 RX7 yX7_lineAt wsX7_lineAt) := goodIn_app (goodIn_of _ (by decide +kernel)) ggL_law_X7_lineAt
set_option maxRecDepth 20000 in
theorem ggL_law_X6_knownShare : GoodIn wsL_law wsX6_knownShare := goodIn_r _ [1008, 16, 302, 303, 304, 2, 305, 28, 306, 307, 308, 309, 20, 149, 150, 310, 27, 311, 312, 313, 314, 59, 157, 158, 315, 316, 317, 318, 319, 320, 321, 322, 323, 324, 325, 326, 327, 328, 329, 330, 331, 332, 333, 334, 335, 164, 165, 166, 167, 168, 169, 336, 337, 338, 339, 340, 341, 342, 343, 60, 344, 19, 345, 346, 173, 45, 46, 174, 220, 1041, 1042, 1043, 1044, 1045, 1046, 1047, 1072, 1073, 1074, 1075, 1076, 1077, 1088, 1089, 1090, 1091, 1078, 1079, 1080, 1081, 1082] (by decide +kernel) (by decide +kernel)
set_option maxRecDepth 20000 in
theorem gL_law_X6_knownShare : GoodIn wsL_law (wsV RL 224 RX6 yX6_knownShare wsX6_knownShare) := goodIn_app (goodIn_of _ (by decide +kernel)) ggL_law_X6_knownShare
set_option maxRecDepth 20000 in
theorem ggL_law_X7_knownShare : GoodIn wsL_law wsX7_knownShare := goodIn_r _ [1012, 127, 86, 359, 360, 361, 5, 362, 363, 364, 365, 366, 367, 368, 199, 200, 78, 355, 356, 357, 358, 206, 207, 208, 369, 370, 371, 372, 69, 74, 72, 71, 205, 75, 85, 373, 374, 375, 376, 377, 378, 379, 380, 381, 382, 383, 384, 385, 386, 387, 388, 76, 80, 79, 81, 389, 164, 165, 166, 167, 168, 169, 1048, 1049, 1050, 1051, 1052, 1053, 1054, 1055, 1056, 1057, 1058, 1059, 1060, 1061, 1062, 1063, 1064, 1065, 1066, 1067, 1068, 1069, 1070, 1071] (by decide +kernel) (by decide +kernel)
set_option maxRecDepth 20000 in
theorem gL_law_X7_knownShare : GoodIn wsL_law (wsV RL 228 RX7 yX7_knownShare wsX7_knownShare) := goodIn_app (goodIn_of _ (by decide +kernel)) ggL_law_X7_knownShare
set_option maxRecDepth 20000 in
theorem ggL_law_X6_meanPrice : GoodIn wsL_law wsX6_meanPrice := goodIn_r _ [1016, 16, 24, 450, 15, 451, 452, 41, 453, 454, 455, 2, 456, 149, 150, 457, 458, 459, 460, 20, 461, 462, 463, 157, 158, 464, 465, 466, 467, 37, 38, 162, 39, 40, 163, 164, 165, 166, 167, 168, 169, 468, 19, 469, 470, 173, 174, 175, 176, 177, 178, 45, 46, 626, 23, 627, 628, 575, 629, 630, 631, 632, 51, 633, 634, 635, 636, 53, 54, 52, 637, 233, 234, 235, 638, 1041, 1042, 1043, 1044, 1045, 1046, 1047, 1072, 1073, 1074, 1075, 1076, 1077, 1078, 1079, 1080, 1081, 1082, 1083, 1084, 1085, 1086, 1087] (by decide +kernel) (by decide +kernel)
set_option maxRecDepth 20000 in
theorem gL_law_X6_meanPrice : GoodIn wsL_law (wsV RL 229 RX6 yX6_meanPrice wsX6_meanPrice) := goodIn_app (goodIn_of _ (by decide +kernel)) ggL_law_X6_meanPrice
set_option maxRecDepth 20000 in
theorem ggL_law_X7_meanPrice : GoodIn wsL_law wsX7_meanPrice := goodIn_r _ [1020, 127, 86, 195, 196, 197, 5, 198, 199, 200, 201, 202, 203, 204, 69, 74, 71, 72, 205, 75, 206, 207, 208, 120, 121, 122, 209, 210, 211, 212, 76, 79, 80, 81, 643, 644, 645, 646, 70, 580, 77, 82, 83, 84, 647, 233, 234, 235, 389, 164, 165, 166, 167, 168, 169, 1048, 1049, 1050, 1051, 1052, 1053, 1054, 1055, 1056, 1057, 1058, 1059, 1060, 1061, 1062, 1063, 1064, 1065, 1066, 1067, 1068, 1069, 1070, 1071] (by decide +kernel) (by decide +kernel)
set_option maxRecDepth 20000 in
theorem gL_law_X7_meanPrice : GoodIn wsL_law (wsV RL 233 RX7 yX7_meanPrice wsX7_meanPrice) := goodIn_app (goodIn_of _ (by decide +kernel)) ggL_law_X7_meanPrice
set_option maxRecDepth 20000 in
theorem ggL_law_X6_isSound : GoodIn wsL_law wsX6_isSound := goodIn_ca (goodIn_r _ [1024, 1025, 542, 543, 2, 544, 16, 20, 149, 150, 545, 152, 546, 154, 155, 156, 157, 158, 159, 15, 160, 161, 37, 38, 162, 39, 163, 164, 165, 166, 167, 168, 169, 170, 19, 171, 172, 173, 47, 174, 175, 176, 177, 178, 45, 46, 547, 180, 181, 182, 183, 184, 185, 40, 471, 472, 473, 474, 450, 451, 452, 41, 453, 454, 455, 456, 457, 458, 459, 460, 461, 462, 463, 464, 465, 466, 467, 468, 469, 470, 446, 447, 448, 449, 1026, 553, 554, 555, 683, 649, 650, 651, 24, 652, 653, 654, 655, 23, 656, 657, 637, 233, 234, 235, 658, 626, 627, 628, 575, 629, 630, 631, 632, 51, 633, 634, 635, 636, 53, 54, 52, 638, 659, 660, 661, 1027, 671, 672, 673, 1028, 1029, 1030, 1031, 186, 1032, 428, 429, 430, 100, 101, 102, 103, 104, 105, 151, 153, 179, 431, 432, 433, 434, 1033, 1034, 1035, 1036, 28, 306, 307, 308, 309, 310, 27, 311, 312, 313, 314, 59, 315, 316, 317, 318, 319, 320, 321, 322, 323, 324, 325, 326, 327, 328, 329, 330, 331, 332, 333, 334, 335, 336, 337, 338, 339, 340, 341, 342, 343, 60, 344, 345, 346, 1041, 1042, 1043, 1044, 1045, 1046, 1047, 1072, 1073, 1074, 1075, 1076, 1077, 1078, 1079, 1080, 1081, 1082, 1083, 1084, 1085, 1086, 1087, 1088, 1089, 1090, 1091] (by decide +kernel) (by decide +kernel)) (goodIn_sub (fun _ h => List.mem_append_left _ (List.mem_append_left _ (List.mem_append_right _ h))) (by decide +kernel))
set_option maxRecDepth 20000 in
theorem gL_law_X6_isSound : GoodIn wsL_law (wsV RL 234 RX6 yX6_isSound wsX6_isSound) := goodIn_app (goodIn_of _ (by decide +kernel)) ggL_law_X6_isSound
set_option maxRecDepth 20000 in
theorem ggL_law_X7_isSound : GoodIn wsL_law wsX7_isSound := goodIn_r _ [1040, 127, 1048, 1049, 1050, 1051, 1052, 1053, 1054, 1055, 1056, 1057, 1058, 1059, 1060, 1061, 1062, 1063, 1064, 1065, 1066, 1067, 1068, 1069, 1070, 1071] (by decide +kernel) (by decide +kernel)
set_option maxRecDepth 20000 in
theorem gL_law_X7_isSound : GoodIn wsL_law (wsV RL 238 RX7 yX7_isSound wsX7_isSound) := goodIn_app (goodIn_of _ (by decide +kernel)) ggL_law_X7_isSound

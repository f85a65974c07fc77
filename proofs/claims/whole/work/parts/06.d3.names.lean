set_option maxRecDepth 20000 in
theorem ggL_law_X7_known : GoodIn wsL_law wsX7_known := goodIn_r _ [490, 363, 364, 365, 366, 367, 5, 368, 199, 200, 86, 78, 355, 356, 357, 358, 206, 207, 208, 369, 370, 371, 372, 69, 74, 72, 71, 205, 75, 85, 373, 374, 375, 376, 377, 378, 379, 380, 381, 382, 383, 384, 385, 386, 387, 388, 76, 80, 79, 81, 116, 117, 118, 119, 120, 121, 122, 123, 124, 125, 126, 127, 1048, 1049, 1050, 1051, 1052, 1053, 1054, 1055, 1056, 1057, 1058, 1059, 1060, 1061, 1062, 1063, 1064, 1065, 1066, 1067, 1068, 1069, 1070, 1071] (by decide +kernel) (by decide +kernel)
set_option maxRecDepth 20000 in
theorem gL_law_X7_known : GoodIn wsL_law (wsV RL 157 RX7 yX7_known wsX7_known) := goodIn_app (goodIn_of _ (by decide +kernel)) ggL_law_X7_known
set_option maxRecDepth 20000 in
theorem ggL_law_L_reasonOf : GoodIn wsL_law wsL_reasonOf := goodIn_ca (goodIn_ca (goodIn_r _ [493, 91, 494, 495, 496, 2, 497, 285, 286, 28, 100, 101, 102, 103, 104, 105, 16, 306, 307, 308, 309, 20, 149, 150, 310, 27, 311, 312, 313, 314, 59, 157, 158, 315, 316, 317, 318, 319, 320, 321, 322, 323, 324, 325, 326, 327, 328, 329, 330, 331, 332, 333, 334, 335, 164, 165, 166, 167, 168, 169, 336, 337, 338, 339, 340, 341, 342, 343, 60, 344, 19, 345, 346, 173, 45, 46, 174, 1041, 1042, 1043, 1044, 1045, 1046, 1047, 1088, 1089, 1090, 1091, 1072, 1073, 1074, 1075, 1076, 1077, 1078, 1079, 1080, 1081, 1082] (by decide +kernel) (by decide +kernel)) (goodIn_sub (fun _ h => List.mem_append_right _ h) (by decide +kernel))) (goodIn_sub (fun _ h => List.mem_append_left _ (List.mem_append_left _ (List.mem_append_right _ h))) (by decide +kernel))
set_option maxRecDepth 20000 in
theorem gL_law_L_reasonOf : GoodIn wsL_law (va_wsS RL 158 yL_reasonOf wsL_reasonOf) := goodIn_app (goodIn_of _ (by decide +kernel)) ggL_law_L_reasonOf
set_option maxRecDepth 20000 in
theorem ggL_law_X7_reasonOf : GoodIn wsL_law wsX7_reasonOf := goodIn_r _ [501, 78, 365, 366, 367, 5, 368, 199, 363, 200, 364, 86, 355, 356, 357, 358, 206, 207, 208, 369, 370, 371, 372, 69, 74, 72, 71, 205, 75, 85, 373, 374, 375, 376, 377, 378, 379, 380, 381, 382, 383, 384, 385, 386, 387, 388, 76, 80, 79, 81, 116, 117, 118, 119, 120, 121, 122, 123, 124, 125, 126, 127, 1048, 1049, 1050, 1051, 1052, 1053, 1054, 1055, 1056, 1057, 1058, 1059, 1060, 1061, 1062, 1063, 1064, 1065, 1066, 1067, 1068, 1069, 1070, 1071] (by decide +kernel) (by decide +kernel)
set_option maxRecDepth 20000 in
theorem gL_law_X7_reasonOf : GoodIn wsL_law (wsV RL 160 RX7 yX7_reasonOf wsX7_reasonOf) := goodIn_app (goodIn_of _ (by decide +kernel)) ggL_law_X7_reasonOf
set_option maxRecDepth 20000 in
theorem ggL_law_L_reasonRule : GoodIn wsL_law wsL_reasonRule := goodIn_ca (goodIn_ca (goodIn_r _ [504, 91, 505, 506, 507, 2, 508, 285, 286, 28, 100, 101, 102, 103, 104, 105, 16, 306, 307, 308, 309, 20, 149, 150, 310, 27, 311, 312, 313, 314, 59, 157, 158, 315, 316, 317, 318, 319, 320, 321, 322, 323, 324, 325, 326, 327, 328, 329, 330, 331, 332, 333, 334, 335, 164, 165, 166, 167, 168, 169, 336, 337, 338, 339, 340, 341, 342, 343, 60, 344, 19, 345, 346, 173, 45, 46, 174, 1041, 1042, 1043, 1044, 1045, 1046, 1047, 1088, 1089, 1090, 1091, 1072, 1073, 1074, 1075, 1076, 1077, 1078, 1079, 1080, 1081, 1082] (by decide +kernel) (by decide +kernel)) (goodIn_sub (fun _ h => List.mem_append_right _ h) (by decide +kernel))) (goodIn_sub (fun _ h => List.mem_append_left _ (List.mem_append_left _ (List.mem_append_right _ h))) (by decide +kernel))
set_option maxRecDepth 20000 in
theorem gL_law_L_reasonRule : GoodIn wsL_law (va_wsS RL 161 yL_reasonRule wsL_reasonRule) := goodIn_app (goodIn_of _ (by decide +kernel)) ggL_law_L_reasonRule
set_option maxRecDepth 20000 in
theorem ggL_law_X7_reasonRule : GoodIn wsL_law wsX7_reasonRule := goodIn_r _ [512, 78, 85, 365, 366, 367, 5, 368, 199, 363, 200, 364, 86, 355, 356, 357, 358, 206, 207, 208, 369, 370, 371, 372, 69, 74, 72, 71, 205, 75, 373, 374, 375, 376, 377, 378, 379, 380, 381, 382, 383, 384, 385, 386, 387, 388, 76, 80, 79, 81, 116, 117, 118, 119, 120, 121, 122, 123, 124, 125, 126, 127, 1048, 1049, 1050, 1051, 1052, 1053, 1054, 1055, 1056, 1057, 1058, 1059, 1060, 1061, 1062, 1063, 1064, 1065, 1066, 1067, 1068, 1069, 1070, 1071] (by decide +kernel) (by decide +kernel)
set_option maxRecDepth 20000 in
theorem gL_law_X7_reasonRule : GoodIn wsL_law (wsV RL 163 RX7 yX7_reasonRule wsX7_reasonRule) := goodIn_app (goodIn_of _ (by decide +kernel)) ggL_law_X7_reasonRule
set_option maxRecDepth 20000 in
theorem ggL_law_X6_unknown : GoodIn wsL_law wsX6_unknown := goodIn_r _ [516, 302, 303, 304, 2, 305, 16, 28, 306, 307, 308, 309, 20, 149, 150, 310, 27, 311, 312, 313, 314, 59, 157, 158, 315, 316, 317, 318, 319, 320, 321, 322, 323, 324, 325, 326, 327, 328, 329, 330, 331, 332, 333, 334, 335, 164, 165, 166, 167, 168, 169, 336, 337, 338, 339, 340, 341, 342, 343, 60, 344, 19, 345, 346, 173, 45, 46, 174, 220, 1041, 1042, 1043, 1044, 1045, 1046, 1047, 1072, 1073, 1074, 1075, 1076, 1077, 1088, 1089, 1090, 1091, 1078, 1079, 1080, 1081, 1082] (by decide +kernel) (by decide +kernel)
set_option maxRecDepth 20000 in
theorem gL_law_X6_unknown : GoodIn wsL_law (wsV RL 164 RX6 yX6_unknown wsX6_unknown) := goodIn_app (goodIn_of _ (by decide +kernel)) ggL_law_X6_unknown
set_option maxRecDepth 20000 in
theorem ggL_law_X7_unknown : GoodIn wsL_law wsX7_unknown := goodIn_r _ [520, 127, 359, 360, 361, 5, 362, 86, 363, 364, 365, 366, 367, 368, 199, 200, 78, 355, 356, 357, 358, 206, 207, 208, 369, 370, 371, 372, 69, 74, 72, 71, 205, 75, 85, 373, 374, 375, 376, 377, 378, 379, 380, 381, 382, 383, 384, 385, 386, 387, 388, 76, 80, 79, 81, 389, 164, 165, 166, 167, 168, 169, 1048, 1049, 1050, 1051, 1052, 1053, 1054, 1055, 1056, 1057, 1058, 1059, 1060, 1061, 1062, 1063, 1064, 1065, 1066, 1067, 1068, 1069, 1070, 1071] (by decide +kernel) (by decide +kernel)
set_option maxRecDepth 20000 in
theorem gL_law_X7_unknown : GoodIn wsL_law (wsV RL 167 RX7 yX7_unknown wsX7_unknown) := goodIn_app (goodIn_of _ (by decide +kernel)) ggL_law_X7_unknown
set_option maxRecDepth 20000 in
theorem ggL_law_L_isConfiguration : GoodIn wsL_law wsL_isConfiguration := goodIn_ca (goodIn_r _ [523, 524, 525, 526, 527, 2, 528, 529, 530, 531, 532, 96, 97, 16, 450, 15, 451, 452, 41, 457, 458, 459, 460, 20, 461, 462, 463, 157, 158, 464, 465, 466, 467, 37, 38, 162, 39, 40, 163, 164, 165, 166, 167, 168, 169, 468, 19, 469, 470, 173, 174, 175, 176, 177, 178, 45, 46, 1041, 1042, 1043, 1044, 1045, 1046, 1047, 1072, 1073, 1074, 1075, 1076, 1077, 1078, 1079, 1080, 1081, 1082] (by decide +kernel) (by decide +kernel)) (goodIn_sub (fun _ h => List.mem_append_left _ (List.mem_append_left _ (List.mem_append_left _ (List.mem_append_left _ (List.mem_append_right _ h))))) (by decide +kernel))
set_option maxRecDepth 20000 in
theorem gL_law_L_isConfiguration : GoodIn wsL_law (va_wsS RL 168 yL_isConfiguration wsL_isConfiguration) := goodIn_app (goodIn_of _ (by decide +kernel)) ggL_law_L_isConfiguration
set_option maxRecDepth 20000 in
theorem ggL_law_X7_isConfiguration : GoodIn wsL_law wsX7_isConfiguration := goodIn_r _ [536, 537, 538, 539, 5, 540, 86, 123, 124, 125, 126, 127, 201, 202, 203, 204, 69, 74, 71, 72, 205, 75, 206, 207, 208, 120, 121, 122, 209, 210, 211, 212, 76, 79, 80, 81, 1048, 1049, 1050, 1051, 1052, 1053, 1054, 1055, 1056, 1057, 1058, 1059, 1060, 1061, 1062, 1063, 1064, 1065, 1066, 1067, 1068, 1069, 1070, 1071] (by decide +kernel) (by decide +kernel)
set_option maxRecDepth 20000 in
theorem gL_law_X7_isConfiguration : GoodIn wsL_law (wsV RL 170 RX7 yX7_isConfiguration wsX7_isConfiguration) := goodIn_app (goodIn_of _ (by decide +kernel)) ggL_law_X7_isConfiguration
set_option maxRecDepth 20000 in
theorem ggL_law_X6_completions : GoodIn wsL_law wsX6_completions := goodIn_r _ [544, 16, 20, 149, 150, 545, 152, 546, 154, 155, 156, 157, 2, 158, 159, 15, 160, 161, 37, 38, 162, 39, 163, 164, 165, 166, 167, 168, 169, 170, 19, 171, 172, 173, 47, 174, 175, 176, 177, 178, 45, 46, 547, 180, 181, 182, 183, 184, 185, 40, 1041, 1042, 1043, 1044, 1045, 1046, 1047, 1072, 1073, 1074, 1075, 1076, 1077, 1078, 1079, 1080, 1081, 1082] (by decide +kernel) (by decide +kernel)
set_option maxRecDepth 20000 in
theorem gL_law_X6_completions : GoodIn wsL_law (wsV RL 171 RX6 yX6_completions wsX6_completions) := goodIn_app (goodIn_of _ (by decide +kernel)) ggL_law_X6_completions
set_option maxRecDepth 20000 in
theorem ggL_law_X7_completions : GoodIn wsL_law wsX7_completions := goodIn_r _ [551, 127, 86, 195, 196, 197, 5, 198, 199, 200, 201, 202, 203, 204, 69, 74, 71, 72, 205, 75, 206, 207, 208, 120, 121, 122, 209, 210, 211, 212, 76, 79, 80, 81, 1048, 1049, 1050, 1051, 1052, 1053, 1054, 1055, 1056, 1057, 1058, 1059, 1060, 1061, 1062, 1063, 1064, 1065, 1066, 1067, 1068, 1069, 1070, 1071] (by decide +kernel) (by decide +kernel)
set_option maxRecDepth 20000 in
theorem gL_law_X7_completions : GoodIn wsL_law (wsV RL 175 RX7 yX7_completions wsX7_completions) := goodIn_app (goodIn_of _ (by decide +kernel)) ggL_law_X7_completions
set_option maxRecDepth 20000 in
theorem ggL_law_X6_completionsByAll : GoodIn wsL_law wsX6_completionsByAll := goodIn_r _ [555, 16, 450, 15, 451, 452, 41, 453, 454, 455, 2, 456, 149, 150, 457, 458, 459, 460, 20, 461, 462, 463, 157, 158, 464, 465, 466, 467, 37, 38, 162, 39, 40, 163, 164, 165, 166, 167, 168, 169, 468, 19, 469, 470, 173, 174, 175, 176, 177, 178, 45, 46, 1041, 1042, 1043, 1044, 1045, 1046, 1047, 1072, 1073, 1074, 1075, 1076, 1077, 1078, 1079, 1080, 1081, 1082] (by decide +kernel) (by decide +kernel)
set_option maxRecDepth 20000 in
theorem gL_law_X6_completionsByAll : GoodIn wsL_law (wsV RL 176 RX6 yX6_completionsByAll wsX6_completionsByAll) := goodIn_app (goodIn_of _ (by decide +kernel)) ggL_law_X6_completionsByAll
set_option maxRecDepth 20000 in
theorem ggL_law_X7_completionsByAll : GoodIn wsL_law wsX7_completionsByAll := goodIn_r _ [559, 560, 549, 550, 5, 551, 127, 86, 195, 196, 197, 198, 199, 200, 201, 202, 203, 204, 69, 74, 71, 72, 205, 75, 206, 207, 208, 120, 121, 122, 209, 210, 211, 212, 76, 79, 80, 81, 1048, 1049, 1050, 1051, 1052, 1053, 1054, 1055, 1056, 1057, 1058, 1059, 1060, 1061, 1062, 1063, 1064, 1065, 1066, 1067, 1068, 1069, 1070, 1071] (by decide +kernel) (by decide +kernel)
set_option maxRecDepth 20000 in
theorem gL_law_X7_completionsByAll : GoodIn wsL_law (wsV RL 179 RX7 yX7_completionsByAll wsX7_completionsByAll) := goodIn_app (goodIn_of _ (by decide +kernel)) ggL_law_X7_completionsByAll
set_option maxRecDepth 20000 in
theorem ggL_law_L_addBundle : GoodIn wsL_law wsL_addBundle := goodIn_ca (goodIn_ca (goodIn_ca (goodIn_r _ [563, 91, 564, 565, 566, 2, 567, 96, 97, 100, 101, 102, 103, 104, 105, 16, 568, 569, 570, 571, 98, 99, 24, 572, 23, 573, 574, 52, 575, 53, 54, 1041, 1042, 1043, 1044, 1045, 1046, 1047, 1072, 1073, 1074, 1075, 1076, 1077, 1083, 1084, 1085, 1086, 1087] (by decide +kernel) (by decide +kernel)) (goodIn_sub (fun _ h => List.mem_append_left _ (List.mem_append_left _ (List.mem_append_left _ (List.mem_append_left _ (List.mem_append_right _ h))))) (by decide +kernel))) (goodIn_sub (fun _ h => List.mem_append_left _ (List.mem_append_left _ (List.mem_append_right _ h))) (by decide +kernel))) (goodIn_sub (fun _ h => List.mem_append_left _ (List.mem_append_left _ (List.mem_append_left _ (List.mem_append_right _ h)))) (by decide +kernel))
set_option maxRecDepth 20000 in
theorem gL_law_L_addBundle : GoodIn wsL_law (va_wsS RL 180 yL_addBundle wsL_addBundle) := goodIn_app (goodIn_of _ (by decide +kernel)) ggL_law_L_addBundle
set_option maxRecDepth 20000 in
theorem ggL_law_X7_addBundle : GoodIn wsL_law wsX7_addBundle := goodIn_r _ [579, 580, 116, 117, 118, 5, 119, 86, 120, 121, 122, 123, 124, 125, 126, 127, 581, 582, 583, 584, 77, 82, 83, 84, 1048, 1049, 1050, 1051, 1052, 1053, 1054, 1055, 1056, 1057, 1058, 1059, 1060, 1061, 1062, 1063, 1064, 1065, 1066, 1067, 1068, 1069, 1070, 1071] (by decide +kernel) (by decide +kernel)
set_option maxRecDepth 20000 in
theorem gL_law_X7_addBundle : GoodIn wsL_law (wsV RL 182 RX7 yX7_addBundle wsX7_addBundle) := goodIn_app (goodIn_of _ (by decide +kernel)) ggL_law_X7_addBundle
set_option maxRecDepth 20000 in
theorem ggL_law_L_addPercent : GoodIn wsL_law wsL_addPercent := goodIn_ca (goodIn_ca (goodIn_r _ [587, 524, 588, 589, 590, 2, 591, 96, 97, 568, 569, 570, 571, 98, 99, 24, 572, 23, 573, 574, 52, 575, 53, 54, 1041, 1042, 1043, 1044, 1045, 1046, 1047, 1083, 1084, 1085, 1086, 1087] (by decide +kernel) (by decide +kernel)) (goodIn_sub (fun _ h => List.mem_append_left _ (List.mem_append_left _ (List.mem_append_left _ (List.mem_append_left _ (List.mem_append_right _ h))))) (by decide +kernel))) (goodIn_sub (fun _ h => List.mem_append_left _ (List.mem_append_left _ (List.mem_append_left _ (List.mem_append_right _ h)))) (by decide +kernel))
set_option maxRecDepth 20000 in
theorem gL_law_L_addPercent : GoodIn wsL_law (va_wsS RL 183 yL_addPercent wsL_addPercent) := goodIn_app (goodIn_of _ (by decide +kernel)) ggL_law_L_addPercent
set_option maxRecDepth 20000 in
theorem ggL_law_X7_addPercent : GoodIn wsL_law wsX7_addPercent := goodIn_r _ [595, 580, 120, 121, 5, 122, 123, 124, 125, 126, 127, 581, 582, 583, 584, 77, 82, 83, 84, 1048, 1049, 1050, 1051, 1052, 1053, 1054, 1055, 1056, 1057, 1058, 1059, 1060, 1061, 1062, 1063, 1064, 1065, 1066, 1067, 1068, 1069, 1070, 1071] (by decide +kernel) (by decide +kernel)
set_option maxRecDepth 20000 in
theorem gL_law_X7_addPercent : GoodIn wsL_law (wsV RL 185 RX7 yX7_addPercent wsX7_addPercent) := goodIn_app (goodIn_of _ (by decide +kernel)) ggL_law_X7_addPercent
set_option maxRecDepth 20000 in
theorem ggL_law_L_addSurcharge : GoodIn wsL_law wsL_addSurcharge := goodIn_ca (goodIn_ca (goodIn_r _ [598, 524, 599, 600, 601, 2, 602, 96, 97, 568, 569, 570, 571, 98, 99, 24, 572, 23, 573, 574, 52, 575, 53, 54, 1041, 1042, 1043, 1044, 1045, 1046, 1047, 1083, 1084, 1085, 1086, 1087] (by decide +kernel) (by decide +kernel)) (goodIn_sub (fun _ h => List.mem_append_left _ (List.mem_append_left _ (List.mem_append_left _ (List.mem_append_left _ (List.mem_append_right _ h))))) (by decide +kernel))) (goodIn_sub (fun _ h => List.mem_append_left _ (List.mem_append_left _ (List.mem_append_left _ (List.mem_append_right _ h)))) (by decide +kernel))
set_option maxRecDepth 20000 in
theorem gL_law_L_addSurcharge : GoodIn wsL_law (va_wsS RL 186 yL_addSurcharge wsL_addSurcharge) := goodIn_app (goodIn_of _ (by decide +kernel)) ggL_law_L_addSurcharge
set_option maxRecDepth 20000 in
theorem ggL_law_X7_addSurcharge : GoodIn wsL_law wsX7_addSurcharge := goodIn_r _ [606, 580, 120, 121, 5, 122, 123, 124, 125, 126, 127, 581, 582, 583, 584, 77, 82, 83, 84, 1048, 1049, 1050, 1051, 1052, 1053, 1054, 1055, 1056, 1057, 1058, 1059, 1060, 1061, 1062, 1063, 1064, 1065, 1066, 1067, 1068, 1069, 1070, 1071] (by decide +kernel) (by decide +kernel)
set_option maxRecDepth 20000 in
theorem gL_law_X7_addSurcharge : GoodIn wsL_law (wsV RL 188 RX7 yX7_addSurcharge wsX7_addSurcharge) := goodIn_app (goodIn_of _ (by decide +kernel)) ggL_law_X7_addSurcharge
set_option maxRecDepth 20000 in
theorem ggL_law_L_removeLayer : GoodIn wsL_law wsL_removeLayer := goodIn_ca (goodIn_r _ [609, 610, 611, 612, 613, 2, 614, 98, 99, 24, 1041, 1042, 1043, 1044, 1045, 1046, 1047, 1083, 1084, 1085, 1086, 1087] (by decide +kernel) (by decide +kernel)) (goodIn_sub (fun _ h => List.mem_append_left _ (List.mem_append_left _ (List.mem_append_left _ (List.mem_append_right _ h)))) (by decide +kernel))
set_option maxRecDepth 20000 in
theorem gL_law_L_removeLayer : GoodIn wsL_law (va_wsS RL 189 yL_removeLayer wsL_removeLayer) := goodIn_app (goodIn_of _ (by decide +kernel)) ggL_law_L_removeLayer
set_option maxRecDepth 20000 in
theorem ggL_law_X7_removeLayer : GoodIn wsL_law wsX7_removeLayer := goodIn_r _ [618, 580, 123, 124, 125, 5, 126, 127, 1048, 1049, 1050, 1051, 1052, 1053, 1054, 1055, 1056, 1057, 1058, 1059, 1060, 1061, 1062, 1063, 1064, 1065, 1066, 1067, 1068, 1069, 1070, 1071] (by decide +kernel) (by decide +kernel)
set_option maxRecDepth 20000 in
theorem gL_law_X7_removeLayer : GoodIn wsL_law (wsV RL 192 RX7 yX7_removeLayer wsX7_removeLayer) := goodIn_app (goodIn_of _ (by decide +kernel)) ggL_law_X7_removeLayer
set_option maxRecDepth 20000 in
theorem ggL_law_L_price : GoodIn wsL_law wsL_price := goodIn_ca (goodIn_r _ [621, 524, 622, 623, 624, 2, 625, 24, 529, 530, 531, 532, 96, 97, 16, 450, 15, 451, 452, 41, 626, 23, 627, 628, 575, 629, 630, 631, 632, 51, 157, 158, 633, 634, 635, 636, 53, 54, 52, 637, 233, 234, 235, 638, 164, 165, 166, 167, 168, 169, 1041, 1042, 1043, 1044, 1045, 1046, 1047, 1072, 1073, 1074, 1075, 1076, 1077, 1083, 1084, 1085, 1086, 1087] (by decide +kernel) (by decide +kernel)) (goodIn_sub (fun _ h => List.mem_append_left _ (List.mem_append_left _ (List.mem_append_left _ (List.mem_append_left _ (List.mem_append_right _ h))))) (by decide +kernel))
set_option maxRecDepth 20000 in
theorem gL_law_L_price : GoodIn wsL_law (va_wsS RL 193 yL_price wsL_price) := goodIn_app (goodIn_of _ (by decide +kernel)) ggL_law_L_price
set_option maxRecDepth 20000 in
theorem ggL_law_X7_price : GoodIn wsL_law wsX7_price := goodIn_r _ [642, 537, 538, 539, 5, 540, 86, 123, 124, 125, 126, 127, 643, 644, 645, 646, 70, 580, 77, 82, 83, 84, 647, 233, 234, 235, 206, 207, 208, 389, 164, 165, 166, 167, 168, 169, 1048, 1049, 1050, 1051, 1052, 1053, 1054, 1055, 1056, 1057, 1058, 1059, 1060, 1061, 1062, 1063, 1064, 1065, 1066, 1067, 1068, 1069, 1070, 1071] (by decide +kernel) (by decide +kernel)
set_option maxRecDepth 20000 in
theorem gL_law_X7_price : GoodIn wsL_law (wsV RL 195 RX7 yX7_price wsX7_price) := goodIn_app (goodIn_of _ (by decide +kernel)) ggL_law_X7_price
set_option maxRecDepth 20000 in
theorem ggL_law_X6_cheapest : GoodIn wsL_law wsX6_cheapest := goodIn_r _ [651, 16, 20, 24, 149, 150, 652, 152, 653, 154, 155, 156, 157, 2, 158, 159, 15, 160, 161, 37, 38, 162, 39, 163, 164, 165, 166, 167, 168, 169, 170, 19, 171, 172, 173, 47, 174, 175, 176, 177, 178, 45, 46, 654, 180, 181, 182, 183, 184, 185, 40, 655, 23, 656, 657, 637, 233, 234, 235, 658, 626, 627, 628, 575, 629, 630, 631, 632, 51, 633, 634, 635, 636, 53, 54, 52, 638, 659, 660, 661, 1041, 1042, 1043, 1044, 1045, 1046, 1047, 1072, 1073, 1074, 1075, 1076, 1077, 1078, 1079, 1080, 1081, 1082, 1083, 1084, 1085, 1086, 1087] (by decide +kernel) (by decide +kernel)
set_option maxRecDepth 20000 in
theorem gL_law_X6_cheapest : GoodIn wsL_law (wsV RL 196 RX6 yX6_cheapest wsX6_cheapest) := goodIn_app (goodIn_of _ (by decide +kernel)) ggL_law_X6_cheapest
set_option maxRecDepth 20000 in
theorem ggL_law_X7_cheapest : GoodIn wsL_law wsX7_cheapest := goodIn_r _ [665, 127, 86, 195, 196, 197, 5, 198, 199, 200, 201, 202, 203, 204, 69, 74, 71, 72, 205, 75, 206, 207, 208, 120, 121, 122, 209, 210, 211, 212, 76, 79, 80, 81, 666, 667, 668, 669, 643, 644, 645, 646, 70, 580, 77, 82, 83, 84, 647, 233, 234, 235, 389, 164, 165, 166, 167, 168, 169, 1048, 1049, 1050, 1051, 1052, 1053, 1054, 1055, 1056, 1057, 1058, 1059, 1060, 1061, 1062, 1063, 1064, 1065, 1066, 1067, 1068, 1069, 1070, 1071] (by decide +kernel) (by decide +kernel)
set_option maxRecDepth 20000 in
theorem gL_law_X7_cheapest : GoodIn wsL_law (wsV RL 199 RX7 yX7_cheapest wsX7_cheapest) := goodIn_app (goodIn_of _ (by decide +kernel)) ggL_law_X7_cheapest
set_option maxRecDepth 20000 in
theorem ggL_law_X6_cheapestByAll : GoodIn wsL_law wsX6_cheapestByAll := goodIn_r _ [673, 16, 24, 450, 15, 451, 452, 41, 453, 454, 455, 2, 456, 149, 150, 457, 458, 459, 460, 20, 461, 462, 463, 157, 158, 464, 465, 466, 467, 37, 38, 162, 39, 40, 163, 164, 165, 166, 167, 168, 169, 468, 19, 469, 470, 173, 174, 175, 176, 177, 178, 45, 46, 655, 23, 656, 657, 637, 233, 234, 235, 658, 626, 627, 628, 575, 629, 630, 631, 632, 51, 633, 634, 635, 636, 53, 54, 52, 638, 659, 660, 661, 1041, 1042, 1043, 1044, 1045, 1046, 1047, 1072, 1073, 1074, 1075, 1076, 1077, 1078, 1079, 1080, 1081, 1082, 1083, 1084, 1085, 1086, 1087] (by decide +kernel) (by decide +kernel)
set_option maxRecDepth 20000 in
theorem gL_law_X6_cheapestByAll : GoodIn wsL_law (wsV RL 200 RX6 yX6_cheapestByAll wsX6_cheapestByAll) := goodIn_app (goodIn_of _ (by decide +kernel)) ggL_law_X6_cheapestByAll
set_option maxRecDepth 20000 in
theorem ggL_law_X7_cheapestByAll : GoodIn wsL_law wsX7_cheapestByAll := goodIn_r _ [677, 678, 663, 664, 5, 665, 127, 86, 195, 196, 197, 198, 199, 200, 201, 202, 203, 204, 69, 74, 71, 72, 205, 75, 206, 207, 208, 120, 121, 122, 209, 210, 211, 212, 76, 79, 80, 81, 666, 667, 668, 669, 643, 644, 645, 646, 70, 580, 77, 82, 83, 84, 647, 233, 234, 235, 389, 164, 165, 166, 167, 168, 169, 1048, 1049, 1050, 1051, 1052, 1053, 1054, 1055, 1056, 1057, 1058, 1059, 1060, 1061, 1062, 1063, 1064, 1065, 1066, 1067, 1068, 1069, 1070, 1071] (by decide +kernel) (by decide +kernel)
set_option maxRecDepth 20000 in
theorem gL_law_X7_cheapestByAll : GoodIn wsL_law (wsV RL 203 RX7 yX7_cheapestByAll wsX7_cheapestByAll) := goodIn_app (goodIn_of _ (by decide +kernel)) ggL_law_X7_cheapestByAll
set_option maxRecDepth 20000 in
theorem ggL_law_X6_complete : GoodIn wsL_law wsX6_complete := goodIn_r _ [682, 16, 149, 150, 24, 683, 649, 650, 2, 651, 20, 652, 152, 653, 154, 155, 156, 157, 158, 159, 15, 160, 161, 37, 38, 162, 39, 163, 164, 165, 166, 167, 168, 169, 170, 19, 171, 172, 173, 47, 174, 175, 176, 177, 178, 45, 46, 654, 180, 181, 182, 183, 184, 185, 40, 655, 23, 656, 657, 637, 233, 234, 235, 658, 626, 627, 628, 575, 629, 630, 631, 632, 51, 633, 634, 635, 636, 53, 54, 52, 638, 659, 660, 661, 450, 451, 452, 41, 1041, 1042, 1043, 1044, 1045, 1046, 1047, 1072, 1073, 1074, 1075, 1076, 1077, 1078, 1079, 1080, 1081, 1082, 1083, 1084, 1085, 1086, 1087] (by decide +kernel) (by decide +kernel)
set_option maxRecDepth 20000 in
theorem gL_law_X6_complete : GoodIn wsL_law (wsV RL 204 RX6 yX6_complete wsX6_complete) := goodIn_app (goodIn_of _ (by decide +kernel)) ggL_law_X6_complete
set_option maxRecDepth 20000 in
theorem ggL_law_X7_complete : GoodIn wsL_law wsX7_complete := goodIn_r _ [687, 86, 199, 200, 678, 663, 664, 5, 665, 127, 195, 196, 197, 198, 201, 202, 203, 204, 69, 74, 71, 72, 205, 75, 206, 207, 208, 120, 121, 122, 209, 210, 211, 212, 76, 79, 80, 81, 666, 667, 668, 669, 643, 644, 645, 646, 70, 580, 77, 82, 83, 84, 647, 233, 234, 235, 389, 164, 165, 166, 167, 168, 169, 1048, 1049, 1050, 1051, 1052, 1053, 1054, 1055, 1056, 1057, 1058, 1059, 1060, 1061, 1062, 1063, 1064, 1065, 1066, 1067, 1068, 1069, 1070, 1071] (by decide +kernel) (by decide +kernel)
set_option maxRecDepth 20000 in
theorem gL_law_X7_complete : GoodIn wsL_law (wsV RL 207 RX7 yX7_complete wsX7_complete) := goodIn_app (goodIn_of _ (by decide +kernel)) ggL_law_X7_complete
set_option maxRecDepth 20000 in
theorem ggL_law_L_fewest : GoodIn wsL_law wsL_fewest := goodIn_ca (goodIn_ca (goodIn_r _ [690, 91, 691, 692, 693, 2, 694, 100, 101, 102, 103, 104, 105, 16, 695, 696, 697, 698, 285, 286, 149, 150, 450, 15, 451, 452, 41, 186, 157, 158, 457, 458, 459, 460, 20, 461, 462, 463, 464, 465, 466, 467, 37, 38, 162, 39, 40, 163, 164, 165, 166, 167, 168, 169, 468, 19, 469, 470, 173, 174, 175, 176, 177, 178, 45, 46, 699, 700, 701, 220, 1041, 1042, 1043, 1044, 1045, 1046, 1047, 1072, 1073, 1074, 1075, 1076, 1077, 1078, 1079, 1080, 1081, 1082] (by decide +kernel) (by decide +kernel)) (goodIn_sub (fun _ h => List.mem_append_left _ (List.mem_append_left _ (List.mem_append_right _ h))) (by decide +kernel))) (goodIn_sub (fun _ h => List.mem_append_right _ h) (by decide +kernel))
set_option maxRecDepth 20000 in
theorem gL_law_L_fewest : GoodIn wsL_law (va_wsS RL 208 yL_fewest wsL_fewest) := goodIn_app (goodIn_of _ (by decide +kernel)) ggL_law_L_fewest

set_option maxRecDepth 20000 in
theorem ggX6_meanPrice_X5_allFeatures : GoodIn wsX6_meanPrice wsX5_allFeatures := goodIn_r _ [6, 7, 82, 83, 84, 85, 86, 87] (by decide +kernel) (by decide +kernel)
set_option maxRecDepth 20000 in
theorem gX6_meanPrice_X5_allFeatures_n200 : GoodIn wsX6_meanPrice (wsX5_allFeatures) := ggX6_meanPrice_X5_allFeatures
set_option maxRecDepth 20000 in
theorem ggX6_meanPrice_X6_isCompletion : GoodIn wsX6_meanPrice wsX6_isCompletion := goodIn_r _ [12, 13, 14, 15, 16, 17, 11, 18, 1, 19, 20, 4, 21, 22, 7, 23, 24, 25, 26, 27, 28, 29, 30, 31, 32, 33, 34, 35, 36, 37, 38, 39, 40, 41, 42, 43, 44, 45, 46, 47, 48, 49, 50, 51, 52, 75, 76, 77, 78, 79, 80, 81, 82, 83, 84, 85, 86, 87, 88, 89, 90, 91, 92] (by decide +kernel) (by decide +kernel)
set_option maxRecDepth 20000 in
theorem gX6_meanPrice_X6_isCompletion : GoodIn wsX6_meanPrice (wsV RX6 203 RX6 yX6_isCompletion wsX6_isCompletion) := goodIn_app (goodIn_of _ (by decide +kernel)) ggX6_meanPrice_X6_isCompletion
set_option maxRecDepth 20000 in
theorem ggX6_meanPrice_X2_ofSet : GoodIn wsX6_meanPrice wsX2_ofSet := goodIn_r _ [56, 57, 58, 59, 60, 54, 61, 62, 23, 11, 24, 63, 64, 65, 66, 67, 68, 69, 70, 71, 72, 73, 74, 35, 36, 37, 38, 39, 40, 93, 94, 95, 96, 97] (by decide +kernel) (by decide +kernel)
set_option maxRecDepth 20000 in
theorem gX6_meanPrice_X2_ofSet_n220 : GoodIn wsX6_meanPrice (wsX2_ofSet) := ggX6_meanPrice_X2_ofSet
set_option maxRecDepth 20000 in
theorem ggX6_isSound_X6_completions : GoodIn wsX6_isSound wsX6_completions := goodIn_r _ [5, 6, 7, 8, 9, 10, 11, 12, 13, 14, 15, 16, 4, 17, 18, 19, 20, 21, 22, 23, 24, 25, 26, 27, 28, 29, 30, 31, 32, 33, 34, 35, 36, 37, 38, 39, 40, 41, 42, 43, 44, 45, 46, 47, 48, 49, 50, 51, 52, 53, 200, 201, 202, 203, 204, 205, 206, 207, 208, 209, 210, 211, 212, 213, 214, 215, 216, 217] (by decide +kernel) (by decide +kernel)
set_option maxRecDepth 20000 in
theorem gX6_isSound_X6_completions : GoodIn wsX6_isSound (wsV RX6 251 RX6 yX6_completions wsX6_completions) := goodIn_app (goodIn_of _ (by decide +kernel)) ggX6_isSound_X6_completions
set_option maxRecDepth 20000 in
theorem ggX6_isSound_X6_featuresInAll : GoodIn wsX6_isSound wsX6_featuresInAll := goodIn_r _ [57, 6, 58, 19, 59, 60, 61, 62, 63, 64, 4, 65, 8, 9, 66, 67, 68, 69, 7, 70, 71, 72, 16, 17, 73, 74, 75, 76, 22, 23, 24, 25, 53, 26, 27, 28, 29, 30, 31, 32, 77, 34, 78, 79, 37, 39, 40, 41, 42, 43, 44, 45, 200, 201, 202, 203, 204, 205, 206, 207, 208, 209, 210, 211, 212, 213, 214, 215, 216, 217] (by decide +kernel) (by decide +kernel)
set_option maxRecDepth 20000 in
theorem gX6_isSound_X6_featuresInAll : GoodIn wsX6_isSound (wsV RX6 163 RX6 yX6_featuresInAll wsX6_featuresInAll) := goodIn_app (goodIn_of _ (by decide +kernel)) ggX6_isSound_X6_featuresInAll
set_option maxRecDepth 20000 in
theorem ggX6_isSound_X6_featuresInSome : GoodIn wsX6_isSound wsX6_featuresInSome := goodIn_r _ [83, 6, 58, 19, 59, 60, 61, 62, 63, 64, 4, 65, 8, 9, 66, 67, 68, 69, 7, 70, 71, 72, 16, 17, 73, 74, 75, 76, 22, 23, 24, 25, 53, 26, 27, 28, 29, 30, 31, 32, 77, 34, 78, 79, 37, 39, 40, 41, 42, 43, 44, 45, 200, 201, 202, 203, 204, 205, 206, 207, 208, 209, 210, 211, 212, 213, 214, 215, 216, 217] (by decide +kernel) (by decide +kernel)
set_option maxRecDepth 20000 in
theorem gX6_isSound_X6_featuresInSome : GoodIn wsX6_isSound (wsV RX6 160 RX6 yX6_featuresInSome wsX6_featuresInSome) := goodIn_app (goodIn_of _ (by decide +kernel)) ggX6_isSound_X6_featuresInSome
set_option maxRecDepth 20000 in
theorem ggX6_isSound_X6_completionsByAll : GoodIn wsX6_isSound wsX6_completionsByAll := goodIn_r _ [87, 6, 58, 19, 59, 60, 61, 62, 63, 64, 4, 65, 8, 9, 66, 67, 68, 69, 7, 70, 71, 72, 16, 17, 73, 74, 75, 76, 22, 23, 24, 25, 53, 26, 27, 28, 29, 30, 31, 32, 77, 34, 78, 79, 37, 39, 40, 41, 42, 43, 44, 45, 200, 201, 202, 203, 204, 205, 206, 207, 208, 209, 210, 211, 212, 213, 214, 215, 216, 217] (by decide +kernel) (by decide +kernel)
set_option maxRecDepth 20000 in
theorem gX6_isSound_X6_completionsByAll : GoodIn wsX6_isSound (wsV RX6 255 RX6 yX6_completionsByAll wsX6_completionsByAll) := goodIn_app (goodIn_of _ (by decide +kernel)) ggX6_isSound_X6_completionsByAll
set_option maxRecDepth 20000 in
theorem ggX6_isSound_X6_cheapest : GoodIn wsX6_isSound wsX6_cheapest := goodIn_r _ [91, 6, 7, 92, 8, 9, 93, 11, 94, 13, 14, 15, 16, 4, 17, 18, 19, 20, 21, 22, 23, 24, 25, 26, 27, 28, 29, 30, 31, 32, 33, 34, 35, 36, 37, 38, 39, 40, 41, 42, 43, 44, 45, 95, 47, 48, 49, 50, 51, 52, 53, 96, 97, 98, 99, 100, 101, 102, 103, 104, 105, 106, 107, 108, 109, 110, 111, 112, 113, 114, 115, 116, 117, 118, 119, 120, 121, 122, 123, 124, 200, 201, 202, 203, 204, 205, 206, 207, 208, 209, 210, 211, 212, 213, 214, 215, 216, 217, 218, 219, 220, 221, 222] (by decide +kernel) (by decide +kernel)
set_option maxRecDepth 20000 in
theorem gX6_isSound_X6_cheapest : GoodIn wsX6_isSound (wsV RX6 230 RX6 yX6_cheapest wsX6_cheapest) := goodIn_app (goodIn_of _ (by decide +kernel)) ggX6_isSound_X6_cheapest
set_option maxRecDepth 20000 in
theorem ggX6_isSound_X6_cheapestByAll : GoodIn wsX6_isSound wsX6_cheapestByAll := goodIn_r _ [128, 6, 92, 58, 19, 59, 60, 61, 62, 63, 64, 4, 65, 8, 9, 66, 67, 68, 69, 7, 70, 71, 72, 16, 17, 73, 74, 75, 76, 22, 23, 24, 25, 53, 26, 27, 28, 29, 30, 31, 32, 77, 34, 78, 79, 37, 39, 40, 41, 42, 43, 44, 45, 96, 97, 98, 99, 100, 101, 102, 103, 104, 105, 106, 107, 108, 109, 110, 111, 112, 113, 114, 115, 116, 117, 118, 119, 120, 121, 122, 123, 124, 200, 201, 202, 203, 204, 205, 206, 207, 208, 209, 210, 211, 212, 213, 214, 215, 216, 217, 218, 219, 220, 221, 222] (by decide +kernel) (by decide +kernel)
set_option maxRecDepth 20000 in
theorem gX6_isSound_X6_cheapestByAll : GoodIn wsX6_isSound (wsV RX6 258 RX6 yX6_cheapestByAll wsX6_cheapestByAll) := goodIn_app (goodIn_of _ (by decide +kernel)) ggX6_isSound_X6_cheapestByAll
set_option maxRecDepth 20000 in
theorem ggX6_isSound_X6_statesAgree : GoodIn wsX6_isSound wsX6_statesAgree := goodIn_ca (goodIn_r _ [132, 6, 133, 16, 4, 17, 134, 135, 136, 137, 7, 8, 9, 138, 139, 140, 141, 142, 143, 144, 11, 145, 13, 14, 15, 18, 19, 20, 21, 22, 23, 24, 25, 26, 27, 28, 29, 30, 31, 32, 33, 34, 35, 36, 37, 38, 39, 40, 41, 42, 43, 44, 45, 146, 47, 48, 49, 50, 51, 52, 53, 147, 148, 149, 150, 200, 201, 202, 203, 204, 205, 206, 207, 208, 209, 210, 211, 212, 213, 214, 215, 216, 217] (by decide +kernel) (by decide +kernel)) (goodIn_sub (fun _ h => List.mem_cons_of_mem _ (List.mem_append_right _ h)) (by decide +kernel))
set_option maxRecDepth 20000 in
theorem gX6_isSound_X6_statesAgree : GoodIn wsX6_isSound (wsV RX6 261 RX6 yX6_statesAgree wsX6_statesAgree) := goodIn_app (goodIn_of _ (by decide +kernel)) ggX6_isSound_X6_statesAgree
set_option maxRecDepth 20000 in
theorem ggX6_isSound_X6_knowledgeAgrees : GoodIn wsX6_isSound wsX6_knowledgeAgrees := goodIn_r _ [154, 155, 156, 157, 158, 4, 159, 6, 7, 8, 9, 160, 161, 162, 163, 164, 165, 166, 16, 17, 167, 168, 169, 170, 171, 172, 173, 174, 175, 176, 177, 178, 179, 180, 181, 182, 183, 184, 185, 186, 187, 27, 28, 29, 30, 31, 32, 188, 189, 190, 191, 192, 193, 194, 195, 196, 197, 34, 198, 199, 37, 44, 45, 39, 200, 201, 202, 203, 204, 205, 206, 223, 224, 225, 226, 207, 208, 209, 210, 211, 212, 213, 214, 215, 216, 217] (by decide +kernel) (by decide +kernel)
set_option maxRecDepth 20000 in
theorem gX6_isSound_X6_knowledgeAgrees : GoodIn wsX6_isSound (wsV RX6 264 RX6 yX6_knowledgeAgrees wsX6_knowledgeAgrees) := goodIn_app (goodIn_of _ (by decide +kernel)) ggX6_isSound_X6_knowledgeAgrees
set_option maxRecDepth 20000 in
theorem ggX6_checkDecidable_X6_checkFeature : GoodIn wsX6_checkDecidable wsX6_checkFeature := goodIn_ca (goodIn_r _ [9, 10, 11, 12, 22, 23, 24, 25, 26, 27, 28, 29, 30, 31, 32, 33, 34] (by decide +kernel) (by decide +kernel)) (goodIn_sub (fun _ h => List.mem_cons_of_mem _ (List.mem_append_left _ (List.mem_append_right _ h))) (by decide +kernel))
set_option maxRecDepth 20000 in
theorem gX6_checkDecidable_X6_checkFeature : GoodIn wsX6_checkDecidable (wsV RX6 44 RX6 yX6_checkFeature wsX6_checkFeature) := goodIn_app (goodIn_of _ (by decide +kernel)) ggX6_checkDecidable_X6_checkFeature
set_option maxRecDepth 20000 in
theorem ggX6_checkDecidable_X6_checkNotRoot : GoodIn wsX6_checkDecidable wsX6_checkNotRoot := goodIn_ca (goodIn_r _ [16, 17, 18] (by decide +kernel) (by decide +kernel)) (goodIn_sub (fun _ h => List.mem_cons_of_mem _ (List.mem_append_right _ h)) (by decide +kernel))
set_option maxRecDepth 20000 in
theorem gX6_checkDecidable_X6_checkNotRoot : GoodIn wsX6_checkDecidable (wsV RX6 72 RX6 yX6_checkNotRoot wsX6_checkNotRoot) := goodIn_app (goodIn_of _ (by decide +kernel)) ggX6_checkDecidable_X6_checkNotRoot
set_option maxRecDepth 20000 in
theorem ggX6_checkDecidable_X6_has : GoodIn wsX6_checkDecidable wsX6_has := goodIn_r _ [21] (by decide +kernel) (by decide +kernel)
set_option maxRecDepth 20000 in
theorem gX6_checkDecidable_X6_has : GoodIn wsX6_checkDecidable (va_wsS RX6 87 yX6_has wsX6_has) := goodIn_app (goodIn_of _ (by decide +kernel)) ggX6_checkDecidable_X6_has
set_option maxRecDepth 20000 in
theorem ggX6_checkSet_X5_allFeatures : GoodIn wsX6_checkSet wsX5_allFeatures := goodIn_r _ [7, 8, 16, 17, 18, 19, 20, 21] (by decide +kernel) (by decide +kernel)
set_option maxRecDepth 20000 in
theorem gX6_checkSet_X5_allFeatures_n200 : GoodIn wsX6_checkSet (wsX5_allFeatures) := ggX6_checkSet_X5_allFeatures
set_option maxRecDepth 20000 in
theorem ggX6_stateLetter_X6_has : GoodIn wsX6_stateLetter wsX6_has := goodIn_r _ [6] (by decide +kernel) (by decide +kernel)
set_option maxRecDepth 20000 in
theorem gX6_stateLetter_X6_has : GoodIn wsX6_stateLetter (va_wsS RX6 87 yX6_has wsX6_has) := goodIn_app (goodIn_of _ (by decide +kernel)) ggX6_stateLetter_X6_has
set_option maxRecDepth 20000 in
theorem ggX6_hasCompletion_X4_reaches : GoodIn wsX6_hasCompletion wsX4_reaches := goodIn_r _ [7, 8, 9, 6, 10, 11, 12, 13, 14, 15, 16, 17, 18, 19, 20, 21, 22, 23, 24, 25, 26, 27, 28, 29, 30, 31, 32, 33, 34, 35, 36, 37, 38, 39, 40, 41, 42, 5, 43, 44, 45, 46, 47, 48, 49, 57, 58, 59, 60, 61, 62, 63, 64, 65, 66, 67] (by decide +kernel) (by decide +kernel)
set_option maxRecDepth 20000 in
theorem gX6_hasCompletion_X4_reaches_n141 : GoodIn wsX6_hasCompletion (wsX4_reaches) := ggX6_hasCompletion_X4_reaches
set_option maxRecDepth 20000 in
theorem ggX6_isAllowed_X5_allows : GoodIn wsX6_isAllowed wsX5_allows := goodIn_r _ [6, 7, 8, 9, 10, 11, 12, 13, 4, 14, 15, 16, 17, 18, 19, 20, 21, 22, 23, 24, 25, 26, 46, 47, 48, 49, 50, 51] (by decide +kernel) (by decide +kernel)
set_option maxRecDepth 20000 in
theorem gX6_isAllowed_X5_allows_n277 : GoodIn wsX6_isAllowed (wsX5_allows) := ggX6_isAllowed_X5_allows
set_option maxRecDepth 20000 in
theorem ggX6_isAllowed_X3_holdFor : GoodIn wsX6_isAllowed wsX3_holdFor := goodIn_r _ [30, 31, 32, 8, 9, 10, 33, 34, 35, 28, 36, 37, 38, 52, 53, 54, 55, 56] (by decide +kernel) (by decide +kernel)
set_option maxRecDepth 20000 in
theorem gX6_isAllowed_X3_holdFor_n280 : GoodIn wsX6_isAllowed (wsX3_holdFor) := ggX6_isAllowed_X3_holdFor
set_option maxRecDepth 20000 in
theorem ggX6_isCompletion_X6_isAllowed : GoodIn wsX6_isCompletion wsX6_isAllowed := goodIn_r _ [7, 8, 9, 10, 11, 12, 13, 14, 15, 6, 16, 17, 18, 19, 20, 21, 22, 23, 24, 25, 26, 27, 28, 29, 30, 31, 32, 33, 34, 35, 36, 37, 38, 39, 40, 41, 42, 43, 44, 45, 46, 47, 48, 49, 50, 51, 52, 53, 54, 55, 56, 57, 58, 59, 60, 61, 62] (by decide +kernel) (by decide +kernel)
set_option maxRecDepth 20000 in
theorem gX6_isCompletion_X6_isAllowed : GoodIn wsX6_isCompletion (wsV RX6 193 RX6 yX6_isAllowed wsX6_isAllowed) := goodIn_app (goodIn_of _ (by decide +kernel)) ggX6_isCompletion_X6_isAllowed
set_option maxRecDepth 20000 in
theorem ggX6_featuresInAll_X5_allFeatures : GoodIn wsX6_featuresInAll wsX5_allFeatures := goodIn_r _ [5, 6, 59, 60, 61, 62, 63, 64] (by decide +kernel) (by decide +kernel)
set_option maxRecDepth 20000 in
theorem gX6_featuresInAll_X5_allFeatures_n200 : GoodIn wsX6_featuresInAll (wsX5_allFeatures) := ggX6_featuresInAll_X5_allFeatures
set_option maxRecDepth 20000 in
theorem ggX6_featuresInAll_X6_isCompletion : GoodIn wsX6_featuresInAll wsX6_isCompletion := goodIn_r _ [11, 12, 13, 14, 15, 16, 10, 17, 1, 18, 19, 3, 20, 21, 6, 22, 23, 24, 25, 26, 27, 28, 29, 30, 31, 32, 33, 34, 35, 36, 37, 38, 39, 40, 41, 42, 43, 44, 45, 46, 47, 48, 49, 50, 51, 52, 53, 54, 55, 56, 57, 58, 59, 60, 61, 62, 63, 64, 65, 66, 67, 68, 69] (by decide +kernel) (by decide +kernel)
set_option maxRecDepth 20000 in
theorem gX6_featuresInAll_X6_isCompletion : GoodIn wsX6_featuresInAll (wsV RX6 203 RX6 yX6_isCompletion wsX6_isCompletion) := goodIn_app (goodIn_of _ (by decide +kernel)) ggX6_featuresInAll_X6_isCompletion
set_option maxRecDepth 20000 in
theorem ggX6_featuresInSome_X5_allFeatures : GoodIn wsX6_featuresInSome wsX5_allFeatures := goodIn_r _ [5, 6, 59, 60, 61, 62, 63, 64] (by decide +kernel) (by decide +kernel)
set_option maxRecDepth 20000 in
theorem gX6_featuresInSome_X5_allFeatures_n200 : GoodIn wsX6_featuresInSome (wsX5_allFeatures) := ggX6_featuresInSome_X5_allFeatures
set_option maxRecDepth 20000 in
theorem ggX6_featuresInSome_X6_isCompletion : GoodIn wsX6_featuresInSome wsX6_isCompletion := goodIn_r _ [11, 12, 13, 14, 15, 16, 10, 17, 1, 18, 19, 3, 20, 21, 6, 22, 23, 24, 25, 26, 27, 28, 29, 30, 31, 32, 33, 34, 35, 36, 37, 38, 39, 40, 41, 42, 43, 44, 45, 46, 47, 48, 49, 50, 51, 52, 53, 54, 55, 56, 57, 58, 59, 60, 61, 62, 63, 64, 65, 66, 67, 68, 69] (by decide +kernel) (by decide +kernel)
set_option maxRecDepth 20000 in
theorem gX6_featuresInSome_X6_isCompletion : GoodIn wsX6_featuresInSome (wsV RX6 203 RX6 yX6_isCompletion wsX6_isCompletion) := goodIn_app (goodIn_of _ (by decide +kernel)) ggX6_featuresInSome_X6_isCompletion
set_option maxRecDepth 20000 in
theorem ggX6_addRule_X3_append : GoodIn wsX6_addRule wsX3_append := goodIn_r _ [9, 10, 11, 12, 13, 14, 68, 69, 70, 71, 72] (by decide +kernel) (by decide +kernel)
set_option maxRecDepth 20000 in
theorem gX6_addRule_X3_append_n285 : GoodIn wsX6_addRule (wsX3_append) := ggX6_addRule_X3_append
set_option maxRecDepth 20000 in
theorem ggX6_addRule_X6_hasCompletion : GoodIn wsX6_addRule wsX6_hasCompletion := goodIn_r _ [19, 20, 5, 21, 22, 23, 24, 25, 26, 27, 28, 29, 18, 30, 31, 32, 33, 34, 35, 36, 37, 38, 39, 40, 41, 42, 43, 44, 45, 46, 7, 47, 48, 10, 13, 14, 49, 50, 51, 52, 11, 12, 53, 54, 55, 56, 57, 58, 59, 60, 61, 62, 63, 64, 65, 66, 67, 73, 74, 75, 76, 77, 78, 68, 69, 70, 71, 72] (by decide +kernel) (by decide +kernel)
set_option maxRecDepth 20000 in
theorem gX6_addRule_X6_hasCompletion : GoodIn wsX6_addRule (wsV RX6 78 RX6 yX6_hasCompletion wsX6_hasCompletion) := goodIn_app (goodIn_of _ (by decide +kernel)) ggX6_addRule_X6_hasCompletion
set_option maxRecDepth 20000 in
theorem ggX6_addLayer_X2_append : GoodIn wsX6_addLayer wsX2_append := goodIn_r _ [7, 8, 9, 10, 11, 19, 20, 21, 22, 23] (by decide +kernel) (by decide +kernel)
set_option maxRecDepth 20000 in
theorem gX6_addLayer_X2_append_n293 : GoodIn wsX6_addLayer (wsX2_append) := ggX6_addLayer_X2_append
set_option maxRecDepth 20000 in
theorem ggX6_deduce_X0_run : GoodIn wsX6_deduce wsX0_run := goodIn_r _ [9, 10, 11, 12, 13, 14, 15, 16, 17, 18, 7, 19, 20, 21, 22, 23, 24, 25, 26, 27, 28, 29, 30, 31, 32, 33, 34, 35, 36, 37, 38, 39, 40, 41, 42, 43, 44, 45, 46, 47, 48, 49, 50, 51, 52, 53, 54, 55, 56, 57, 58, 59, 67, 68, 69, 70, 71, 72, 73, 74, 75, 76, 77, 78, 79, 80, 81] (by decide +kernel) (by decide +kernel)
set_option maxRecDepth 20000 in
theorem gX6_deduce_X0_run_n296 : GoodIn wsX6_deduce (wsX0_run) := ggX6_deduce_X0_run
set_option maxRecDepth 20000 in
theorem ggX6_countUnknown_X6_deduce : GoodIn wsX6_countUnknown wsX6_deduce := goodIn_r _ [7, 2, 1, 8, 9, 10, 11, 12, 13, 14, 15, 16, 17, 18, 6, 19, 20, 21, 22, 23, 24, 25, 26, 27, 28, 29, 30, 31, 32, 33, 34, 35, 36, 37, 38, 39, 40, 41, 42, 43, 44, 45, 46, 47, 48, 49, 50, 51, 52, 53, 54, 55, 56, 57, 58, 59, 60, 61, 62, 63, 65, 66, 67, 68, 69, 70, 71, 78, 79, 80, 81, 72, 73, 74, 75, 76, 77, 82, 83, 84, 85, 86] (by decide +kernel) (by decide +kernel)
set_option maxRecDepth 20000 in
theorem gX6_countUnknown_X6_deduce : GoodIn wsX6_countUnknown (wsV RX6 166 RX6 yX6_deduce wsX6_deduce) := goodIn_app (goodIn_of _ (by decide +kernel)) ggX6_countUnknown_X6_deduce
set_option maxRecDepth 20000 in
theorem ggX6_countUnknown_J6_bitCount_0f7a4 : GoodIn wsX6_countUnknown wsJ6_bitCount_0f7a4 := goodIn_r _ [43, 44, 45, 46] (by decide +kernel) (by decide +kernel)
set_option maxRecDepth 20000 in
theorem gX6_countUnknown_J6_bitCount_0f7a4 : GoodIn wsX6_countUnknown (va_wsS RX6 103 yJ6_bitCount_0f7a4 wsJ6_bitCount_0f7a4) := goodIn_app (goodIn_of _ (by decide +kernel)) ggX6_countUnknown_J6_bitCount_0f7a4
set_option maxRecDepth 20000 in
theorem ggX6_writeLine_X6_deduce : GoodIn wsX6_writeLine wsX6_deduce := goodIn_r _ [8, 3, 2, 9, 10, 11, 12, 13, 14, 15, 16, 17, 18, 19, 7, 20, 21, 22, 23, 24, 25, 26, 27, 28, 29, 30, 31, 32, 33, 34, 35, 36, 37, 38, 39, 40, 41, 42, 43, 44, 45, 46, 47, 48, 49, 50, 51, 52, 53, 54, 55, 56, 57, 58, 59, 60, 61, 62, 63, 64, 75, 76, 77, 78, 79, 80, 81, 88, 89, 90, 91, 82, 83, 84, 85, 86, 87, 92, 93, 94, 95, 96] (by decide +kernel) (by decide +kernel)
set_option maxRecDepth 20000 in
theorem gX6_writeLine_X6_deduce : GoodIn wsX6_writeLine (wsV RX6 166 RX6 yX6_deduce wsX6_deduce) := goodIn_app (goodIn_of _ (by decide +kernel)) ggX6_writeLine_X6_deduce
set_option maxRecDepth 20000 in
theorem ggX6_writeLine_X1_write : GoodIn wsX6_writeLine wsX1_write := goodIn_r _ [68, 69, 70, 71, 72, 66, 73, 74, 26, 13, 27, 28, 16, 17, 19, 7, 20, 97, 98, 88, 89, 90, 91] (by decide +kernel) (by decide +kernel)
set_option maxRecDepth 20000 in
theorem gX6_writeLine_X1_write_n300 : GoodIn wsX6_writeLine (wsX1_write) := ggX6_writeLine_X1_write
set_option maxRecDepth 20000 in
theorem ggX6_decisionsAgainst_X5_allFeatures : GoodIn wsX6_decisionsAgainst wsX5_allFeatures := goodIn_r _ [9, 10, 62, 63, 64, 65, 66, 67] (by decide +kernel) (by decide +kernel)
set_option maxRecDepth 20000 in
theorem gX6_decisionsAgainst_X5_allFeatures_n200 : GoodIn wsX6_decisionsAgainst (wsX5_allFeatures) := ggX6_decisionsAgainst_X5_allFeatures
set_option maxRecDepth 20000 in
theorem ggX6_decisionsAgainst_X6_has : GoodIn wsX6_decisionsAgainst wsX6_has := goodIn_r _ [14] (by decide +kernel) (by decide +kernel)
set_option maxRecDepth 20000 in
theorem gX6_decisionsAgainst_X6_has : GoodIn wsX6_decisionsAgainst (va_wsS RX6 87 yX6_has wsX6_has) := goodIn_app (goodIn_of _ (by decide +kernel)) ggX6_decisionsAgainst_X6_has
set_option maxRecDepth 20000 in
theorem ggX6_decisionsAgainst_X6_isAllowed : GoodIn wsX6_decisionsAgainst wsX6_isAllowed := goodIn_r _ [18, 3, 19, 20, 7, 21, 22, 10, 12, 13, 14, 23, 24, 25, 26, 27, 28, 29, 30, 31, 32, 33, 34, 35, 36, 37, 38, 39, 40, 41, 42, 43, 44, 45, 46, 47, 48, 49, 50, 55, 56, 57, 58, 59, 60, 61, 62, 63, 64, 65, 66, 67, 68, 69, 70, 71, 72] (by decide +kernel) (by decide +kernel)
set_option maxRecDepth 20000 in
theorem gX6_decisionsAgainst_X6_isAllowed : GoodIn wsX6_decisionsAgainst (wsV RX6 193 RX6 yX6_isAllowed wsX6_isAllowed) := goodIn_app (goodIn_of _ (by decide +kernel)) ggX6_decisionsAgainst_X6_isAllowed
set_option maxRecDepth 20000 in
theorem ggX6_decisionsAgainst_X6_smallerOf : GoodIn wsX6_decisionsAgainst wsX6_smallerOf := goodIn_r _ [53, 54, 33, 34, 35, 36, 37, 38] (by decide +kernel) (by decide +kernel)
set_option maxRecDepth 20000 in
theorem gX6_decisionsAgainst_X6_smallerOf : GoodIn wsX6_decisionsAgainst (va_wsS RX6 304 yX6_smallerOf wsX6_smallerOf) := goodIn_app (goodIn_of _ (by decide +kernel)) ggX6_decisionsAgainst_X6_smallerOf
set_option maxRecDepth 20000 in
theorem ggX6_smallerOf_J6_bitCount_0f7a4 : GoodIn wsX6_smallerOf wsJ6_bitCount_0f7a4 := goodIn_r _ [4, 5, 6, 7] (by decide +kernel) (by decide +kernel)
set_option maxRecDepth 20000 in
theorem gX6_smallerOf_J6_bitCount_0f7a4 : GoodIn wsX6_smallerOf (va_wsS RX6 103 yJ6_bitCount_0f7a4 wsJ6_bitCount_0f7a4) := goodIn_app (goodIn_of _ (by decide +kernel)) ggX6_smallerOf_J6_bitCount_0f7a4
set_option maxRecDepth 20000 in
theorem ggX6_statesAgree_X6_has : GoodIn wsX6_statesAgree wsX6_has := goodIn_r _ [5] (by decide +kernel) (by decide +kernel)
set_option maxRecDepth 20000 in
theorem gX6_statesAgree_X6_has : GoodIn wsX6_statesAgree (va_wsS RX6 87 yX6_has wsX6_has) := goodIn_app (goodIn_of _ (by decide +kernel)) ggX6_statesAgree_X6_has
set_option maxRecDepth 20000 in
theorem ggX6_statesAgree_X6_stateOf : GoodIn wsX6_statesAgree wsX6_stateOf := goodIn_ca (goodIn_r _ [9, 1, 10, 11, 12, 13, 14, 15, 4, 16, 17, 18, 19, 20, 21, 22, 23, 24, 3, 5, 25, 26, 27, 28, 29, 30, 31, 32, 33, 34, 35, 36, 37, 38, 39, 40, 41, 42, 43, 44, 45, 46, 47, 48, 49, 50, 51, 52, 53, 54, 55, 56, 57, 58, 59, 60, 61, 62, 63, 64, 2, 65, 66, 67, 68, 69, 70, 71, 72, 73, 74, 75, 76, 77, 78, 79, 80, 81, 82] (by decide +kernel) (by decide +kernel)) (goodIn_sub (fun _ h => List.mem_cons_of_mem _ (List.mem_append_right _ h)) (by decide +kernel))
set_option maxRecDepth 20000 in
theorem gX6_statesAgree_X6_stateOf : GoodIn wsX6_statesAgree (wsV RX6 309 RX6 yX6_stateOf wsX6_stateOf) := goodIn_app (goodIn_of _ (by decide +kernel)) ggX6_statesAgree_X6_stateOf
set_option maxRecDepth 20000 in
theorem ggX6_statesAgree_X6_stateLetter : GoodIn wsX6_statesAgree wsX6_stateLetter := goodIn_r _ [64, 11, 12, 2, 3, 4, 5, 65, 66, 67, 68, 69, 70, 71] (by decide +kernel) (by decide +kernel)
set_option maxRecDepth 20000 in
theorem gX6_statesAgree_X6_stateLetter : GoodIn wsX6_statesAgree (wsV RX6 156 RX6 yX6_stateLetter wsX6_stateLetter) := goodIn_app (goodIn_of _ (by decide +kernel)) ggX6_statesAgree_X6_stateLetter
set_option maxRecDepth 20000 in
theorem ggX6_knowledgeAgrees_X6_deduce : GoodIn wsX6_knowledgeAgrees wsX6_deduce := goodIn_r _ [6, 1, 7, 8, 9, 10, 11, 12, 13, 14, 15, 16, 17, 18, 5, 19, 20, 21, 22, 23, 24, 25, 26, 27, 28, 29, 30, 31, 32, 33, 34, 35, 36, 37, 38, 39, 40, 41, 42, 43, 44, 45, 46, 47, 48, 49, 50, 51, 52, 53, 54, 55, 56, 57, 58, 59, 60, 61, 62, 63, 64, 65, 66, 67, 68, 69, 70, 71, 72, 73, 74, 75, 76, 77, 78, 79, 80, 81, 82, 83, 84, 85] (by decide +kernel) (by decide +kernel)
set_option maxRecDepth 20000 in
theorem gX6_knowledgeAgrees_X6_deduce : GoodIn wsX6_knowledgeAgrees (wsV RX6 166 RX6 yX6_deduce wsX6_deduce) := goodIn_app (goodIn_of _ (by decide +kernel)) ggX6_knowledgeAgrees_X6_deduce
set_option maxRecDepth 20000 in
theorem ggX7_isNone_X7_isIn : GoodIn wsX7_isNone wsX7_isIn := goodIn_r _ [5] (by decide +kernel) (by decide +kernel)
set_option maxRecDepth 20000 in
theorem gX7_isNone_X7_isIn : GoodIn wsX7_isNone (va_wsS RX7 67 yX7_isIn wsX7_isIn) := goodIn_app (goodIn_of _ (by decide +kernel)) ggX7_isNone_X7_isIn
set_option maxRecDepth 20000 in
theorem ggX7_keeps_X7_has : GoodIn wsX7_keeps wsX7_has := goodIn_r _ [8] (by decide +kernel) (by decide +kernel)
set_option maxRecDepth 20000 in
theorem gX7_keeps_X7_has : GoodIn wsX7_keeps (va_wsS RX7 71 yX7_has wsX7_has) := goodIn_app (goodIn_of _ (by decide +kernel)) ggX7_keeps_X7_has
set_option maxRecDepth 20000 in
theorem ggX7_isGood_X7_has : GoodIn wsX7_isGood wsX7_has := goodIn_r _ [11] (by decide +kernel) (by decide +kernel)
set_option maxRecDepth 20000 in
theorem gX7_isGood_X7_has : GoodIn wsX7_isGood (va_wsS RX7 71 yX7_has wsX7_has) := goodIn_app (goodIn_of _ (by decide +kernel)) ggX7_isGood_X7_has
set_option maxRecDepth 20000 in
theorem ggX7_isGood_X7_isIn : GoodIn wsX7_isGood wsX7_isIn := goodIn_r _ [14] (by decide +kernel) (by decide +kernel)
set_option maxRecDepth 20000 in
theorem gX7_isGood_X7_isIn : GoodIn wsX7_isGood (va_wsS RX7 67 yX7_isIn wsX7_isIn) := goodIn_app (goodIn_of _ (by decide +kernel)) ggX7_isGood_X7_isIn
set_option maxRecDepth 20000 in
theorem ggX7_isGood_X7_keeps : GoodIn wsX7_isGood wsX7_keeps := goodIn_r _ [18, 19, 20, 21, 22, 8, 9, 10, 11, 23, 24, 25, 26, 27, 28, 29, 30, 31, 32, 33, 34, 35, 36, 37, 38, 39, 40, 41, 42, 43, 44, 45, 46] (by decide +kernel) (by decide +kernel)
set_option maxRecDepth 20000 in
theorem gX7_isGood_X7_keeps : GoodIn wsX7_isGood (wsV RX7 78 RX7 yX7_keeps wsX7_keeps) := goodIn_app (goodIn_of _ (by decide +kernel)) ggX7_isGood_X7_keeps
set_option maxRecDepth 20000 in
theorem ggX7_completes_X7_isGood : GoodIn wsX7_completes wsX7_isGood := goodIn_r _ [7, 8, 9, 10, 11, 12, 13, 14, 15, 16, 6, 17, 18, 19, 20, 21, 22, 23, 24, 25, 26, 27, 28, 29, 30, 31, 32, 33, 34, 35, 36, 37, 38, 39, 40, 41, 42, 43, 44, 45, 46, 47, 48, 49, 50, 51, 52] (by decide +kernel) (by decide +kernel)
set_option maxRecDepth 20000 in
theorem gX7_completes_X7_isGood : GoodIn wsX7_completes (wsV RX7 87 RX7 yX7_isGood wsX7_isGood) := goodIn_app (goodIn_of _ (by decide +kernel)) ggX7_completes_X7_isGood
set_option maxRecDepth 20000 in
theorem ggX7_isNoneLeft_X7_completes : GoodIn wsX7_isNoneLeft wsX7_completes := goodIn_r _ [6, 7, 8, 9, 10, 11, 5, 12, 1, 13, 14, 15, 16, 17, 18, 19, 20, 21, 22, 23, 24, 25, 26, 27, 28, 29, 30, 31, 32, 33, 34, 35, 36, 37, 38, 39, 40, 41, 42, 43, 44, 45, 46, 47, 48, 49, 50, 51, 52, 53, 54, 55, 56] (by decide +kernel) (by decide +kernel)
set_option maxRecDepth 20000 in
theorem gX7_isNoneLeft_X7_completes : GoodIn wsX7_isNoneLeft (wsV RX7 91 RX7 yX7_completes wsX7_completes) := goodIn_app (goodIn_of _ (by decide +kernel)) ggX7_isNoneLeft_X7_completes
set_option maxRecDepth 20000 in
theorem ggX7_addFeature_X7_isNone : GoodIn wsX7_addFeature wsX7_isNone := goodIn_r _ [9, 1, 10, 11, 8, 12, 18, 19, 20, 21, 22, 23, 24, 25, 26, 27, 28, 29, 30, 31, 32, 33, 34, 35, 36, 37, 38, 39, 40, 41] (by decide +kernel) (by decide +kernel)
set_option maxRecDepth 20000 in
theorem gX7_addFeature_X7_isNone : GoodIn wsX7_addFeature (wsV RX7 94 RX7 yX7_isNone wsX7_isNone) := goodIn_app (goodIn_of _ (by decide +kernel)) ggX7_addFeature_X7_isNone
set_option maxRecDepth 20000 in
theorem ggX7_addFeature_X7_isThrown : GoodIn wsX7_addFeature wsX7_isThrown := goodIn_r _ [16, 17, 18, 19, 20, 21, 22, 23, 24, 25, 26, 27, 28, 29, 30, 31, 32, 33, 34, 35, 36, 37, 38, 39, 40, 41] (by decide +kernel) (by decide +kernel)
set_option maxRecDepth 20000 in
theorem gX7_addFeature_X7_isThrown : GoodIn wsX7_addFeature (wsV RX7 97 RX7 yX7_isThrown wsX7_isThrown) := goodIn_app (goodIn_of _ (by decide +kernel)) ggX7_addFeature_X7_isThrown
set_option maxRecDepth 20000 in
theorem ggX7_addFeature_X7_isIn : GoodIn wsX7_addFeature wsX7_isIn := goodIn_r _ [12] (by decide +kernel) (by decide +kernel)
set_option maxRecDepth 20000 in
theorem gX7_addFeature_X7_isIn : GoodIn wsX7_addFeature (va_wsS RX7 67 yX7_isIn wsX7_isIn) := goodIn_app (goodIn_of _ (by decide +kernel)) ggX7_addFeature_X7_isIn
set_option maxRecDepth 20000 in
theorem ggX7_setMandatory_X7_isNone : GoodIn wsX7_setMandatory wsX7_isNone := goodIn_r _ [6, 7, 8, 9, 5, 10, 46, 47, 48, 49, 50, 51, 52, 53, 54, 55, 56, 57, 58, 59, 60, 61, 62, 63, 64, 65, 66, 67, 68, 69] (by decide +kernel) (by decide +kernel)
set_option maxRecDepth 20000 in
theorem gX7_setMandatory_X7_isNone : GoodIn wsX7_setMandatory (wsV RX7 94 RX7 yX7_isNone wsX7_isNone) := goodIn_app (goodIn_of _ (by decide +kernel)) ggX7_setMandatory_X7_isNone
set_option maxRecDepth 20000 in
theorem ggX7_setMandatory_X7_isThrown : GoodIn wsX7_setMandatory wsX7_isThrown := goodIn_r _ [14, 15, 46, 47, 48, 49, 50, 51, 52, 53, 54, 55, 56, 57, 58, 59, 60, 61, 62, 63, 64, 65, 66, 67, 68, 69] (by decide +kernel) (by decide +kernel)
set_option maxRecDepth 20000 in
theorem gX7_setMandatory_X7_isThrown : GoodIn wsX7_setMandatory (wsV RX7 97 RX7 yX7_isThrown wsX7_isThrown) := goodIn_app (goodIn_of _ (by decide +kernel)) ggX7_setMandatory_X7_isThrown
set_option maxRecDepth 20000 in
theorem ggX7_setMandatory_X7_isNoneLeft : GoodIn wsX7_setMandatory wsX7_isNoneLeft := goodIn_r _ [19, 7, 20, 21, 22, 5, 23, 24, 25, 26, 27, 28, 29, 30, 1, 31, 32, 33, 34, 35, 36, 37, 8, 9, 10, 38, 39, 40, 41, 42, 43, 44, 45, 46, 47, 48, 49, 50, 51, 52, 53, 54, 55, 56, 57, 58, 59, 60, 61, 62, 63, 64, 65, 66, 67, 68, 69] (by decide +kernel) (by decide +kernel)
set_option maxRecDepth 20000 in
theorem gX7_setMandatory_X7_isNoneLeft : GoodIn wsX7_setMandatory (wsV RX7 101 RX7 yX7_isNoneLeft wsX7_isNoneLeft) := goodIn_app (goodIn_of _ (by decide +kernel)) ggX7_setMandatory_X7_isNoneLeft
set_option maxRecDepth 20000 in
theorem ggX7_setGroup_X7_isNone : GoodIn wsX7_setGroup wsX7_isNone := goodIn_r _ [9, 3, 10, 11, 8, 12, 46, 47, 48, 49, 50, 51, 52, 53, 54, 55, 56, 57, 58, 59, 60, 61, 62, 63, 64, 65, 66, 67, 68, 69] (by decide +kernel) (by decide +kernel)
set_option maxRecDepth 20000 in
theorem gX7_setGroup_X7_isNone : GoodIn wsX7_setGroup (wsV RX7 94 RX7 yX7_isNone wsX7_isNone) := goodIn_app (goodIn_of _ (by decide +kernel)) ggX7_setGroup_X7_isNone
set_option maxRecDepth 20000 in
theorem ggX7_setGroup_X7_isThrown : GoodIn wsX7_setGroup wsX7_isThrown := goodIn_r _ [16, 17, 46, 47, 48, 49, 50, 51, 52, 53, 54, 55, 56, 57, 58, 59, 60, 61, 62, 63, 64, 65, 66, 67, 68, 69] (by decide +kernel) (by decide +kernel)
set_option maxRecDepth 20000 in
theorem gX7_setGroup_X7_isThrown : GoodIn wsX7_setGroup (wsV RX7 97 RX7 yX7_isThrown wsX7_isThrown) := goodIn_app (goodIn_of _ (by decide +kernel)) ggX7_setGroup_X7_isThrown
set_option maxRecDepth 20000 in
theorem ggX7_setGroup_X7_isIn : GoodIn wsX7_setGroup wsX7_isIn := goodIn_r _ [12] (by decide +kernel) (by decide +kernel)
set_option maxRecDepth 20000 in
theorem gX7_setGroup_X7_isIn : GoodIn wsX7_setGroup (va_wsS RX7 67 yX7_isIn wsX7_isIn) := goodIn_app (goodIn_of _ (by decide +kernel)) ggX7_setGroup_X7_isIn
set_option maxRecDepth 20000 in
theorem ggX7_setGroup_X7_isNoneLeft : GoodIn wsX7_setGroup wsX7_isNoneLeft := goodIn_r _ [21, 3, 22, 23, 24, 8, 25, 26, 27, 28, 29, 30, 31, 4, 32, 1, 2, 33, 34, 35, 36, 37, 10, 11, 12, 38, 39, 40, 41, 42, 43, 44, 45, 46, 47, 48, 49, 50, 51, 52, 53, 54, 55, 56, 57, 58, 59, 60, 61, 62, 63, 64, 65, 66, 67, 68, 69] (by decide +kernel) (by decide +kernel)
set_option maxRecDepth 20000 in
theorem gX7_setGroup_X7_isNoneLeft : GoodIn wsX7_setGroup (wsV RX7 101 RX7 yX7_isNoneLeft wsX7_isNoneLeft) := goodIn_app (goodIn_of _ (by decide +kernel)) ggX7_setGroup_X7_isNoneLeft
set_option maxRecDepth 20000 in
theorem ggX7_adds_X7_isNone : GoodIn wsX7_adds wsX7_isNone := goodIn_r _ [11, 12, 13, 14, 10, 15, 46, 47, 48, 49, 50, 51, 52, 53, 54, 55, 56, 57, 58, 59, 60, 61, 62, 63, 64, 65, 66, 67, 68, 69] (by decide +kernel) (by decide +kernel)
set_option maxRecDepth 20000 in
theorem gX7_adds_X7_isNone : GoodIn wsX7_adds (wsV RX7 94 RX7 yX7_isNone wsX7_isNone) := goodIn_app (goodIn_of _ (by decide +kernel)) ggX7_adds_X7_isNone
set_option maxRecDepth 20000 in
theorem ggX7_adds_X7_isThrown : GoodIn wsX7_adds wsX7_isThrown := goodIn_r _ [19, 20, 46, 47, 48, 49, 50, 51, 52, 53, 54, 55, 56, 57, 58, 59, 60, 61, 62, 63, 64, 65, 66, 67, 68, 69] (by decide +kernel) (by decide +kernel)
set_option maxRecDepth 20000 in
theorem gX7_adds_X7_isThrown : GoodIn wsX7_adds (wsV RX7 97 RX7 yX7_isThrown wsX7_isThrown) := goodIn_app (goodIn_of _ (by decide +kernel)) ggX7_adds_X7_isThrown
set_option maxRecDepth 20000 in
theorem ggX7_adds_X7_isNoneLeft : GoodIn wsX7_adds wsX7_isNoneLeft := goodIn_r _ [24, 12, 25, 26, 27, 10, 28, 29, 30, 31, 32, 33, 34, 35, 36, 37, 38, 1, 6, 39, 40, 41, 13, 14, 15, 42, 43, 44, 45, 2, 3, 4, 5, 46, 47, 48, 49, 50, 51, 52, 53, 54, 55, 56, 57, 58, 59, 60, 61, 62, 63, 64, 65, 66, 67, 68, 69] (by decide +kernel) (by decide +kernel)
set_option maxRecDepth 20000 in
theorem gX7_adds_X7_isNoneLeft : GoodIn wsX7_adds (wsV RX7 101 RX7 yX7_isNoneLeft wsX7_isNoneLeft) := goodIn_app (goodIn_of _ (by decide +kernel)) ggX7_adds_X7_isNoneLeft
set_option maxRecDepth 20000 in
theorem ggX7_require_X7_adds : GoodIn wsX7_require wsX7_adds := goodIn_r _ [5, 6, 7, 8, 9, 10, 11, 12, 13, 14, 4, 15, 16, 17, 18, 19, 20, 21, 22, 23, 24, 25, 26, 27, 28, 29, 30, 31, 32, 33, 34, 35, 36, 37, 38, 39, 40, 41, 42, 43, 44, 45, 46, 47, 48, 49, 50, 51, 52, 53, 54, 55, 56, 57, 58, 59, 60, 61, 62, 63, 64, 65, 66, 67, 68, 69, 70, 71, 72, 73] (by decide +kernel) (by decide +kernel)
set_option maxRecDepth 20000 in
theorem gX7_require_X7_adds : GoodIn wsX7_require (wsV RX7 105 RX7 yX7_adds wsX7_adds) := goodIn_app (goodIn_of _ (by decide +kernel)) ggX7_require_X7_adds
set_option maxRecDepth 20000 in
theorem ggX7_exclude_X7_adds : GoodIn wsX7_exclude wsX7_adds := goodIn_r _ [5, 6, 7, 8, 9, 10, 11, 12, 13, 14, 4, 15, 16, 17, 18, 19, 20, 21, 22, 23, 24, 25, 26, 27, 28, 29, 30, 31, 32, 33, 34, 35, 36, 37, 38, 39, 40, 41, 42, 43, 44, 45, 46, 47, 48, 49, 50, 51, 52, 53, 54, 55, 56, 57, 58, 59, 60, 61, 62, 63, 64, 65, 66, 67, 68, 69, 70, 71, 72, 73] (by decide +kernel) (by decide +kernel)
set_option maxRecDepth 20000 in
theorem gX7_exclude_X7_adds : GoodIn wsX7_exclude (wsV RX7 105 RX7 yX7_adds wsX7_adds) := goodIn_app (goodIn_of _ (by decide +kernel)) ggX7_exclude_X7_adds
set_option maxRecDepth 20000 in
theorem ggX7_any_X7_adds : GoodIn wsX7_any wsX7_adds := goodIn_r _ [5, 6, 7, 8, 9, 10, 11, 12, 13, 14, 4, 15, 16, 17, 18, 19, 20, 21, 22, 23, 24, 25, 26, 27, 28, 29, 30, 31, 32, 33, 34, 35, 36, 37, 38, 39, 40, 41, 42, 43, 44, 45, 46, 47, 48, 49, 50, 51, 52, 53, 54, 55, 56, 57, 58, 59, 60, 61, 62, 63, 64, 65, 66, 67, 68, 69, 70, 71, 72, 73] (by decide +kernel) (by decide +kernel)
set_option maxRecDepth 20000 in
theorem gX7_any_X7_adds : GoodIn wsX7_any (wsV RX7 105 RX7 yX7_adds wsX7_adds) := goodIn_app (goodIn_of _ (by decide +kernel)) ggX7_any_X7_adds
set_option maxRecDepth 20000 in
theorem ggX7_lift_X7_isIn : GoodIn wsX7_lift wsX7_isIn := goodIn_r _ [6] (by decide +kernel) (by decide +kernel)
set_option maxRecDepth 20000 in
theorem gX7_lift_X7_isIn : GoodIn wsX7_lift (va_wsS RX7 67 yX7_isIn wsX7_isIn) := goodIn_app (goodIn_of _ (by decide +kernel)) ggX7_lift_X7_isIn
set_option maxRecDepth 20000 in
theorem ggX7_lift_X7_isThrown : GoodIn wsX7_lift wsX7_isThrown := goodIn_r _ [10, 11, 12, 13, 14, 15, 16, 17, 18, 19, 20, 21, 22, 23, 24, 25, 26, 27, 28, 29, 30, 31, 32, 33, 34, 35] (by decide +kernel) (by decide +kernel)
set_option maxRecDepth 20000 in
theorem gX7_lift_X7_isThrown : GoodIn wsX7_lift (wsV RX7 97 RX7 yX7_isThrown wsX7_isThrown) := goodIn_app (goodIn_of _ (by decide +kernel)) ggX7_lift_X7_isThrown
set_option maxRecDepth 20000 in
theorem ggX7_isDecided_X7_has : GoodIn wsX7_isDecided wsX7_has := goodIn_r _ [6] (by decide +kernel) (by decide +kernel)
set_option maxRecDepth 20000 in
theorem gX7_isDecided_X7_has : GoodIn wsX7_isDecided (va_wsS RX7 71 yX7_has wsX7_has) := goodIn_app (goodIn_of _ (by decide +kernel)) ggX7_isDecided_X7_has
set_option maxRecDepth 20000 in
theorem ggX7_decides_X7_isNone : GoodIn wsX7_decides wsX7_isNone := goodIn_r _ [7, 8, 9, 10, 6, 11, 89, 90, 91, 92, 93, 94, 95, 96, 97, 98, 99, 100, 101, 102, 103, 104, 105, 106, 107, 108, 109, 110, 111, 112] (by decide +kernel) (by decide +kernel)
set_option maxRecDepth 20000 in
theorem gX7_decides_X7_isNone : GoodIn wsX7_decides (wsV RX7 94 RX7 yX7_isNone wsX7_isNone) := goodIn_app (goodIn_of _ (by decide +kernel)) ggX7_decides_X7_isNone
set_option maxRecDepth 20000 in
theorem ggX7_decides_X7_isThrown : GoodIn wsX7_decides wsX7_isThrown := goodIn_r _ [15, 16, 89, 90, 91, 92, 93, 94, 95, 96, 97, 98, 99, 100, 101, 102, 103, 104, 105, 106, 107, 108, 109, 110, 111, 112] (by decide +kernel) (by decide +kernel)
set_option maxRecDepth 20000 in
theorem gX7_decides_X7_isThrown : GoodIn wsX7_decides (wsV RX7 97 RX7 yX7_isThrown wsX7_isThrown) := goodIn_app (goodIn_of _ (by decide +kernel)) ggX7_decides_X7_isThrown
set_option maxRecDepth 20000 in
theorem ggX7_decides_X7_isDecided : GoodIn wsX7_decides wsX7_isDecided := goodIn_r _ [20, 1, 2, 21, 22, 6, 23, 89, 90, 91, 92, 93, 94, 95, 96, 97, 98, 99, 100, 101, 102, 103, 104, 105, 106, 107, 108, 109, 110, 111, 112] (by decide +kernel) (by decide +kernel)
set_option maxRecDepth 20000 in
theorem gX7_decides_X7_isDecided : GoodIn wsX7_decides (wsV RX7 109 RX7 yX7_isDecided wsX7_isDecided) := goodIn_app (goodIn_of _ (by decide +kernel)) ggX7_decides_X7_isDecided

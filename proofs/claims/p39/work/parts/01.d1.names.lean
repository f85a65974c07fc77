set_option maxRecDepth 20000 in
theorem ggX6_refuse_X4_reaches : GoodIn wsX6_refuse wsX4_reaches := goodIn_r _ [31, 32, 33, 30, 34, 27, 10, 28, 35, 36, 37, 38, 39, 40, 41, 42, 43, 44, 45, 46, 47, 48, 49, 50, 51, 52, 53, 54, 55, 56, 57, 58, 59, 60, 61, 62, 63, 29, 64, 65, 66, 67, 68, 69, 70, 128, 129, 130, 131, 132, 133, 134, 135, 136, 137, 138] (by decide +kernel) (by decide +kernel)
set_option maxRecDepth 20000 in
theorem gX6_refuse_X4_reaches_n141 : GoodIn wsX6_refuse (wsX4_reaches) := ggX6_refuse_X4_reaches
set_option maxRecDepth 20000 in
theorem ggX6_refuse_X6_countUnknown : GoodIn wsX6_refuse wsX6_countUnknown := goodIn_r _ [74, 3, 75, 76, 77, 78, 10, 79, 4, 5, 6, 80, 81, 82, 83, 84, 85, 86, 27, 28, 87, 88, 89, 90, 91, 92, 93, 94, 95, 96, 97, 98, 99, 100, 101, 102, 103, 104, 105, 106, 107, 44, 45, 46, 47, 48, 49, 108, 109, 110, 111, 112, 113, 114, 115, 116, 117, 51, 118, 119, 54, 61, 62, 56, 120, 121, 122, 123, 124, 125, 126, 127, 128, 129, 130, 131, 132, 133, 139, 140, 141, 142, 134, 135, 136, 137, 138] (by decide +kernel) (by decide +kernel)
set_option maxRecDepth 20000 in
theorem gX6_refuse_X6_countUnknown : GoodIn wsX6_refuse (wsV RX6 147 RX6 yX6_countUnknown wsX6_countUnknown) := goodIn_app (goodIn_of _ (by decide +kernel)) ggX6_refuse_X6_countUnknown
set_option maxRecDepth 20000 in
theorem ggX6_retract_X6_checkFeature : GoodIn wsX6_retract wsX6_checkFeature := goodIn_ca (goodIn_r _ [9, 10, 11, 12, 20, 21, 22, 23, 24, 25, 26, 27, 28, 29, 30, 31, 32] (by decide +kernel) (by decide +kernel)) (goodIn_sub (fun _ h => List.mem_cons_of_mem _ (List.mem_append_right _ h)) (by decide +kernel))
set_option maxRecDepth 20000 in
theorem gX6_retract_X6_checkFeature : GoodIn wsX6_retract (wsV RX6 44 RX6 yX6_checkFeature wsX6_checkFeature) := goodIn_app (goodIn_of _ (by decide +kernel)) ggX6_retract_X6_checkFeature
set_option maxRecDepth 20000 in
theorem ggX6_retract_X6_has : GoodIn wsX6_retract wsX6_has := goodIn_r _ [15] (by decide +kernel) (by decide +kernel)
set_option maxRecDepth 20000 in
theorem gX6_retract_X6_has : GoodIn wsX6_retract (va_wsS RX6 87 yX6_has wsX6_has) := goodIn_app (goodIn_of _ (by decide +kernel)) ggX6_retract_X6_has
set_option maxRecDepth 20000 in
theorem ggX6_retract_X6_takeBack : GoodIn wsX6_retract wsX6_takeBack := goodIn_r _ [19, 3, 4, 20, 21, 22, 23, 24, 25, 26] (by decide +kernel) (by decide +kernel)
set_option maxRecDepth 20000 in
theorem gX6_retract_X6_takeBack : GoodIn wsX6_retract (wsV RX6 153 RX6 yX6_takeBack wsX6_takeBack) := goodIn_app (goodIn_of _ (by decide +kernel)) ggX6_retract_X6_takeBack
set_option maxRecDepth 20000 in
theorem ggX6_retractAll_X6_takeBack : GoodIn wsX6_retractAll wsX6_takeBack := goodIn_r _ [7, 1, 2, 15, 16, 17, 18, 19, 20, 21] (by decide +kernel) (by decide +kernel)
set_option maxRecDepth 20000 in
theorem gX6_retractAll_X6_takeBack : GoodIn wsX6_retractAll (wsV RX6 153 RX6 yX6_takeBack wsX6_takeBack) := goodIn_app (goodIn_of _ (by decide +kernel)) ggX6_retractAll_X6_takeBack
set_option maxRecDepth 20000 in
theorem ggX6_retractAll_J6_bitCount_0f7a4 : GoodIn wsX6_retractAll wsJ6_bitCount_0f7a4 := goodIn_r _ [11, 12, 13, 14] (by decide +kernel) (by decide +kernel)
set_option maxRecDepth 20000 in
theorem gX6_retractAll_J6_bitCount_0f7a4 : GoodIn wsX6_retractAll (va_wsS RX6 103 yJ6_bitCount_0f7a4 wsJ6_bitCount_0f7a4) := goodIn_app (goodIn_of _ (by decide +kernel)) ggX6_retractAll_J6_bitCount_0f7a4
set_option maxRecDepth 20000 in
theorem ggX6_stateOf_X6_checkFeature : GoodIn wsX6_stateOf wsX6_checkFeature := goodIn_ca (goodIn_r _ [9, 10, 11, 1, 61, 62, 63, 64, 65, 66, 67, 68, 69, 70, 71, 72, 73] (by decide +kernel) (by decide +kernel)) (goodIn_sub (fun _ h => List.mem_cons_of_mem _ (List.mem_append_right _ h)) (by decide +kernel))
set_option maxRecDepth 20000 in
theorem gX6_stateOf_X6_checkFeature : GoodIn wsX6_stateOf (wsV RX6 44 RX6 yX6_checkFeature wsX6_checkFeature) := goodIn_app (goodIn_of _ (by decide +kernel)) ggX6_stateOf_X6_checkFeature
set_option maxRecDepth 20000 in
theorem ggX6_stateOf_X4_reaches : GoodIn wsX6_stateOf wsX4_reaches := goodIn_r _ [14, 15, 16, 13, 17, 18, 8, 19, 20, 21, 22, 23, 24, 25, 26, 27, 28, 29, 30, 31, 32, 33, 34, 35, 36, 37, 38, 39, 40, 41, 42, 43, 44, 45, 46, 47, 48, 12, 49, 50, 51, 52, 53, 54, 55, 68, 69, 70, 71, 72, 73, 74, 75, 76, 77, 78] (by decide +kernel) (by decide +kernel)
set_option maxRecDepth 20000 in
theorem gX6_stateOf_X4_reaches_n141 : GoodIn wsX6_stateOf (wsX4_reaches) := ggX6_stateOf_X4_reaches
set_option maxRecDepth 20000 in
theorem ggX6_stateOf_X6_stateLetter : GoodIn wsX6_stateOf wsX6_stateLetter := goodIn_r _ [59, 3, 4, 60, 18, 8, 19, 61, 62, 63, 64, 65, 66, 67] (by decide +kernel) (by decide +kernel)
set_option maxRecDepth 20000 in
theorem gX6_stateOf_X6_stateLetter : GoodIn wsX6_stateOf (wsV RX6 156 RX6 yX6_stateLetter wsX6_stateLetter) := goodIn_app (goodIn_of _ (by decide +kernel)) ggX6_stateOf_X6_stateLetter
set_option maxRecDepth 20000 in
theorem ggX6_stateByAll_X6_checkFeature : GoodIn wsX6_stateByAll wsX6_checkFeature := goodIn_ca (goodIn_r _ [5, 6, 7, 8, 71, 72, 73, 74, 75, 76, 77, 78, 79, 80, 81, 82, 83] (by decide +kernel) (by decide +kernel)) (goodIn_sub (fun _ h => List.mem_cons_of_mem _ (List.mem_append_right _ h)) (by decide +kernel))
set_option maxRecDepth 20000 in
theorem gX6_stateByAll_X6_checkFeature : GoodIn wsX6_stateByAll (wsV RX6 44 RX6 yX6_checkFeature wsX6_checkFeature) := goodIn_app (goodIn_of _ (by decide +kernel)) ggX6_stateByAll_X6_checkFeature
set_option maxRecDepth 20000 in
theorem ggX6_stateByAll_X6_featuresInSome : GoodIn wsX6_stateByAll wsX6_featuresInSome := goodIn_r _ [12, 8, 13, 14, 15, 16, 17, 18, 19, 20, 4, 21, 22, 23, 24, 25, 26, 27, 28, 29, 30, 31, 32, 33, 34, 35, 36, 37, 38, 39, 40, 41, 42, 43, 44, 45, 46, 47, 48, 49, 50, 51, 52, 53, 54, 55, 56, 57, 58, 59, 60, 61, 71, 72, 73, 74, 75, 76, 77, 78, 79, 80, 81, 82, 83, 84, 85, 86, 87, 88] (by decide +kernel) (by decide +kernel)
set_option maxRecDepth 20000 in
theorem gX6_stateByAll_X6_featuresInSome : GoodIn wsX6_stateByAll (wsV RX6 160 RX6 yX6_featuresInSome wsX6_featuresInSome) := goodIn_app (goodIn_of _ (by decide +kernel)) ggX6_stateByAll_X6_featuresInSome
set_option maxRecDepth 20000 in
theorem ggX6_stateByAll_X6_has : GoodIn wsX6_stateByAll wsX6_has := goodIn_r _ [33] (by decide +kernel) (by decide +kernel)
set_option maxRecDepth 20000 in
theorem gX6_stateByAll_X6_has : GoodIn wsX6_stateByAll (va_wsS RX6 87 yX6_has wsX6_has) := goodIn_app (goodIn_of _ (by decide +kernel)) ggX6_stateByAll_X6_has
set_option maxRecDepth 20000 in
theorem ggX6_stateByAll_X6_featuresInAll : GoodIn wsX6_stateByAll wsX6_featuresInAll := goodIn_r _ [66, 8, 13, 14, 15, 16, 17, 18, 19, 20, 4, 21, 22, 23, 24, 25, 26, 27, 28, 29, 30, 31, 32, 33, 34, 35, 36, 37, 38, 39, 40, 41, 42, 43, 44, 45, 46, 47, 48, 49, 50, 51, 52, 53, 54, 55, 56, 57, 58, 59, 60, 61, 71, 72, 73, 74, 75, 76, 77, 78, 79, 80, 81, 82, 83, 84, 85, 86, 87, 88] (by decide +kernel) (by decide +kernel)
set_option maxRecDepth 20000 in
theorem gX6_stateByAll_X6_featuresInAll : GoodIn wsX6_stateByAll (wsV RX6 163 RX6 yX6_featuresInAll wsX6_featuresInAll) := goodIn_app (goodIn_of _ (by decide +kernel)) ggX6_stateByAll_X6_featuresInAll
set_option maxRecDepth 20000 in
theorem ggX6_stateByAll_X6_stateLetter : GoodIn wsX6_stateByAll wsX6_stateLetter := goodIn_r _ [70, 22, 23, 62, 32, 4, 33, 71, 72, 73, 74, 75, 76, 77] (by decide +kernel) (by decide +kernel)
set_option maxRecDepth 20000 in
theorem gX6_stateByAll_X6_stateLetter : GoodIn wsX6_stateByAll (wsV RX6 156 RX6 yX6_stateLetter wsX6_stateLetter) := goodIn_app (goodIn_of _ (by decide +kernel)) ggX6_stateByAll_X6_stateLetter
set_option maxRecDepth 20000 in
theorem ggX6_unknown_X6_countUnknown : GoodIn wsX6_unknown wsX6_countUnknown := goodIn_r _ [5, 6, 7, 8, 9, 10, 4, 11, 12, 13, 14, 15, 16, 17, 18, 19, 20, 21, 22, 23, 24, 25, 26, 27, 28, 29, 30, 31, 32, 33, 34, 35, 36, 37, 38, 39, 40, 41, 42, 43, 44, 45, 46, 47, 48, 49, 50, 51, 52, 53, 54, 55, 56, 57, 58, 59, 60, 61, 62, 63, 64, 65, 66, 67, 68, 69, 70, 71, 72, 73, 74, 75, 76, 77, 78, 79, 80, 81, 82, 83, 84, 85, 86, 87, 88, 89, 90] (by decide +kernel) (by decide +kernel)
set_option maxRecDepth 20000 in
theorem gX6_unknown_X6_countUnknown : GoodIn wsX6_unknown (wsV RX6 147 RX6 yX6_countUnknown wsX6_countUnknown) := goodIn_app (goodIn_of _ (by decide +kernel)) ggX6_unknown_X6_countUnknown
set_option maxRecDepth 20000 in
theorem ggX6_isConfiguration_X6_checkSet : GoodIn wsX6_isConfiguration wsX6_checkSet := goodIn_ca (goodIn_r _ [5, 6, 7, 8, 9, 10, 11, 12, 13, 52, 53, 54, 55, 56, 57, 58, 59, 60, 61, 62, 63, 64] (by decide +kernel) (by decide +kernel)) (goodIn_sub (fun _ h => List.mem_cons_of_mem _ (List.mem_append_right _ h)) (by decide +kernel))
set_option maxRecDepth 20000 in
theorem gX6_isConfiguration_X6_checkSet : GoodIn wsX6_isConfiguration (wsV RX6 190 RX6 yX6_checkSet wsX6_checkSet) := goodIn_app (goodIn_of _ (by decide +kernel)) ggX6_isConfiguration_X6_checkSet
set_option maxRecDepth 20000 in
theorem ggX6_isConfiguration_X6_isAllowed : GoodIn wsX6_isConfiguration wsX6_isAllowed := goodIn_r _ [17, 8, 18, 19, 10, 20, 21, 13, 22, 4, 23, 24, 25, 26, 27, 28, 29, 30, 31, 32, 33, 34, 35, 36, 37, 38, 39, 40, 41, 42, 43, 44, 45, 46, 47, 48, 49, 50, 51, 52, 53, 54, 55, 56, 57, 58, 59, 60, 61, 62, 63, 64, 65, 66, 67, 68, 69] (by decide +kernel) (by decide +kernel)
set_option maxRecDepth 20000 in
theorem gX6_isConfiguration_X6_isAllowed : GoodIn wsX6_isConfiguration (wsV RX6 193 RX6 yX6_isAllowed wsX6_isAllowed) := goodIn_app (goodIn_of _ (by decide +kernel)) ggX6_isConfiguration_X6_isAllowed
set_option maxRecDepth 20000 in
theorem ggX6_completions_X4_countFrom : GoodIn wsX6_completions wsX4_countFrom := goodIn_r _ [7, 8, 9, 6, 10, 11, 12, 13, 14, 15, 16, 17, 18, 19, 20, 21, 22, 23, 24, 25, 26, 27, 28, 29, 30, 31, 32, 33, 34, 35, 36, 37, 38, 39, 40, 41, 42, 5, 43, 44, 45, 46, 47, 48, 49, 57, 58, 59, 60, 61, 62, 63, 64, 65, 66, 67] (by decide +kernel) (by decide +kernel)
set_option maxRecDepth 20000 in
theorem gX6_completions_X4_countFrom_n196 : GoodIn wsX6_completions (wsX4_countFrom) := ggX6_completions_X4_countFrom
set_option maxRecDepth 20000 in
theorem ggX6_completionsByAll_X5_allFeatures : GoodIn wsX6_completionsByAll wsX5_allFeatures := goodIn_r _ [5, 6, 59, 60, 61, 62, 63, 64] (by decide +kernel) (by decide +kernel)
set_option maxRecDepth 20000 in
theorem gX6_completionsByAll_X5_allFeatures_n200 : GoodIn wsX6_completionsByAll (wsX5_allFeatures) := ggX6_completionsByAll_X5_allFeatures
set_option maxRecDepth 20000 in
theorem ggX6_completionsByAll_X6_isCompletion : GoodIn wsX6_completionsByAll wsX6_isCompletion := goodIn_r _ [11, 12, 13, 14, 15, 16, 10, 17, 1, 18, 19, 3, 20, 21, 6, 22, 23, 24, 25, 26, 27, 28, 29, 30, 31, 32, 33, 34, 35, 36, 37, 38, 39, 40, 41, 42, 43, 44, 45, 46, 47, 48, 49, 50, 51, 52, 53, 54, 55, 56, 57, 58, 59, 60, 61, 62, 63, 64, 65, 66, 67, 68, 69] (by decide +kernel) (by decide +kernel)
set_option maxRecDepth 20000 in
theorem gX6_completionsByAll_X6_isCompletion : GoodIn wsX6_completionsByAll (wsV RX6 203 RX6 yX6_isCompletion wsX6_isCompletion) := goodIn_app (goodIn_of _ (by decide +kernel)) ggX6_completionsByAll_X6_isCompletion
set_option maxRecDepth 20000 in
theorem ggX6_checkDecidable_X6_checkFeature : GoodIn wsX6_checkDecidable wsX6_checkFeature := goodIn_ca (goodIn_r _ [9, 10, 11, 12, 22, 23, 24, 25, 26, 27, 28, 29, 30, 31, 32, 33, 34] (by decide +kernel) (by decide +kernel)) (goodIn_sub (fun _ h => List.mem_cons_of_mem _ (List.mem_append_left _ (List.mem_append_right _ h))) (by decide +kernel))
set_option maxRecDepth 20000 in
theorem gX6_checkDecidable_X6_checkFeature : GoodIn wsX6_checkDecidable (wsV RX6 44 RX6 yX6_checkFeature wsX6_checkFeature) := goodIn_app (goodIn_of _ (by decide +kernel)) ggX6_checkDecidable_X6_checkFeature
set_option maxRecDepth 20000 in
theorem ggX6_checkDecidable_X6_checkNotRoot : GoodIn wsX6_checkDecidable wsX6_checkNotRoot := goodIn_ca (goodIn_r _ [16, 17, 18] (by decide +kernel) (by decide +kernel)) (goodIn_sub (fun _ h => List.mem_cons_of_mem _ (List.mem_append_right _ h)) (by decide +kernel))
set_option maxRecDepth 20000 in
theorem gX6_checkDecidable_X6_checkNotRoot : GoodIn wsX6_checkDecidable (wsV RX6 72 RX6 yX6_checkNotRoot wsX6_checkNotRoot) := goodIn_app (goodIn_of _ (by decide +kernel)) ggX6_checkDecidable_X6_checkNotRoot
set_option maxRecDepth 20000 in
theorem ggX6_checkDecidable_X6_has : GoodIn wsX6_checkDecidable wsX6_has := goodIn_r _ [21] (by decide +kernel) (by decide +kernel)
set_option maxRecDepth 20000 in
theorem gX6_checkDecidable_X6_has : GoodIn wsX6_checkDecidable (va_wsS RX6 87 yX6_has wsX6_has) := goodIn_app (goodIn_of _ (by decide +kernel)) ggX6_checkDecidable_X6_has
set_option maxRecDepth 20000 in
theorem ggX6_checkSet_X5_allFeatures : GoodIn wsX6_checkSet wsX5_allFeatures := goodIn_r _ [7, 8, 16, 17, 18, 19, 20, 21] (by decide +kernel) (by decide +kernel)
set_option maxRecDepth 20000 in
theorem gX6_checkSet_X5_allFeatures_n200 : GoodIn wsX6_checkSet (wsX5_allFeatures) := ggX6_checkSet_X5_allFeatures
set_option maxRecDepth 20000 in
theorem ggX6_stateLetter_X6_has : GoodIn wsX6_stateLetter wsX6_has := goodIn_r _ [6] (by decide +kernel) (by decide +kernel)
set_option maxRecDepth 20000 in
theorem gX6_stateLetter_X6_has : GoodIn wsX6_stateLetter (va_wsS RX6 87 yX6_has wsX6_has) := goodIn_app (goodIn_of _ (by decide +kernel)) ggX6_stateLetter_X6_has
set_option maxRecDepth 20000 in
theorem ggX6_hasCompletion_X4_reaches : GoodIn wsX6_hasCompletion wsX4_reaches := goodIn_r _ [7, 8, 9, 6, 10, 11, 12, 13, 14, 15, 16, 17, 18, 19, 20, 21, 22, 23, 24, 25, 26, 27, 28, 29, 30, 31, 32, 33, 34, 35, 36, 37, 38, 39, 40, 41, 42, 5, 43, 44, 45, 46, 47, 48, 49, 57, 58, 59, 60, 61, 62, 63, 64, 65, 66, 67] (by decide +kernel) (by decide +kernel)
set_option maxRecDepth 20000 in
theorem gX6_hasCompletion_X4_reaches_n141 : GoodIn wsX6_hasCompletion (wsX4_reaches) := ggX6_hasCompletion_X4_reaches
set_option maxRecDepth 20000 in
theorem ggX6_isAllowed_X5_allows : GoodIn wsX6_isAllowed wsX5_allows := goodIn_r _ [6, 7, 8, 9, 10, 11, 12, 13, 4, 14, 15, 16, 17, 18, 19, 20, 21, 22, 23, 24, 25, 26, 46, 47, 48, 49, 50, 51] (by decide +kernel) (by decide +kernel)
set_option maxRecDepth 20000 in
theorem gX6_isAllowed_X5_allows_n277 : GoodIn wsX6_isAllowed (wsX5_allows) := ggX6_isAllowed_X5_allows
set_option maxRecDepth 20000 in
theorem ggX6_isAllowed_X3_holdFor : GoodIn wsX6_isAllowed wsX3_holdFor := goodIn_r _ [30, 31, 32, 8, 9, 10, 33, 34, 35, 28, 36, 37, 38, 52, 53, 54, 55, 56] (by decide +kernel) (by decide +kernel)
set_option maxRecDepth 20000 in
theorem gX6_isAllowed_X3_holdFor_n280 : GoodIn wsX6_isAllowed (wsX3_holdFor) := ggX6_isAllowed_X3_holdFor
set_option maxRecDepth 20000 in
theorem ggX6_isCompletion_X6_isAllowed : GoodIn wsX6_isCompletion wsX6_isAllowed := goodIn_r _ [7, 8, 9, 10, 11, 12, 13, 14, 15, 6, 16, 17, 18, 19, 20, 21, 22, 23, 24, 25, 26, 27, 28, 29, 30, 31, 32, 33, 34, 35, 36, 37, 38, 39, 40, 41, 42, 43, 44, 45, 46, 47, 48, 49, 50, 51, 52, 53, 54, 55, 56, 57, 58, 59, 60, 61, 62] (by decide +kernel) (by decide +kernel)
set_option maxRecDepth 20000 in
theorem gX6_isCompletion_X6_isAllowed : GoodIn wsX6_isCompletion (wsV RX6 193 RX6 yX6_isAllowed wsX6_isAllowed) := goodIn_app (goodIn_of _ (by decide +kernel)) ggX6_isCompletion_X6_isAllowed
set_option maxRecDepth 20000 in
theorem ggX6_featuresInAll_X5_allFeatures : GoodIn wsX6_featuresInAll wsX5_allFeatures := goodIn_r _ [5, 6, 59, 60, 61, 62, 63, 64] (by decide +kernel) (by decide +kernel)
set_option maxRecDepth 20000 in
theorem gX6_featuresInAll_X5_allFeatures_n200 : GoodIn wsX6_featuresInAll (wsX5_allFeatures) := ggX6_featuresInAll_X5_allFeatures
set_option maxRecDepth 20000 in
theorem ggX6_featuresInAll_X6_isCompletion : GoodIn wsX6_featuresInAll wsX6_isCompletion := goodIn_r _ [11, 12, 13, 14, 15, 16, 10, 17, 1, 18, 19, 3, 20, 21, 6, 22, 23, 24, 25, 26, 27, 28, 29, 30, 31, 32, 33, 34, 35, 36, 37, 38, 39, 40, 41, 42, 43, 44, 45, 46, 47, 48, 49, 50, 51, 52, 53, 54, 55, 56, 57, 58, 59, 60, 61, 62, 63, 64, 65, 66, 67, 68, 69] (by decide +kernel) (by decide +kernel)
set_option maxRecDepth 20000 in
theorem gX6_featuresInAll_X6_isCompletion : GoodIn wsX6_featuresInAll (wsV RX6 203 RX6 yX6_isCompletion wsX6_isCompletion) := goodIn_app (goodIn_of _ (by decide +kernel)) ggX6_featuresInAll_X6_isCompletion
set_option maxRecDepth 20000 in
theorem ggX6_featuresInSome_X5_allFeatures : GoodIn wsX6_featuresInSome wsX5_allFeatures := goodIn_r _ [5, 6, 59, 60, 61, 62, 63, 64] (by decide +kernel) (by decide +kernel)
set_option maxRecDepth 20000 in
theorem gX6_featuresInSome_X5_allFeatures_n200 : GoodIn wsX6_featuresInSome (wsX5_allFeatures) := ggX6_featuresInSome_X5_allFeatures
set_option maxRecDepth 20000 in
theorem ggX6_featuresInSome_X6_isCompletion : GoodIn wsX6_featuresInSome wsX6_isCompletion := goodIn_r _ [11, 12, 13, 14, 15, 16, 10, 17, 1, 18, 19, 3, 20, 21, 6, 22, 23, 24, 25, 26, 27, 28, 29, 30, 31, 32, 33, 34, 35, 36, 37, 38, 39, 40, 41, 42, 43, 44, 45, 46, 47, 48, 49, 50, 51, 52, 53, 54, 55, 56, 57, 58, 59, 60, 61, 62, 63, 64, 65, 66, 67, 68, 69] (by decide +kernel) (by decide +kernel)
set_option maxRecDepth 20000 in
theorem gX6_featuresInSome_X6_isCompletion : GoodIn wsX6_featuresInSome (wsV RX6 203 RX6 yX6_isCompletion wsX6_isCompletion) := goodIn_app (goodIn_of _ (by decide +kernel)) ggX6_featuresInSome_X6_isCompletion
set_option maxRecDepth 20000 in
theorem ggX6_addRule_X3_append : GoodIn wsX6_addRule wsX3_append := goodIn_r _ [9, 10, 11, 12, 13, 14, 68, 69, 70, 71, 72] (by decide +kernel) (by decide +kernel)
set_option maxRecDepth 20000 in
theorem gX6_addRule_X3_append_n285 : GoodIn wsX6_addRule (wsX3_append) := ggX6_addRule_X3_append
set_option maxRecDepth 20000 in
theorem ggX6_addRule_X6_hasCompletion : GoodIn wsX6_addRule wsX6_hasCompletion := goodIn_r _ [19, 20, 5, 21, 22, 23, 24, 25, 26, 27, 28, 29, 18, 30, 31, 32, 33, 34, 35, 36, 37, 38, 39, 40, 41, 42, 43, 44, 45, 46, 7, 47, 48, 10, 13, 14, 49, 50, 51, 52, 11, 12, 53, 54, 55, 56, 57, 58, 59, 60, 61, 62, 63, 64, 65, 66, 67, 73, 74, 75, 76, 77, 78, 68, 69, 70, 71, 72] (by decide +kernel) (by decide +kernel)
set_option maxRecDepth 20000 in
theorem gX6_addRule_X6_hasCompletion : GoodIn wsX6_addRule (wsV RX6 78 RX6 yX6_hasCompletion wsX6_hasCompletion) := goodIn_app (goodIn_of _ (by decide +kernel)) ggX6_addRule_X6_hasCompletion
set_option maxRecDepth 20000 in
theorem ggX6_deduce_X0_run : GoodIn wsX6_deduce wsX0_run := goodIn_r _ [9, 10, 11, 12, 13, 14, 15, 16, 17, 18, 7, 19, 20, 21, 22, 23, 24, 25, 26, 27, 28, 29, 30, 31, 32, 33, 34, 35, 36, 37, 38, 39, 40, 41, 42, 43, 44, 45, 46, 47, 48, 49, 50, 51, 52, 53, 54, 55, 56, 57, 58, 59, 67, 68, 69, 70, 71, 72, 73, 74, 75, 76, 77, 78, 79, 80, 81] (by decide +kernel) (by decide +kernel)
set_option maxRecDepth 20000 in
theorem gX6_deduce_X0_run_n296 : GoodIn wsX6_deduce (wsX0_run) := ggX6_deduce_X0_run
set_option maxRecDepth 20000 in
theorem ggX6_countUnknown_X6_deduce : GoodIn wsX6_countUnknown wsX6_deduce := goodIn_r _ [7, 2, 1, 8, 9, 10, 11, 12, 13, 14, 15, 16, 17, 18, 6, 19, 20, 21, 22, 23, 24, 25, 26, 27, 28, 29, 30, 31, 32, 33, 34, 35, 36, 37, 38, 39, 40, 41, 42, 43, 44, 45, 46, 47, 48, 49, 50, 51, 52, 53, 54, 55, 56, 57, 58, 59, 60, 61, 62, 63, 65, 66, 67, 68, 69, 70, 71, 78, 79, 80, 81, 72, 73, 74, 75, 76, 77, 82, 83, 84, 85, 86] (by decide +kernel) (by decide +kernel)
set_option maxRecDepth 20000 in
theorem gX6_countUnknown_X6_deduce : GoodIn wsX6_countUnknown (wsV RX6 166 RX6 yX6_deduce wsX6_deduce) := goodIn_app (goodIn_of _ (by decide +kernel)) ggX6_countUnknown_X6_deduce
set_option maxRecDepth 20000 in
theorem ggX6_countUnknown_J6_bitCount_0f7a4 : GoodIn wsX6_countUnknown wsJ6_bitCount_0f7a4 := goodIn_r _ [43, 44, 45, 46] (by decide +kernel) (by decide +kernel)
set_option maxRecDepth 20000 in
theorem gX6_countUnknown_J6_bitCount_0f7a4 : GoodIn wsX6_countUnknown (va_wsS RX6 103 yJ6_bitCount_0f7a4 wsJ6_bitCount_0f7a4) := goodIn_app (goodIn_of _ (by decide +kernel)) ggX6_countUnknown_J6_bitCount_0f7a4

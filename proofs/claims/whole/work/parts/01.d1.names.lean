set_option maxRecDepth 20000 in
theorem ggX6_require_X6_checkDifferent : GoodIn wsX6_require wsX6_checkDifferent := goodIn_ca (goodIn_r _ [16, 17, 18] (by decide +kernel) (by decide +kernel)) (goodIn_sub (fun _ h => List.mem_cons_of_mem _ (List.mem_append_left _ (List.mem_append_left _ (List.mem_append_right _ h)))) (by decide +kernel))
set_option maxRecDepth 20000 in
theorem gX6_require_X6_checkDifferent : GoodIn wsX6_require (wsV RX6 108 RX6 yX6_checkDifferent wsX6_checkDifferent) := goodIn_app (goodIn_of _ (by decide +kernel)) ggX6_require_X6_checkDifferent
set_option maxRecDepth 20000 in
theorem ggX6_require_X6_addRule : GoodIn wsX6_require wsX6_addRule := goodIn_ca (goodIn_ca (goodIn_r _ [22, 23, 24, 25, 26, 27, 28, 29, 30, 31, 32, 33, 34, 35, 36, 37, 38, 39, 8, 40, 12, 41, 42, 43, 44, 45, 46, 47, 48, 49, 50, 51, 52, 53, 54, 55, 56, 57, 58, 59, 60, 61, 62, 63, 64, 65, 66, 67, 68, 69, 70, 71, 72, 73, 74, 75, 76, 77, 78, 79, 80, 81, 82, 83, 84, 85, 86, 87, 94, 95, 96, 97, 98, 88, 89, 90, 91, 92, 93] (by decide +kernel) (by decide +kernel)) (goodIn_sub (fun _ h => List.mem_cons_of_mem _ (List.mem_append_left _ (List.mem_append_right _ h))) (by decide +kernel))) (goodIn_sub (fun _ h => List.mem_cons_of_mem _ (List.mem_append_right _ h)) (by decide +kernel))
set_option maxRecDepth 20000 in
theorem gX6_require_X6_addRule : GoodIn wsX6_require (wsV RX6 117 RX6 yX6_addRule wsX6_addRule) := goodIn_app (goodIn_of _ (by decide +kernel)) ggX6_require_X6_addRule
set_option maxRecDepth 20000 in
theorem ggX6_exclude_X6_checkFeature : GoodIn wsX6_exclude wsX6_checkFeature := goodIn_ca (goodIn_r _ [9, 10, 11, 12, 81, 82, 83, 84, 85, 86, 87, 88, 89, 90, 91, 92, 93] (by decide +kernel) (by decide +kernel)) (goodIn_sub (fun _ h => List.mem_cons_of_mem _ (List.mem_append_left _ (List.mem_append_left _ (List.mem_append_left _ (List.mem_append_right _ h))))) (by decide +kernel))
set_option maxRecDepth 20000 in
theorem gX6_exclude_X6_checkFeature : GoodIn wsX6_exclude (wsV RX6 44 RX6 yX6_checkFeature wsX6_checkFeature) := goodIn_app (goodIn_of _ (by decide +kernel)) ggX6_exclude_X6_checkFeature
set_option maxRecDepth 20000 in
theorem ggX6_exclude_X6_checkDifferent : GoodIn wsX6_exclude wsX6_checkDifferent := goodIn_ca (goodIn_r _ [16, 17, 18] (by decide +kernel) (by decide +kernel)) (goodIn_sub (fun _ h => List.mem_cons_of_mem _ (List.mem_append_left _ (List.mem_append_left _ (List.mem_append_right _ h)))) (by decide +kernel))
set_option maxRecDepth 20000 in
theorem gX6_exclude_X6_checkDifferent : GoodIn wsX6_exclude (wsV RX6 108 RX6 yX6_checkDifferent wsX6_checkDifferent) := goodIn_app (goodIn_of _ (by decide +kernel)) ggX6_exclude_X6_checkDifferent
set_option maxRecDepth 20000 in
theorem ggX6_exclude_X6_addRule : GoodIn wsX6_exclude wsX6_addRule := goodIn_ca (goodIn_ca (goodIn_r _ [22, 23, 24, 25, 26, 27, 28, 29, 30, 31, 32, 33, 34, 35, 36, 37, 38, 39, 8, 40, 12, 41, 42, 43, 44, 45, 46, 47, 48, 49, 50, 51, 52, 53, 54, 55, 56, 57, 58, 59, 60, 61, 62, 63, 64, 65, 66, 67, 68, 69, 70, 71, 72, 73, 74, 75, 76, 77, 78, 79, 80, 81, 82, 83, 84, 85, 86, 87, 94, 95, 96, 97, 98, 88, 89, 90, 91, 92, 93] (by decide +kernel) (by decide +kernel)) (goodIn_sub (fun _ h => List.mem_cons_of_mem _ (List.mem_append_left _ (List.mem_append_right _ h))) (by decide +kernel))) (goodIn_sub (fun _ h => List.mem_cons_of_mem _ (List.mem_append_right _ h)) (by decide +kernel))
set_option maxRecDepth 20000 in
theorem gX6_exclude_X6_addRule : GoodIn wsX6_exclude (wsV RX6 117 RX6 yX6_addRule wsX6_addRule) := goodIn_app (goodIn_of _ (by decide +kernel)) ggX6_exclude_X6_addRule
set_option maxRecDepth 20000 in
theorem ggX6_any_X6_checkFeature : GoodIn wsX6_any wsX6_checkFeature := goodIn_ca (goodIn_r _ [9, 10, 11, 12, 81, 82, 83, 84, 85, 86, 87, 88, 89, 90, 91, 92, 93] (by decide +kernel) (by decide +kernel)) (goodIn_sub (fun _ h => List.mem_cons_of_mem _ (List.mem_append_left _ (List.mem_append_left _ (List.mem_append_left _ (List.mem_append_right _ h))))) (by decide +kernel))
set_option maxRecDepth 20000 in
theorem gX6_any_X6_checkFeature : GoodIn wsX6_any (wsV RX6 44 RX6 yX6_checkFeature wsX6_checkFeature) := goodIn_app (goodIn_of _ (by decide +kernel)) ggX6_any_X6_checkFeature
set_option maxRecDepth 20000 in
theorem ggX6_any_X6_checkDifferent : GoodIn wsX6_any wsX6_checkDifferent := goodIn_ca (goodIn_r _ [16, 17, 18] (by decide +kernel) (by decide +kernel)) (goodIn_sub (fun _ h => List.mem_cons_of_mem _ (List.mem_append_left _ (List.mem_append_left _ (List.mem_append_right _ h)))) (by decide +kernel))
set_option maxRecDepth 20000 in
theorem gX6_any_X6_checkDifferent : GoodIn wsX6_any (wsV RX6 108 RX6 yX6_checkDifferent wsX6_checkDifferent) := goodIn_app (goodIn_of _ (by decide +kernel)) ggX6_any_X6_checkDifferent
set_option maxRecDepth 20000 in
theorem ggX6_any_X6_addRule : GoodIn wsX6_any wsX6_addRule := goodIn_ca (goodIn_ca (goodIn_r _ [22, 23, 24, 25, 26, 27, 28, 29, 30, 31, 32, 33, 34, 35, 36, 37, 38, 39, 8, 40, 12, 41, 42, 43, 44, 45, 46, 47, 48, 49, 50, 51, 52, 53, 54, 55, 56, 57, 58, 59, 60, 61, 62, 63, 64, 65, 66, 67, 68, 69, 70, 71, 72, 73, 74, 75, 76, 77, 78, 79, 80, 81, 82, 83, 84, 85, 86, 87, 94, 95, 96, 97, 98, 88, 89, 90, 91, 92, 93] (by decide +kernel) (by decide +kernel)) (goodIn_sub (fun _ h => List.mem_cons_of_mem _ (List.mem_append_left _ (List.mem_append_right _ h))) (by decide +kernel))) (goodIn_sub (fun _ h => List.mem_cons_of_mem _ (List.mem_append_right _ h)) (by decide +kernel))
set_option maxRecDepth 20000 in
theorem gX6_any_X6_addRule : GoodIn wsX6_any (wsV RX6 117 RX6 yX6_addRule wsX6_addRule) := goodIn_app (goodIn_of _ (by decide +kernel)) ggX6_any_X6_addRule
set_option maxRecDepth 20000 in
theorem ggX6_lift_X6_has : GoodIn wsX6_lift wsX6_has := goodIn_r _ [9] (by decide +kernel) (by decide +kernel)
set_option maxRecDepth 20000 in
theorem gX6_lift_X6_has : GoodIn wsX6_lift (va_wsS RX6 87 yX6_has wsX6_has) := goodIn_app (goodIn_of _ (by decide +kernel)) ggX6_lift_X6_has
set_option maxRecDepth 20000 in
theorem ggX6_lift_J6_bitCount_0f7a4 : GoodIn wsX6_lift wsJ6_bitCount_0f7a4 := goodIn_r _ [13, 14, 15, 16] (by decide +kernel) (by decide +kernel)
set_option maxRecDepth 20000 in
theorem gX6_lift_J6_bitCount_0f7a4 : GoodIn wsX6_lift (va_wsS RX6 103 yJ6_bitCount_0f7a4 wsJ6_bitCount_0f7a4) := goodIn_app (goodIn_of _ (by decide +kernel)) ggX6_lift_J6_bitCount_0f7a4
set_option maxRecDepth 20000 in
theorem ggX6_choose_X6_checkDecidable : GoodIn wsX6_choose wsX6_checkDecidable := goodIn_ca (goodIn_ca (goodIn_ca (goodIn_r _ [11, 12, 13, 5, 6, 14, 15, 16, 10, 17, 18, 19, 3, 20, 21, 22, 23, 24, 25, 26, 27, 28, 121, 122, 123, 124, 125, 126, 127, 128, 129, 130, 131, 132, 133] (by decide +kernel) (by decide +kernel)) (goodIn_sub (fun _ h => List.mem_cons_of_mem _ (List.mem_append_left _ (List.mem_append_left _ (List.mem_append_right _ h)))) (by decide +kernel))) (goodIn_sub (fun _ h => List.mem_cons_of_mem _ (List.mem_append_left _ (List.mem_append_right _ h))) (by decide +kernel))) (goodIn_sub (fun _ h => List.mem_cons_of_mem _ (List.mem_append_right _ h)) (by decide +kernel))
set_option maxRecDepth 20000 in
theorem gX6_choose_X6_checkDecidable : GoodIn wsX6_choose (wsV RX6 132 RX6 yX6_checkDecidable wsX6_checkDecidable) := goodIn_app (goodIn_of _ (by decide +kernel)) ggX6_choose_X6_checkDecidable
set_option maxRecDepth 20000 in
theorem ggX6_choose_X4_reaches : GoodIn wsX6_choose wsX4_reaches := goodIn_r _ [31, 32, 33, 30, 34, 27, 10, 28, 35, 36, 37, 38, 39, 40, 41, 42, 43, 44, 45, 46, 47, 48, 49, 50, 51, 52, 53, 54, 55, 56, 57, 58, 59, 60, 61, 62, 63, 29, 64, 65, 66, 67, 68, 69, 70, 128, 129, 130, 131, 132, 133, 134, 135, 136, 137, 138] (by decide +kernel) (by decide +kernel)
set_option maxRecDepth 20000 in
theorem gX6_choose_X4_reaches_n141 : GoodIn wsX6_choose (wsX4_reaches) := ggX6_choose_X4_reaches
set_option maxRecDepth 20000 in
theorem ggX6_choose_X6_countUnknown : GoodIn wsX6_choose wsX6_countUnknown := goodIn_r _ [74, 3, 75, 76, 77, 78, 10, 79, 4, 5, 6, 80, 81, 82, 83, 84, 85, 86, 27, 28, 87, 88, 89, 90, 91, 92, 93, 94, 95, 96, 97, 98, 99, 100, 101, 102, 103, 104, 105, 106, 107, 44, 45, 46, 47, 48, 49, 108, 109, 110, 111, 112, 113, 114, 115, 116, 117, 51, 118, 119, 54, 61, 62, 56, 120, 121, 122, 123, 124, 125, 126, 127, 128, 129, 130, 131, 132, 133, 139, 140, 141, 142, 134, 135, 136, 137, 138] (by decide +kernel) (by decide +kernel)
set_option maxRecDepth 20000 in
theorem gX6_choose_X6_countUnknown : GoodIn wsX6_choose (wsV RX6 147 RX6 yX6_countUnknown wsX6_countUnknown) := goodIn_app (goodIn_of _ (by decide +kernel)) ggX6_choose_X6_countUnknown
set_option maxRecDepth 20000 in
theorem ggX6_refuse_X6_checkDecidable : GoodIn wsX6_refuse wsX6_checkDecidable := goodIn_ca (goodIn_ca (goodIn_ca (goodIn_r _ [11, 12, 13, 5, 6, 14, 15, 16, 10, 17, 18, 19, 3, 20, 21, 22, 23, 24, 25, 26, 27, 28, 121, 122, 123, 124, 125, 126, 127, 128, 129, 130, 131, 132, 133] (by decide +kernel) (by decide +kernel)) (goodIn_sub (fun _ h => List.mem_cons_of_mem _ (List.mem_append_left _ (List.mem_append_left _ (List.mem_append_right _ h)))) (by decide +kernel))) (goodIn_sub (fun _ h => List.mem_cons_of_mem _ (List.mem_append_left _ (List.mem_append_right _ h))) (by decide +kernel))) (goodIn_sub (fun _ h => List.mem_cons_of_mem _ (List.mem_append_right _ h)) (by decide +kernel))
set_option maxRecDepth 20000 in
theorem gX6_refuse_X6_checkDecidable : GoodIn wsX6_refuse (wsV RX6 132 RX6 yX6_checkDecidable wsX6_checkDecidable) := goodIn_app (goodIn_of _ (by decide +kernel)) ggX6_refuse_X6_checkDecidable
set_option maxRecDepth 20000 in
theorem ggX6_refuse_X4_reaches : GoodIn wsX6_refuse wsX4_reaches := goodIn_r _ [31, 32, 33, 30, 34, 27, 10, 28, 35, 36, 37, 38, 39, 40, 41, 42, 43, 44, 45, 46, 47, 48, 49, 50, 51, 52, 53, 54, 55, 56, 57, 58, 59, 60, 61, 62, 63, 29, 64, 65, 66, 67, 68, 69, 70, 128, 129, 130, 131, 132, 133, 134, 135, 136, 137, 138] (by decide +kernel) (by decide +kernel)
set_option maxRecDepth 20000 in
theorem gX6_refuse_X4_reaches_n141 : GoodIn wsX6_refuse (wsX4_reaches) := ggX6_refuse_X4_reaches
set_option maxRecDepth 20000 in
theorem ggX6_refuse_X6_countUnknown : GoodIn wsX6_refuse wsX6_countUnknown := goodIn_r _ [74, 3, 75, 76, 77, 78, 10, 79, 4, 5, 6, 80, 81, 82, 83, 84, 85, 86, 27, 28, 87, 88, 89, 90, 91, 92, 93, 94, 95, 96, 97, 98, 99, 100, 101, 102, 103, 104, 105, 106, 107, 44, 45, 46, 47, 48, 49, 108, 109, 110, 111, 112, 113, 114, 115, 116, 117, 51, 118, 119, 54, 61, 62, 56, 120, 121, 122, 123, 124, 125, 126, 127, 128, 129, 130, 131, 132, 133, 139, 140, 141, 142, 134, 135, 136, 137, 138] (by decide +kernel) (by decide +kernel)
set_option maxRecDepth 20000 in
theorem gX6_refuse_X6_countUnknown : GoodIn wsX6_refuse (wsV RX6 147 RX6 yX6_countUnknown wsX6_countUnknown) := goodIn_app (goodIn_of _ (by decide +kernel)) ggX6_refuse_X6_countUnknown
set_option maxRecDepth 20000 in
theorem ggX6_retract_X6_checkFeature : GoodIn wsX6_retract wsX6_checkFeature := goodIn_ca (goodIn_r _ [9, 10, 11, 12, 20, 21, 22, 23, 24, 25, 26, 27, 28, 29, 30, 31, 32] (by decide +kernel) (by decide +kernel)) (goodIn_sub (fun _ h => List.mem_cons_of_mem _ (List.mem_append_right _ h)) (by decide +kernel))
set_option maxRecDepth 20000 in
theorem gX6_retract_X6_checkFeature : GoodIn wsX6_retract (wsV RX6 44 RX6 yX6_checkFeature wsX6_checkFeature) := goodIn_app (goodIn_of _ (by decide +kernel)) ggX6_retract_X6_checkFeature
set_option maxRecDepth 20000 in
theorem ggX6_retract_X6_has : GoodIn wsX6_retract wsX6_has := goodIn_r _ [15] (by decide +kernel) (by decide +kernel)
set_option maxRecDepth 20000 in
theorem gX6_retract_X6_has : GoodIn wsX6_retract (va_wsS RX6 87 yX6_has wsX6_has) := goodIn_app (goodIn_of _ (by decide +kernel)) ggX6_retract_X6_has
set_option maxRecDepth 20000 in
theorem ggX6_retract_X6_takeBack : GoodIn wsX6_retract wsX6_takeBack := goodIn_r _ [19, 3, 4, 20, 21, 22, 23, 24, 25, 26] (by decide +kernel) (by decide +kernel)
set_option maxRecDepth 20000 in
theorem gX6_retract_X6_takeBack : GoodIn wsX6_retract (wsV RX6 153 RX6 yX6_takeBack wsX6_takeBack) := goodIn_app (goodIn_of _ (by decide +kernel)) ggX6_retract_X6_takeBack
set_option maxRecDepth 20000 in
theorem ggX6_retractAll_X6_takeBack : GoodIn wsX6_retractAll wsX6_takeBack := goodIn_r _ [7, 1, 2, 15, 16, 17, 18, 19, 20, 21] (by decide +kernel) (by decide +kernel)
set_option maxRecDepth 20000 in
theorem gX6_retractAll_X6_takeBack : GoodIn wsX6_retractAll (wsV RX6 153 RX6 yX6_takeBack wsX6_takeBack) := goodIn_app (goodIn_of _ (by decide +kernel)) ggX6_retractAll_X6_takeBack
set_option maxRecDepth 20000 in
theorem ggX6_retractAll_J6_bitCount_0f7a4 : GoodIn wsX6_retractAll wsJ6_bitCount_0f7a4 := goodIn_r _ [11, 12, 13, 14] (by decide +kernel) (by decide +kernel)
set_option maxRecDepth 20000 in
theorem gX6_retractAll_J6_bitCount_0f7a4 : GoodIn wsX6_retractAll (va_wsS RX6 103 yJ6_bitCount_0f7a4 wsJ6_bitCount_0f7a4) := goodIn_app (goodIn_of _ (by decide +kernel)) ggX6_retractAll_J6_bitCount_0f7a4
set_option maxRecDepth 20000 in
theorem ggX6_stateOf_X6_checkFeature : GoodIn wsX6_stateOf wsX6_checkFeature := goodIn_ca (goodIn_r _ [9, 10, 11, 1, 61, 62, 63, 64, 65, 66, 67, 68, 69, 70, 71, 72, 73] (by decide +kernel) (by decide +kernel)) (goodIn_sub (fun _ h => List.mem_cons_of_mem _ (List.mem_append_right _ h)) (by decide +kernel))
set_option maxRecDepth 20000 in
theorem gX6_stateOf_X6_checkFeature : GoodIn wsX6_stateOf (wsV RX6 44 RX6 yX6_checkFeature wsX6_checkFeature) := goodIn_app (goodIn_of _ (by decide +kernel)) ggX6_stateOf_X6_checkFeature
set_option maxRecDepth 20000 in
theorem ggX6_stateOf_X4_reaches : GoodIn wsX6_stateOf wsX4_reaches := goodIn_r _ [14, 15, 16, 13, 17, 18, 8, 19, 20, 21, 22, 23, 24, 25, 26, 27, 28, 29, 30, 31, 32, 33, 34, 35, 36, 37, 38, 39, 40, 41, 42, 43, 44, 45, 46, 47, 48, 12, 49, 50, 51, 52, 53, 54, 55, 68, 69, 70, 71, 72, 73, 74, 75, 76, 77, 78] (by decide +kernel) (by decide +kernel)
set_option maxRecDepth 20000 in
theorem gX6_stateOf_X4_reaches_n141 : GoodIn wsX6_stateOf (wsX4_reaches) := ggX6_stateOf_X4_reaches
set_option maxRecDepth 20000 in
theorem ggX6_stateOf_X6_stateLetter : GoodIn wsX6_stateOf wsX6_stateLetter := goodIn_r _ [59, 3, 4, 60, 18, 8, 19, 61, 62, 63, 64, 65, 66, 67] (by decide +kernel) (by decide +kernel)
set_option maxRecDepth 20000 in
theorem gX6_stateOf_X6_stateLetter : GoodIn wsX6_stateOf (wsV RX6 156 RX6 yX6_stateLetter wsX6_stateLetter) := goodIn_app (goodIn_of _ (by decide +kernel)) ggX6_stateOf_X6_stateLetter
set_option maxRecDepth 20000 in
theorem ggX6_stateByAll_X6_checkFeature : GoodIn wsX6_stateByAll wsX6_checkFeature := goodIn_ca (goodIn_r _ [5, 6, 7, 8, 71, 72, 73, 74, 75, 76, 77, 78, 79, 80, 81, 82, 83] (by decide +kernel) (by decide +kernel)) (goodIn_sub (fun _ h => List.mem_cons_of_mem _ (List.mem_append_right _ h)) (by decide +kernel))
set_option maxRecDepth 20000 in
theorem gX6_stateByAll_X6_checkFeature : GoodIn wsX6_stateByAll (wsV RX6 44 RX6 yX6_checkFeature wsX6_checkFeature) := goodIn_app (goodIn_of _ (by decide +kernel)) ggX6_stateByAll_X6_checkFeature
set_option maxRecDepth 20000 in
theorem ggX6_stateByAll_X6_featuresInSome : GoodIn wsX6_stateByAll wsX6_featuresInSome := goodIn_r _ [12, 8, 13, 14, 15, 16, 17, 18, 19, 20, 4, 21, 22, 23, 24, 25, 26, 27, 28, 29, 30, 31, 32, 33, 34, 35, 36, 37, 38, 39, 40, 41, 42, 43, 44, 45, 46, 47, 48, 49, 50, 51, 52, 53, 54, 55, 56, 57, 58, 59, 60, 61, 71, 72, 73, 74, 75, 76, 77, 78, 79, 80, 81, 82, 83, 84, 85, 86, 87, 88] (by decide +kernel) (by decide +kernel)
set_option maxRecDepth 20000 in
theorem gX6_stateByAll_X6_featuresInSome : GoodIn wsX6_stateByAll (wsV RX6 160 RX6 yX6_featuresInSome wsX6_featuresInSome) := goodIn_app (goodIn_of _ (by decide +kernel)) ggX6_stateByAll_X6_featuresInSome
set_option maxRecDepth 20000 in
theorem ggX6_stateByAll_X6_has : GoodIn wsX6_stateByAll wsX6_has := goodIn_r _ [33] (by decide +kernel) (by decide +kernel)
set_option maxRecDepth 20000 in
theorem gX6_stateByAll_X6_has : GoodIn wsX6_stateByAll (va_wsS RX6 87 yX6_has wsX6_has) := goodIn_app (goodIn_of _ (by decide +kernel)) ggX6_stateByAll_X6_has
set_option maxRecDepth 20000 in
theorem ggX6_stateByAll_X6_featuresInAll : GoodIn wsX6_stateByAll wsX6_featuresInAll := goodIn_r _ [66, 8, 13, 14, 15, 16, 17, 18, 19, 20, 4, 21, 22, 23, 24, 25, 26, 27, 28, 29, 30, 31, 32, 33, 34, 35, 36, 37, 38, 39, 40, 41, 42, 43, 44, 45, 46, 47, 48, 49, 50, 51, 52, 53, 54, 55, 56, 57, 58, 59, 60, 61, 71, 72, 73, 74, 75, 76, 77, 78, 79, 80, 81, 82, 83, 84, 85, 86, 87, 88] (by decide +kernel) (by decide +kernel)
set_option maxRecDepth 20000 in
theorem gX6_stateByAll_X6_featuresInAll : GoodIn wsX6_stateByAll (wsV RX6 163 RX6 yX6_featuresInAll wsX6_featuresInAll) := goodIn_app (goodIn_of _ (by decide +kernel)) ggX6_stateByAll_X6_featuresInAll
set_option maxRecDepth 20000 in
theorem ggX6_stateByAll_X6_stateLetter : GoodIn wsX6_stateByAll wsX6_stateLetter := goodIn_r _ [70, 22, 23, 62, 32, 4, 33, 71, 72, 73, 74, 75, 76, 77] (by decide +kernel) (by decide +kernel)
set_option maxRecDepth 20000 in
theorem gX6_stateByAll_X6_stateLetter : GoodIn wsX6_stateByAll (wsV RX6 156 RX6 yX6_stateLetter wsX6_stateLetter) := goodIn_app (goodIn_of _ (by decide +kernel)) ggX6_stateByAll_X6_stateLetter
set_option maxRecDepth 20000 in
theorem ggX6_known_X6_checkFeature : GoodIn wsX6_known wsX6_checkFeature := goodIn_ca (goodIn_r _ [6, 7, 8, 9, 71, 72, 73, 74, 75, 76, 77, 82, 83, 84, 85, 86, 87] (by decide +kernel) (by decide +kernel)) (goodIn_sub (fun _ h => List.mem_cons_of_mem _ (List.mem_append_right _ h)) (by decide +kernel))
set_option maxRecDepth 20000 in
theorem gX6_known_X6_checkFeature : GoodIn wsX6_known (wsV RX6 44 RX6 yX6_checkFeature wsX6_checkFeature) := goodIn_app (goodIn_of _ (by decide +kernel)) ggX6_known_X6_checkFeature
set_option maxRecDepth 20000 in
theorem ggX6_known_X6_deduce : GoodIn wsX6_known wsX6_deduce := goodIn_r _ [13, 1, 9, 14, 15, 16, 17, 18, 19, 20, 21, 22, 23, 24, 5, 25, 26, 27, 28, 29, 30, 31, 32, 33, 34, 35, 36, 37, 38, 39, 40, 41, 42, 43, 44, 45, 46, 47, 48, 49, 50, 51, 52, 53, 54, 55, 56, 57, 58, 59, 60, 61, 62, 63, 64, 65, 66, 67, 68, 69, 71, 72, 73, 74, 75, 76, 77, 78, 79, 80, 81, 82, 83, 84, 85, 86, 87, 88, 89, 90, 91, 92] (by decide +kernel) (by decide +kernel)
set_option maxRecDepth 20000 in
theorem gX6_known_X6_deduce : GoodIn wsX6_known (wsV RX6 166 RX6 yX6_deduce wsX6_deduce) := goodIn_app (goodIn_of _ (by decide +kernel)) ggX6_known_X6_deduce
set_option maxRecDepth 20000 in
theorem ggX6_known_X6_has : GoodIn wsX6_known wsX6_has := goodIn_r _ [25] (by decide +kernel) (by decide +kernel)
set_option maxRecDepth 20000 in
theorem gX6_known_X6_has : GoodIn wsX6_known (va_wsS RX6 87 yX6_has wsX6_has) := goodIn_app (goodIn_of _ (by decide +kernel)) ggX6_known_X6_has
set_option maxRecDepth 20000 in
theorem ggX6_reasonOf_X6_checkFeature : GoodIn wsX6_reasonOf wsX6_checkFeature := goodIn_ca (goodIn_r _ [8, 9, 10, 11, 72, 73, 74, 75, 76, 77, 78, 83, 84, 85, 86, 87, 88] (by decide +kernel) (by decide +kernel)) (goodIn_sub (fun _ h => List.mem_cons_of_mem _ (List.mem_append_right _ h)) (by decide +kernel))
set_option maxRecDepth 20000 in
theorem gX6_reasonOf_X6_checkFeature : GoodIn wsX6_reasonOf (wsV RX6 44 RX6 yX6_checkFeature wsX6_checkFeature) := goodIn_app (goodIn_of _ (by decide +kernel)) ggX6_reasonOf_X6_checkFeature
set_option maxRecDepth 20000 in
theorem ggX6_reasonOf_X6_deduce : GoodIn wsX6_reasonOf wsX6_deduce := goodIn_r _ [15, 3, 11, 16, 17, 18, 19, 20, 21, 22, 23, 24, 25, 26, 7, 27, 28, 29, 30, 31, 32, 33, 34, 35, 36, 37, 38, 39, 40, 41, 42, 43, 44, 45, 46, 47, 48, 49, 50, 51, 52, 53, 54, 55, 56, 57, 58, 59, 60, 61, 62, 63, 64, 65, 66, 67, 68, 69, 70, 71, 72, 73, 74, 75, 76, 77, 78, 79, 80, 81, 82, 83, 84, 85, 86, 87, 88, 89, 90, 91, 92, 93] (by decide +kernel) (by decide +kernel)
set_option maxRecDepth 20000 in
theorem gX6_reasonOf_X6_deduce : GoodIn wsX6_reasonOf (wsV RX6 166 RX6 yX6_deduce wsX6_deduce) := goodIn_app (goodIn_of _ (by decide +kernel)) ggX6_reasonOf_X6_deduce
set_option maxRecDepth 20000 in
theorem ggX6_reasonOf_X0_knows : GoodIn wsX6_reasonOf wsX0_knows := goodIn_r _ [35, 23, 24, 26, 7, 27, 79, 80, 81, 82] (by decide +kernel) (by decide +kernel)
set_option maxRecDepth 20000 in
theorem gX6_reasonOf_X0_knows_n175 : GoodIn wsX6_reasonOf (wsX0_knows) := ggX6_reasonOf_X0_knows
set_option maxRecDepth 20000 in
theorem ggX6_reasonRule_X6_checkFeature : GoodIn wsX6_reasonRule wsX6_checkFeature := goodIn_ca (goodIn_r _ [8, 9, 10, 11, 72, 73, 74, 75, 76, 77, 78, 83, 84, 85, 86, 87, 88] (by decide +kernel) (by decide +kernel)) (goodIn_sub (fun _ h => List.mem_cons_of_mem _ (List.mem_append_right _ h)) (by decide +kernel))
set_option maxRecDepth 20000 in
theorem gX6_reasonRule_X6_checkFeature : GoodIn wsX6_reasonRule (wsV RX6 44 RX6 yX6_checkFeature wsX6_checkFeature) := goodIn_app (goodIn_of _ (by decide +kernel)) ggX6_reasonRule_X6_checkFeature
set_option maxRecDepth 20000 in
theorem ggX6_reasonRule_X6_deduce : GoodIn wsX6_reasonRule wsX6_deduce := goodIn_r _ [15, 3, 11, 16, 17, 18, 19, 20, 21, 22, 23, 24, 25, 26, 7, 27, 28, 29, 30, 31, 32, 33, 34, 35, 36, 37, 38, 39, 40, 41, 42, 43, 44, 45, 46, 47, 48, 49, 50, 51, 52, 53, 54, 55, 56, 57, 58, 59, 60, 61, 62, 63, 64, 65, 66, 67, 68, 69, 70, 71, 72, 73, 74, 75, 76, 77, 78, 79, 80, 81, 82, 83, 84, 85, 86, 87, 88, 89, 90, 91, 92, 93] (by decide +kernel) (by decide +kernel)
set_option maxRecDepth 20000 in
theorem gX6_reasonRule_X6_deduce : GoodIn wsX6_reasonRule (wsV RX6 166 RX6 yX6_deduce wsX6_deduce) := goodIn_app (goodIn_of _ (by decide +kernel)) ggX6_reasonRule_X6_deduce
set_option maxRecDepth 20000 in
theorem ggX6_reasonRule_X0_knows : GoodIn wsX6_reasonRule wsX0_knows := goodIn_r _ [35, 23, 24, 26, 7, 27, 79, 80, 81, 82] (by decide +kernel) (by decide +kernel)
set_option maxRecDepth 20000 in
theorem gX6_reasonRule_X0_knows_n175 : GoodIn wsX6_reasonRule (wsX0_knows) := ggX6_reasonRule_X0_knows
set_option maxRecDepth 20000 in
theorem ggX6_unknown_X6_countUnknown : GoodIn wsX6_unknown wsX6_countUnknown := goodIn_r _ [5, 6, 7, 8, 9, 10, 4, 11, 12, 13, 14, 15, 16, 17, 18, 19, 20, 21, 22, 23, 24, 25, 26, 27, 28, 29, 30, 31, 32, 33, 34, 35, 36, 37, 38, 39, 40, 41, 42, 43, 44, 45, 46, 47, 48, 49, 50, 51, 52, 53, 54, 55, 56, 57, 58, 59, 60, 61, 62, 63, 64, 65, 66, 67, 68, 69, 70, 71, 72, 73, 74, 75, 76, 77, 78, 79, 80, 81, 82, 83, 84, 85, 86, 87, 88, 89, 90] (by decide +kernel) (by decide +kernel)
set_option maxRecDepth 20000 in
theorem gX6_unknown_X6_countUnknown : GoodIn wsX6_unknown (wsV RX6 147 RX6 yX6_countUnknown wsX6_countUnknown) := goodIn_app (goodIn_of _ (by decide +kernel)) ggX6_unknown_X6_countUnknown
set_option maxRecDepth 20000 in
theorem ggX6_isConfiguration_X6_checkSet : GoodIn wsX6_isConfiguration wsX6_checkSet := goodIn_ca (goodIn_r _ [5, 6, 7, 8, 9, 10, 11, 12, 13, 52, 53, 54, 55, 56, 57, 58, 59, 60, 61, 62, 63, 64] (by decide +kernel) (by decide +kernel)) (goodIn_sub (fun _ h => List.mem_cons_of_mem _ (List.mem_append_right _ h)) (by decide +kernel))
set_option maxRecDepth 20000 in
theorem gX6_isConfiguration_X6_checkSet : GoodIn wsX6_isConfiguration (wsV RX6 190 RX6 yX6_checkSet wsX6_checkSet) := goodIn_app (goodIn_of _ (by decide +kernel)) ggX6_isConfiguration_X6_checkSet
set_option maxRecDepth 20000 in
theorem ggX6_isConfiguration_X6_isAllowed : GoodIn wsX6_isConfiguration wsX6_isAllowed := goodIn_r _ [17, 8, 18, 19, 10, 20, 21, 13, 22, 4, 23, 24, 25, 26, 27, 28, 29, 30, 31, 32, 33, 34, 35, 36, 37, 38, 39, 40, 41, 42, 43, 44, 45, 46, 47, 48, 49, 50, 51, 52, 53, 54, 55, 56, 57, 58, 59, 60, 61, 62, 63, 64, 65, 66, 67, 68, 69] (by decide +kernel) (by decide +kernel)
set_option maxRecDepth 20000 in
theorem gX6_isConfiguration_X6_isAllowed : GoodIn wsX6_isConfiguration (wsV RX6 193 RX6 yX6_isAllowed wsX6_isAllowed) := goodIn_app (goodIn_of _ (by decide +kernel)) ggX6_isConfiguration_X6_isAllowed
set_option maxRecDepth 20000 in
theorem ggX6_completions_X4_countFrom : GoodIn wsX6_completions wsX4_countFrom := goodIn_r _ [7, 8, 9, 6, 10, 11, 12, 13, 14, 15, 16, 17, 18, 19, 20, 21, 22, 23, 24, 25, 26, 27, 28, 29, 30, 31, 32, 33, 34, 35, 36, 37, 38, 39, 40, 41, 42, 5, 43, 44, 45, 46, 47, 48, 49, 57, 58, 59, 60, 61, 62, 63, 64, 65, 66, 67] (by decide +kernel) (by decide +kernel)
set_option maxRecDepth 20000 in
theorem gX6_completions_X4_countFrom_n196 : GoodIn wsX6_completions (wsX4_countFrom) := ggX6_completions_X4_countFrom
set_option maxRecDepth 20000 in
theorem ggX6_completionsByAll_X5_allFeatures : GoodIn wsX6_completionsByAll wsX5_allFeatures := goodIn_r _ [5, 6, 59, 60, 61, 62, 63, 64] (by decide +kernel) (by decide +kernel)
set_option maxRecDepth 20000 in
theorem gX6_completionsByAll_X5_allFeatures_n200 : GoodIn wsX6_completionsByAll (wsX5_allFeatures) := ggX6_completionsByAll_X5_allFeatures
set_option maxRecDepth 20000 in
theorem ggX6_completionsByAll_X6_isCompletion : GoodIn wsX6_completionsByAll wsX6_isCompletion := goodIn_r _ [11, 12, 13, 14, 15, 16, 10, 17, 1, 18, 19, 3, 20, 21, 6, 22, 23, 24, 25, 26, 27, 28, 29, 30, 31, 32, 33, 34, 35, 36, 37, 38, 39, 40, 41, 42, 43, 44, 45, 46, 47, 48, 49, 50, 51, 52, 53, 54, 55, 56, 57, 58, 59, 60, 61, 62, 63, 64, 65, 66, 67, 68, 69] (by decide +kernel) (by decide +kernel)
set_option maxRecDepth 20000 in
theorem gX6_completionsByAll_X6_isCompletion : GoodIn wsX6_completionsByAll (wsV RX6 203 RX6 yX6_isCompletion wsX6_isCompletion) := goodIn_app (goodIn_of _ (by decide +kernel)) ggX6_completionsByAll_X6_isCompletion
set_option maxRecDepth 20000 in
theorem ggX6_addBundle_X6_checkFeature : GoodIn wsX6_addBundle wsX6_checkFeature := goodIn_ca (goodIn_r _ [7, 8, 9, 10, 26, 27, 28, 29, 30, 31, 32, 33, 34, 35, 36, 37, 38] (by decide +kernel) (by decide +kernel)) (goodIn_sub (fun _ h => List.mem_cons_of_mem _ (List.mem_append_left _ (List.mem_append_right _ h))) (by decide +kernel))
set_option maxRecDepth 20000 in
theorem gX6_addBundle_X6_checkFeature : GoodIn wsX6_addBundle (wsV RX6 44 RX6 yX6_checkFeature wsX6_checkFeature) := goodIn_app (goodIn_of _ (by decide +kernel)) ggX6_addBundle_X6_checkFeature
set_option maxRecDepth 20000 in
theorem ggX6_addBundle_X6_addLayer : GoodIn wsX6_addBundle wsX6_addLayer := goodIn_ca (goodIn_r _ [14, 15, 16, 17, 18, 19, 20, 21, 22, 23, 24, 25, 26, 27, 28, 29, 30, 31, 32, 39, 40, 41, 42, 43] (by decide +kernel) (by decide +kernel)) (goodIn_sub (fun _ h => List.mem_cons_of_mem _ (List.mem_append_right _ h)) (by decide +kernel))
set_option maxRecDepth 20000 in
theorem gX6_addBundle_X6_addLayer : GoodIn wsX6_addBundle (wsV RX6 208 RX6 yX6_addLayer wsX6_addLayer) := goodIn_app (goodIn_of _ (by decide +kernel)) ggX6_addBundle_X6_addLayer
set_option maxRecDepth 20000 in
theorem ggX6_addPercent_X6_addLayer : GoodIn wsX6_addPercent wsX6_addLayer := goodIn_ca (goodIn_r _ [7, 8, 9, 10, 11, 12, 13, 14, 15, 16, 17, 18, 19, 20, 21, 22, 23, 24, 25, 26, 27, 28, 29, 30] (by decide +kernel) (by decide +kernel)) (goodIn_sub (fun _ h => List.mem_cons_of_mem _ (List.mem_append_right _ h)) (by decide +kernel))
set_option maxRecDepth 20000 in
theorem gX6_addPercent_X6_addLayer : GoodIn wsX6_addPercent (wsV RX6 208 RX6 yX6_addLayer wsX6_addLayer) := goodIn_app (goodIn_of _ (by decide +kernel)) ggX6_addPercent_X6_addLayer
set_option maxRecDepth 20000 in
theorem ggX6_addSurcharge_X6_addLayer : GoodIn wsX6_addSurcharge wsX6_addLayer := goodIn_ca (goodIn_r _ [7, 8, 9, 10, 11, 12, 13, 14, 15, 16, 17, 18, 19, 20, 21, 22, 23, 24, 25, 26, 27, 28, 29, 30] (by decide +kernel) (by decide +kernel)) (goodIn_sub (fun _ h => List.mem_cons_of_mem _ (List.mem_append_right _ h)) (by decide +kernel))
set_option maxRecDepth 20000 in
theorem gX6_addSurcharge_X6_addLayer : GoodIn wsX6_addSurcharge (wsV RX6 208 RX6 yX6_addLayer wsX6_addLayer) := goodIn_app (goodIn_of _ (by decide +kernel)) ggX6_addSurcharge_X6_addLayer
set_option maxRecDepth 20000 in
theorem ggX6_price_X6_checkSet : GoodIn wsX6_price wsX6_checkSet := goodIn_ca (goodIn_r _ [6, 7, 8, 9, 10, 11, 12, 13, 14, 45, 46, 47, 48, 49, 50, 51, 52, 53, 54, 55, 56, 57] (by decide +kernel) (by decide +kernel)) (goodIn_sub (fun _ h => List.mem_cons_of_mem _ (List.mem_append_right _ h)) (by decide +kernel))
set_option maxRecDepth 20000 in
theorem gX6_price_X6_checkSet : GoodIn wsX6_price (wsV RX6 190 RX6 yX6_checkSet wsX6_checkSet) := goodIn_app (goodIn_of _ (by decide +kernel)) ggX6_price_X6_checkSet
set_option maxRecDepth 20000 in
theorem ggX6_price_X2_ofSet : GoodIn wsX6_price wsX2_ofSet := goodIn_r _ [18, 19, 20, 21, 22, 16, 23, 24, 25, 5, 26, 27, 28, 29, 30, 31, 32, 33, 34, 35, 36, 37, 38, 39, 40, 41, 42, 43, 44, 58, 59, 60, 61, 62] (by decide +kernel) (by decide +kernel)
set_option maxRecDepth 20000 in
theorem gX6_price_X2_ofSet_n220 : GoodIn wsX6_price (wsX2_ofSet) := ggX6_price_X2_ofSet
set_option maxRecDepth 20000 in
theorem ggX6_cheapest_X4_cheapestFrom : GoodIn wsX6_cheapest wsX4_cheapestFrom := goodIn_r _ [8, 9, 10, 7, 11, 12, 13, 14, 15, 16, 17, 18, 19, 20, 21, 22, 23, 24, 25, 26, 27, 28, 29, 30, 31, 32, 33, 34, 35, 36, 37, 38, 39, 40, 41, 42, 43, 6, 44, 45, 46, 47, 48, 49, 50, 51, 52, 53, 54, 55, 56, 57, 58, 59, 60, 61, 62, 63, 64, 65, 66, 67, 68, 69, 70, 71, 72, 73, 74, 75, 76, 77, 78, 79, 87, 88, 89, 90, 91, 92, 93, 94, 95, 96, 97, 98, 99, 100, 101, 102] (by decide +kernel) (by decide +kernel)
set_option maxRecDepth 20000 in
theorem gX6_cheapest_X4_cheapestFrom_n223 : GoodIn wsX6_cheapest (wsX4_cheapestFrom) := ggX6_cheapest_X4_cheapestFrom
set_option maxRecDepth 20000 in
theorem ggX6_cheapestByAll_X5_allFeatures : GoodIn wsX6_cheapestByAll wsX5_allFeatures := goodIn_r _ [6, 7, 89, 90, 91, 92, 93, 94] (by decide +kernel) (by decide +kernel)
set_option maxRecDepth 20000 in
theorem gX6_cheapestByAll_X5_allFeatures_n200 : GoodIn wsX6_cheapestByAll (wsX5_allFeatures) := ggX6_cheapestByAll_X5_allFeatures
set_option maxRecDepth 20000 in
theorem ggX6_cheapestByAll_X6_isCompletion : GoodIn wsX6_cheapestByAll wsX6_isCompletion := goodIn_r _ [12, 13, 14, 15, 16, 17, 11, 18, 1, 19, 20, 4, 21, 22, 7, 23, 24, 25, 26, 27, 28, 29, 30, 31, 32, 33, 34, 35, 36, 37, 38, 39, 40, 41, 42, 43, 44, 45, 46, 47, 48, 49, 50, 51, 52, 82, 83, 84, 85, 86, 87, 88, 89, 90, 91, 92, 93, 94, 95, 96, 97, 98, 99] (by decide +kernel) (by decide +kernel)
set_option maxRecDepth 20000 in
theorem gX6_cheapestByAll_X6_isCompletion : GoodIn wsX6_cheapestByAll (wsV RX6 203 RX6 yX6_isCompletion wsX6_isCompletion) := goodIn_app (goodIn_of _ (by decide +kernel)) ggX6_cheapestByAll_X6_isCompletion
set_option maxRecDepth 20000 in
theorem ggX6_cheapestByAll_X2_cheaperOf : GoodIn wsX6_cheapestByAll wsX2_cheaperOf := goodIn_r _ [56, 57, 58, 59, 60, 61, 62, 63, 54, 64, 65, 66, 67, 68, 69, 70, 23, 11, 24, 71, 72, 73, 74, 75, 76, 77, 78, 35, 36, 37, 38, 39, 40, 79, 80, 81, 100, 101, 102, 103, 104] (by decide +kernel) (by decide +kernel)
set_option maxRecDepth 20000 in
theorem gX6_cheapestByAll_X2_cheaperOf_n227 : GoodIn wsX6_cheapestByAll (wsX2_cheaperOf) := ggX6_cheapestByAll_X2_cheaperOf
set_option maxRecDepth 20000 in
theorem ggX6_complete_X6_cheapest : GoodIn wsX6_complete wsX6_cheapest := goodIn_r _ [9, 1, 10, 4, 2, 3, 11, 12, 13, 14, 15, 16, 17, 8, 18, 19, 20, 21, 22, 23, 24, 25, 26, 27, 28, 29, 30, 31, 32, 33, 34, 35, 36, 37, 38, 39, 40, 41, 42, 43, 44, 45, 46, 47, 48, 49, 50, 51, 52, 53, 54, 55, 56, 57, 58, 59, 60, 61, 62, 63, 64, 65, 66, 67, 68, 69, 70, 71, 72, 73, 74, 75, 76, 77, 78, 79, 80, 81, 82, 83, 88, 89, 90, 91, 92, 93, 94, 95, 96, 97, 98, 99, 100, 101, 102, 103, 104, 105, 106, 107, 108, 109, 110] (by decide +kernel) (by decide +kernel)
set_option maxRecDepth 20000 in
theorem gX6_complete_X6_cheapest : GoodIn wsX6_complete (wsV RX6 230 RX6 yX6_cheapest wsX6_cheapest) := goodIn_app (goodIn_of _ (by decide +kernel)) ggX6_complete_X6_cheapest
set_option maxRecDepth 20000 in
theorem ggX6_complete_X5_allFeatures : GoodIn wsX6_complete wsX5_allFeatures := goodIn_r _ [86, 87, 95, 96, 97, 98, 99, 100] (by decide +kernel) (by decide +kernel)
set_option maxRecDepth 20000 in
theorem gX6_complete_X5_allFeatures_n200 : GoodIn wsX6_complete (wsX5_allFeatures) := ggX6_complete_X5_allFeatures
set_option maxRecDepth 20000 in
theorem ggX6_complete_X2_ofSet : GoodIn wsX6_complete wsX2_ofSet := goodIn_r _ [66, 67, 68, 69, 70, 56, 71, 72, 17, 8, 18, 73, 74, 75, 76, 77, 78, 79, 59, 60, 61, 62, 80, 28, 29, 30, 31, 32, 33, 106, 107, 108, 109, 110] (by decide +kernel) (by decide +kernel)
set_option maxRecDepth 20000 in
theorem gX6_complete_X2_ofSet_n220 : GoodIn wsX6_complete (wsX2_ofSet) := ggX6_complete_X2_ofSet
set_option maxRecDepth 20000 in
theorem ggX6_fewest_X6_checkFeature : GoodIn wsX6_fewest wsX6_checkFeature := goodIn_ca (goodIn_r _ [5, 6, 7, 8, 65, 66, 67, 68, 69, 70, 71, 72, 73, 74, 75, 76, 77] (by decide +kernel) (by decide +kernel)) (goodIn_sub (fun _ h => List.mem_cons_of_mem _ (List.mem_append_left _ (List.mem_append_right _ h))) (by decide +kernel))
set_option maxRecDepth 20000 in
theorem gX6_fewest_X6_checkFeature : GoodIn wsX6_fewest (wsV RX6 44 RX6 yX6_checkFeature wsX6_checkFeature) := goodIn_app (goodIn_of _ (by decide +kernel)) ggX6_fewest_X6_checkFeature
set_option maxRecDepth 20000 in
theorem ggX6_fewest_X6_decisionsAgainst : GoodIn wsX6_fewest wsX6_decisionsAgainst := goodIn_ca (goodIn_r _ [12, 13, 14, 8, 15, 16, 17, 18, 19, 20, 21, 22, 23, 4, 24, 25, 26, 27, 28, 29, 30, 31, 32, 33, 34, 35, 36, 37, 38, 39, 40, 41, 42, 43, 44, 45, 46, 47, 48, 49, 50, 51, 52, 53, 54, 55, 56, 57, 58, 59, 60, 61, 62, 63, 64, 65, 66, 67, 68, 69, 70, 71, 72, 73, 74, 75, 76, 77, 78, 79, 80, 81, 82] (by decide +kernel) (by decide +kernel)) (goodIn_sub (fun _ h => List.mem_cons_of_mem _ (List.mem_append_right _ h)) (by decide +kernel))
set_option maxRecDepth 20000 in
theorem gX6_fewest_X6_decisionsAgainst : GoodIn wsX6_fewest (wsV RX6 233 RX6 yX6_decisionsAgainst wsX6_decisionsAgainst) := goodIn_app (goodIn_of _ (by decide +kernel)) ggX6_fewest_X6_decisionsAgainst
set_option maxRecDepth 20000 in
theorem ggX6_fewest_J6_bitCount_0f7a4 : GoodIn wsX6_fewest wsJ6_bitCount_0f7a4 := goodIn_r _ [45, 46, 47, 48] (by decide +kernel) (by decide +kernel)
set_option maxRecDepth 20000 in
theorem gX6_fewest_J6_bitCount_0f7a4 : GoodIn wsX6_fewest (va_wsS RX6 103 yJ6_bitCount_0f7a4 wsJ6_bitCount_0f7a4) := goodIn_app (goodIn_of _ (by decide +kernel)) ggX6_fewest_J6_bitCount_0f7a4
set_option maxRecDepth 20000 in
theorem ggX6_toRetract_X6_checkFeature : GoodIn wsX6_toRetract wsX6_checkFeature := goodIn_ca (goodIn_r _ [5, 6, 7, 8, 65, 66, 67, 68, 69, 70, 71, 72, 73, 74, 75, 76, 77] (by decide +kernel) (by decide +kernel)) (goodIn_sub (fun _ h => List.mem_cons_of_mem _ (List.mem_append_left _ (List.mem_append_right _ h))) (by decide +kernel))
set_option maxRecDepth 20000 in
theorem gX6_toRetract_X6_checkFeature : GoodIn wsX6_toRetract (wsV RX6 44 RX6 yX6_checkFeature wsX6_checkFeature) := goodIn_app (goodIn_of _ (by decide +kernel)) ggX6_toRetract_X6_checkFeature
set_option maxRecDepth 20000 in
theorem ggX6_toRetract_X6_decisionsAgainst : GoodIn wsX6_toRetract wsX6_decisionsAgainst := goodIn_ca (goodIn_r _ [12, 13, 14, 8, 15, 16, 17, 18, 19, 20, 21, 22, 23, 4, 24, 25, 26, 27, 28, 29, 30, 31, 32, 33, 34, 35, 36, 37, 38, 39, 40, 41, 42, 43, 44, 45, 46, 47, 48, 49, 50, 51, 52, 53, 54, 55, 56, 57, 58, 59, 60, 61, 62, 63, 64, 65, 66, 67, 68, 69, 70, 71, 72, 73, 74, 75, 76, 77, 78, 79, 80, 81, 82] (by decide +kernel) (by decide +kernel)) (goodIn_sub (fun _ h => List.mem_cons_of_mem _ (List.mem_append_right _ h)) (by decide +kernel))
set_option maxRecDepth 20000 in
theorem gX6_toRetract_X6_decisionsAgainst : GoodIn wsX6_toRetract (wsV RX6 233 RX6 yX6_decisionsAgainst wsX6_decisionsAgainst) := goodIn_app (goodIn_of _ (by decide +kernel)) ggX6_toRetract_X6_decisionsAgainst
set_option maxRecDepth 20000 in
theorem ggX6_force_X6_checkFeature : GoodIn wsX6_force wsX6_checkFeature := goodIn_ca (goodIn_r _ [7, 8, 9, 10, 75, 76, 77, 78, 79, 80, 81, 82, 83, 84, 85, 86, 87] (by decide +kernel) (by decide +kernel)) (goodIn_sub (fun _ h => List.mem_cons_of_mem _ (List.mem_append_left _ (List.mem_append_left _ (List.mem_append_right _ h)))) (by decide +kernel))
set_option maxRecDepth 20000 in
theorem gX6_force_X6_checkFeature : GoodIn wsX6_force (wsV RX6 44 RX6 yX6_checkFeature wsX6_checkFeature) := goodIn_app (goodIn_of _ (by decide +kernel)) ggX6_force_X6_checkFeature
set_option maxRecDepth 20000 in
theorem ggX6_force_X6_checkNotRoot : GoodIn wsX6_force wsX6_checkNotRoot := goodIn_ca (goodIn_r _ [14, 15, 16] (by decide +kernel) (by decide +kernel)) (goodIn_sub (fun _ h => List.mem_cons_of_mem _ (List.mem_append_left _ (List.mem_append_right _ h))) (by decide +kernel))
set_option maxRecDepth 20000 in
theorem gX6_force_X6_checkNotRoot : GoodIn wsX6_force (wsV RX6 72 RX6 yX6_checkNotRoot wsX6_checkNotRoot) := goodIn_app (goodIn_of _ (by decide +kernel)) ggX6_force_X6_checkNotRoot
set_option maxRecDepth 20000 in
theorem ggX6_force_X6_decisionsAgainst : GoodIn wsX6_force wsX6_decisionsAgainst := goodIn_ca (goodIn_r _ [20, 21, 22, 10, 1, 2, 23, 24, 25, 26, 27, 28, 29, 6, 30, 31, 32, 33, 34, 35, 36, 37, 38, 39, 40, 41, 42, 43, 44, 45, 46, 47, 48, 49, 50, 51, 52, 53, 54, 55, 56, 57, 58, 59, 60, 61, 62, 63, 64, 65, 66, 67, 68, 69, 70, 75, 76, 77, 78, 79, 80, 81, 82, 83, 84, 85, 86, 87, 88, 89, 90, 91, 92] (by decide +kernel) (by decide +kernel)) (goodIn_sub (fun _ h => List.mem_cons_of_mem _ (List.mem_append_right _ h)) (by decide +kernel))
set_option maxRecDepth 20000 in
theorem gX6_force_X6_decisionsAgainst : GoodIn wsX6_force (wsV RX6 233 RX6 yX6_decisionsAgainst wsX6_decisionsAgainst) := goodIn_app (goodIn_of _ (by decide +kernel)) ggX6_force_X6_decisionsAgainst
set_option maxRecDepth 20000 in
theorem ggX6_force_X6_takeBack : GoodIn wsX6_force wsX6_takeBack := goodIn_r _ [74, 1, 2, 75, 76, 77, 78, 79, 80, 81] (by decide +kernel) (by decide +kernel)
set_option maxRecDepth 20000 in
theorem gX6_force_X6_takeBack : GoodIn wsX6_force (wsV RX6 153 RX6 yX6_takeBack wsX6_takeBack) := goodIn_app (goodIn_of _ (by decide +kernel)) ggX6_force_X6_takeBack
set_option maxRecDepth 20000 in
theorem ggX6_force_J6_bitCount_0f7a4 : GoodIn wsX6_force wsJ6_bitCount_0f7a4 := goodIn_r _ [51, 52, 53, 54] (by decide +kernel) (by decide +kernel)
set_option maxRecDepth 20000 in
theorem gX6_force_J6_bitCount_0f7a4 : GoodIn wsX6_force (va_wsS RX6 103 yJ6_bitCount_0f7a4 wsJ6_bitCount_0f7a4) := goodIn_app (goodIn_of _ (by decide +kernel)) ggX6_force_J6_bitCount_0f7a4
set_option maxRecDepth 20000 in
theorem ggX6_lineLength_X6_writeLine : GoodIn wsX6_lineLength wsX6_writeLine := goodIn_r _ [6, 1, 7, 8, 9, 10, 11, 5, 12, 13, 14, 15, 16, 17, 18, 19, 20, 21, 22, 23, 24, 25, 26, 27, 28, 29, 30, 31, 32, 33, 34, 35, 36, 37, 38, 39, 40, 41, 42, 43, 44, 45, 46, 47, 48, 49, 50, 51, 52, 53, 54, 55, 56, 57, 58, 59, 60, 61, 62, 63, 64, 65, 66, 67, 68, 69, 70, 71, 72, 73, 74, 75, 76, 77, 78, 79, 80, 81, 82, 83, 84, 85, 88, 89, 90, 91, 92, 93, 94, 95, 96, 97, 98, 99, 100, 101, 102, 86, 87] (by decide +kernel) (by decide +kernel)
set_option maxRecDepth 20000 in
theorem gX6_lineLength_X6_writeLine : GoodIn wsX6_lineLength (wsV RX6 237 RX6 yX6_writeLine wsX6_writeLine) := goodIn_app (goodIn_of _ (by decide +kernel)) ggX6_lineLength_X6_writeLine
set_option maxRecDepth 20000 in
theorem ggX6_lineAt_X6_writeLine : GoodIn wsX6_lineAt wsX6_writeLine := goodIn_r _ [8, 3, 9, 10, 11, 12, 13, 7, 14, 15, 16, 17, 18, 19, 20, 21, 22, 23, 24, 25, 26, 27, 28, 29, 30, 31, 32, 33, 34, 35, 36, 37, 38, 39, 40, 41, 42, 43, 44, 45, 46, 47, 48, 49, 50, 51, 52, 53, 54, 55, 56, 57, 58, 59, 60, 61, 62, 63, 64, 65, 66, 67, 68, 69, 70, 71, 72, 73, 74, 75, 76, 77, 78, 79, 80, 81, 82, 83, 84, 85, 86, 87, 90, 91, 92, 93, 94, 95, 96, 97, 98, 99, 100, 101, 102, 103, 104, 88, 89] (by decide +kernel) (by decide +kernel)
set_option maxRecDepth 20000 in
theorem gX6_lineAt_X6_writeLine : GoodIn wsX6_lineAt (wsV RX6 237 RX6 yX6_writeLine wsX6_writeLine) := goodIn_app (goodIn_of _ (by decide +kernel)) ggX6_lineAt_X6_writeLine
set_option maxRecDepth 20000 in
theorem ggX6_knownShare_X6_countUnknown : GoodIn wsX6_knownShare wsX6_countUnknown := goodIn_r _ [6, 1, 7, 8, 9, 10, 5, 11, 12, 13, 14, 15, 16, 17, 18, 19, 20, 21, 22, 23, 24, 25, 26, 27, 28, 29, 30, 31, 32, 33, 34, 35, 36, 37, 38, 39, 40, 41, 42, 43, 44, 45, 46, 47, 48, 49, 50, 51, 52, 53, 54, 55, 56, 57, 58, 59, 60, 61, 62, 63, 64, 65, 66, 67, 68, 69, 70, 71, 72, 73, 74, 75, 76, 77, 78, 79, 80, 81, 82, 83, 84, 85, 86, 87, 88, 89, 90] (by decide +kernel) (by decide +kernel)
set_option maxRecDepth 20000 in
theorem gX6_knownShare_X6_countUnknown : GoodIn wsX6_knownShare (wsV RX6 147 RX6 yX6_countUnknown wsX6_countUnknown) := goodIn_app (goodIn_of _ (by decide +kernel)) ggX6_knownShare_X6_countUnknown

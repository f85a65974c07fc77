set_option maxRecDepth 20000 in
theorem ggX7_decides_X7_isNoneLeft : GoodIn wsX7_decides wsX7_isNoneLeft := goodIn_r _ [27, 8, 28, 29, 30, 6, 31, 1, 2, 32, 33, 34, 35, 36, 37, 38, 39, 40, 41, 21, 22, 23, 9, 10, 11, 42, 43, 44, 45, 46, 47, 48, 49, 89, 90, 91, 92, 93, 94, 95, 96, 97, 98, 99, 100, 101, 102, 103, 104, 105, 106, 107, 108, 109, 110, 111, 112] (by decide +kernel) (by decide +kernel)
set_option maxRecDepth 20000 in
theorem gX7_decides_X7_isNoneLeft : GoodIn wsX7_decides (wsV RX7 101 RX7 yX7_isNoneLeft wsX7_isNoneLeft) := goodIn_app (goodIn_of _ (by decide +kernel)) ggX7_decides_X7_isNoneLeft
set_option maxRecDepth 20000 in
theorem ggX7_decides_X7_unknowns : GoodIn wsX7_decides wsX7_unknowns := goodIn_r _ [53, 8, 54, 55, 56, 57, 58, 6, 59, 1, 2, 60, 17, 18, 19, 20, 21, 22, 23, 61, 62, 63, 64, 36, 37, 39, 38, 40, 41, 65, 66, 67, 68, 69, 70, 71, 72, 73, 74, 75, 76, 77, 78, 79, 80, 81, 46, 48, 47, 49, 82, 83, 84, 85, 86, 87, 88, 89, 90, 91, 92, 93, 94, 95, 96, 97, 98, 99, 100, 101, 102, 103, 104, 105, 106, 107, 108, 109, 110, 111, 112] (by decide +kernel) (by decide +kernel)
set_option maxRecDepth 20000 in
theorem gX7_decides_X7_unknowns : GoodIn wsX7_decides (wsV RX7 112 RX7 yX7_unknowns wsX7_unknowns) := goodIn_app (goodIn_of _ (by decide +kernel)) ggX7_decides_X7_unknowns
set_option maxRecDepth 20000 in
theorem ggX7_choose_X7_decides : GoodIn wsX7_choose wsX7_decides := goodIn_r _ [5, 6, 7, 8, 9, 10, 4, 11, 12, 13, 14, 15, 16, 17, 18, 19, 20, 21, 22, 23, 24, 25, 26, 27, 28, 29, 30, 31, 32, 33, 34, 35, 36, 37, 38, 39, 40, 41, 42, 43, 44, 45, 46, 47, 48, 49, 50, 51, 52, 53, 54, 55, 56, 57, 58, 59, 60, 61, 62, 63, 64, 65, 66, 67, 68, 69, 70, 71, 72, 73, 74, 75, 76, 77, 78, 79, 80, 81, 82, 83, 84, 85, 86, 87, 88, 89, 90, 91, 92, 93, 94, 95, 96, 97, 98, 99, 100, 101, 102, 103, 104, 105, 106, 107, 108, 109, 110, 111, 112, 113, 114, 115, 116] (by decide +kernel) (by decide +kernel)
set_option maxRecDepth 20000 in
theorem gX7_choose_X7_decides : GoodIn wsX7_choose (wsV RX7 116 RX7 yX7_decides wsX7_decides) := goodIn_app (goodIn_of _ (by decide +kernel)) ggX7_choose_X7_decides
set_option maxRecDepth 20000 in
theorem ggX7_refuse_X7_decides : GoodIn wsX7_refuse wsX7_decides := goodIn_r _ [5, 6, 7, 8, 9, 10, 4, 11, 12, 13, 14, 15, 16, 17, 18, 19, 20, 21, 22, 23, 24, 25, 26, 27, 28, 29, 30, 31, 32, 33, 34, 35, 36, 37, 38, 39, 40, 41, 42, 43, 44, 45, 46, 47, 48, 49, 50, 51, 52, 53, 54, 55, 56, 57, 58, 59, 60, 61, 62, 63, 64, 65, 66, 67, 68, 69, 70, 71, 72, 73, 74, 75, 76, 77, 78, 79, 80, 81, 82, 83, 84, 85, 86, 87, 88, 89, 90, 91, 92, 93, 94, 95, 96, 97, 98, 99, 100, 101, 102, 103, 104, 105, 106, 107, 108, 109, 110, 111, 112, 113, 114, 115, 116] (by decide +kernel) (by decide +kernel)
set_option maxRecDepth 20000 in
theorem gX7_refuse_X7_decides : GoodIn wsX7_refuse (wsV RX7 116 RX7 yX7_decides wsX7_decides) := goodIn_app (goodIn_of _ (by decide +kernel)) ggX7_refuse_X7_decides
set_option maxRecDepth 20000 in
theorem ggX7_retract_X7_isNone : GoodIn wsX7_retract wsX7_isNone := goodIn_r _ [7, 8, 9, 10, 6, 11, 24, 25, 26, 27, 28, 29, 30, 31, 32, 33, 34, 35, 36, 37, 38, 39, 40, 41, 42, 43, 44, 45, 46, 47] (by decide +kernel) (by decide +kernel)
set_option maxRecDepth 20000 in
theorem gX7_retract_X7_isNone : GoodIn wsX7_retract (wsV RX7 94 RX7 yX7_isNone wsX7_isNone) := goodIn_app (goodIn_of _ (by decide +kernel)) ggX7_retract_X7_isNone
set_option maxRecDepth 20000 in
theorem ggX7_retract_X7_isThrown : GoodIn wsX7_retract wsX7_isThrown := goodIn_r _ [15, 16, 24, 25, 26, 27, 28, 29, 30, 31, 32, 33, 34, 35, 36, 37, 38, 39, 40, 41, 42, 43, 44, 45, 46, 47] (by decide +kernel) (by decide +kernel)
set_option maxRecDepth 20000 in
theorem gX7_retract_X7_isThrown : GoodIn wsX7_retract (wsV RX7 97 RX7 yX7_isThrown wsX7_isThrown) := goodIn_app (goodIn_of _ (by decide +kernel)) ggX7_retract_X7_isThrown
set_option maxRecDepth 20000 in
theorem ggX7_retract_X7_isDecided : GoodIn wsX7_retract wsX7_isDecided := goodIn_r _ [20, 1, 2, 21, 22, 6, 23, 24, 25, 26, 27, 28, 29, 30, 31, 32, 33, 34, 35, 36, 37, 38, 39, 40, 41, 42, 43, 44, 45, 46, 47] (by decide +kernel) (by decide +kernel)
set_option maxRecDepth 20000 in
theorem gX7_retract_X7_isDecided : GoodIn wsX7_retract (wsV RX7 109 RX7 yX7_isDecided wsX7_isDecided) := goodIn_app (goodIn_of _ (by decide +kernel)) ggX7_retract_X7_isDecided
set_option maxRecDepth 20000 in
theorem ggX7_retract_X7_has : GoodIn wsX7_retract wsX7_has := goodIn_r _ [23] (by decide +kernel) (by decide +kernel)
set_option maxRecDepth 20000 in
theorem gX7_retract_X7_has : GoodIn wsX7_retract (va_wsS RX7 71 yX7_has wsX7_has) := goodIn_app (goodIn_of _ (by decide +kernel)) ggX7_retract_X7_has
set_option maxRecDepth 20000 in
theorem ggX7_retractAll_J6_bitCount_0f7a4 : GoodIn wsX7_retractAll wsJ6_bitCount_0f7a4 := goodIn_r _ [7, 8, 9, 10] (by decide +kernel) (by decide +kernel)
set_option maxRecDepth 20000 in
theorem gX7_retractAll_J6_bitCount_0f7a4 : GoodIn wsX7_retractAll (va_wsS RX7 120 yJ6_bitCount_0f7a4 wsJ6_bitCount_0f7a4) := goodIn_app (goodIn_of _ (by decide +kernel)) ggX7_retractAll_J6_bitCount_0f7a4
set_option maxRecDepth 20000 in
theorem ggX7_stateOf_X7_isNone : GoodIn wsX7_stateOf wsX7_isNone := goodIn_r _ [8, 1, 9, 10, 7, 11, 42, 43, 44, 45, 46, 47, 48, 49, 50, 51, 52, 53, 54, 55, 56, 57, 58, 59, 60, 61, 62, 63, 64, 65] (by decide +kernel) (by decide +kernel)
set_option maxRecDepth 20000 in
theorem gX7_stateOf_X7_isNone : GoodIn wsX7_stateOf (wsV RX7 94 RX7 yX7_isNone wsX7_isNone) := goodIn_app (goodIn_of _ (by decide +kernel)) ggX7_stateOf_X7_isNone
set_option maxRecDepth 20000 in
theorem ggX7_stateOf_X7_isThrown : GoodIn wsX7_stateOf wsX7_isThrown := goodIn_r _ [15, 16, 42, 43, 44, 45, 46, 47, 48, 49, 50, 51, 52, 53, 54, 55, 56, 57, 58, 59, 60, 61, 62, 63, 64, 65] (by decide +kernel) (by decide +kernel)
set_option maxRecDepth 20000 in
theorem gX7_stateOf_X7_isThrown : GoodIn wsX7_stateOf (wsV RX7 97 RX7 yX7_isThrown wsX7_isThrown) := goodIn_app (goodIn_of _ (by decide +kernel)) ggX7_stateOf_X7_isThrown
set_option maxRecDepth 20000 in
theorem ggX7_stateOf_X7_completes : GoodIn wsX7_stateOf wsX7_completes := goodIn_r _ [20, 2, 3, 21, 22, 23, 7, 24, 1, 25, 26, 27, 28, 29, 30, 31, 32, 33, 9, 10, 11, 34, 35, 36, 37, 38, 39, 40, 41, 42, 43, 44, 45, 46, 47, 48, 49, 50, 51, 52, 53, 54, 55, 56, 57, 58, 59, 60, 61, 62, 63, 64, 65] (by decide +kernel) (by decide +kernel)
set_option maxRecDepth 20000 in
theorem gX7_stateOf_X7_completes : GoodIn wsX7_stateOf (wsV RX7 91 RX7 yX7_completes wsX7_completes) := goodIn_app (goodIn_of _ (by decide +kernel)) ggX7_stateOf_X7_completes
set_option maxRecDepth 20000 in
theorem ggX7_stateOf_X7_has : GoodIn wsX7_stateOf wsX7_has := goodIn_r _ [33] (by decide +kernel) (by decide +kernel)
set_option maxRecDepth 20000 in
theorem gX7_stateOf_X7_has : GoodIn wsX7_stateOf (va_wsS RX7 71 yX7_has wsX7_has) := goodIn_app (goodIn_of _ (by decide +kernel)) ggX7_stateOf_X7_has
set_option maxRecDepth 20000 in
theorem ggX7_stateByAll_X7_stateOf : GoodIn wsX7_stateByAll wsX7_stateOf := goodIn_r _ [5, 6, 7, 8, 9, 10, 11, 4, 12, 13, 14, 15, 16, 17, 18, 19, 20, 21, 22, 23, 24, 25, 26, 27, 28, 29, 30, 31, 32, 33, 34, 35, 36, 37, 38, 39, 40, 41, 42, 43, 44, 45, 46, 47, 48, 49, 50, 51, 52, 53, 54, 55, 56, 57, 58, 59, 60, 61, 62, 63, 64, 65, 66, 67, 68, 69] (by decide +kernel) (by decide +kernel)
set_option maxRecDepth 20000 in
theorem gX7_stateByAll_X7_stateOf : GoodIn wsX7_stateByAll (wsV RX7 126 RX7 yX7_stateOf wsX7_stateOf) := goodIn_app (goodIn_of _ (by decide +kernel)) ggX7_stateByAll_X7_stateOf
set_option maxRecDepth 20000 in
theorem ggX7_children_X7_has : GoodIn wsX7_children wsX7_has := goodIn_r _ [8] (by decide +kernel) (by decide +kernel)
set_option maxRecDepth 20000 in
theorem gX7_children_X7_has : GoodIn wsX7_children (va_wsS RX7 71 yX7_has wsX7_has) := goodIn_app (goodIn_of _ (by decide +kernel)) ggX7_children_X7_has
set_option maxRecDepth 20000 in
theorem ggX7_hasOffChild_X7_has : GoodIn wsX7_hasOffChild wsX7_has := goodIn_r _ [8] (by decide +kernel) (by decide +kernel)
set_option maxRecDepth 20000 in
theorem gX7_hasOffChild_X7_has : GoodIn wsX7_hasOffChild (va_wsS RX7 71 yX7_has wsX7_has) := goodIn_app (goodIn_of _ (by decide +kernel)) ggX7_hasOffChild_X7_has
set_option maxRecDepth 20000 in
theorem ggX7_told_X7_has : GoodIn wsX7_told wsX7_has := goodIn_r _ [10] (by decide +kernel) (by decide +kernel)
set_option maxRecDepth 20000 in
theorem gX7_told_X7_has : GoodIn wsX7_told (va_wsS RX7 71 yX7_has wsX7_has) := goodIn_app (goodIn_of _ (by decide +kernel)) ggX7_told_X7_has
set_option maxRecDepth 20000 in
theorem ggX7_isKnown_X7_children : GoodIn wsX7_isKnown wsX7_children := goodIn_r _ [14, 15, 1, 4, 2, 16, 17, 13, 18, 36, 37, 38, 39, 40, 41, 42, 43, 44, 45, 46, 47, 48, 49, 50, 51, 52, 53, 54, 55, 56, 57, 58, 59] (by decide +kernel) (by decide +kernel)
set_option maxRecDepth 20000 in
theorem gX7_isKnown_X7_children : GoodIn wsX7_isKnown (wsV RX7 136 RX7 yX7_children wsX7_children) := goodIn_app (goodIn_of _ (by decide +kernel)) ggX7_isKnown_X7_children
set_option maxRecDepth 20000 in
theorem ggX7_isKnown_X7_becomes : GoodIn wsX7_isKnown wsX7_becomes := goodIn_r _ [22, 4, 2, 23, 36, 37, 38, 39, 40, 41, 42, 43, 44, 45, 46, 47, 48, 49, 50, 51, 52, 53, 54, 55, 56, 57, 58, 59] (by decide +kernel) (by decide +kernel)
set_option maxRecDepth 20000 in
theorem gX7_isKnown_X7_becomes : GoodIn wsX7_isKnown (wsV RX7 139 RX7 yX7_becomes wsX7_becomes) := goodIn_app (goodIn_of _ (by decide +kernel)) ggX7_isKnown_X7_becomes
set_option maxRecDepth 20000 in
theorem ggX7_isKnown_X7_has : GoodIn wsX7_isKnown wsX7_has := goodIn_r _ [18] (by decide +kernel) (by decide +kernel)
set_option maxRecDepth 20000 in
theorem gX7_isKnown_X7_has : GoodIn wsX7_isKnown (va_wsS RX7 71 yX7_has wsX7_has) := goodIn_app (goodIn_of _ (by decide +kernel)) ggX7_isKnown_X7_has
set_option maxRecDepth 20000 in
theorem ggX7_isKnown_X7_hasOffChild : GoodIn wsX7_isKnown wsX7_hasOffChild := goodIn_r _ [27, 15, 1, 3, 2, 16, 17, 13, 18, 36, 37, 38, 39, 40, 41, 42, 43, 44, 45, 46, 47, 48, 49, 50, 51, 52, 53, 54, 55, 56, 57, 58, 59] (by decide +kernel) (by decide +kernel)
set_option maxRecDepth 20000 in
theorem gX7_isKnown_X7_hasOffChild : GoodIn wsX7_isKnown (wsV RX7 143 RX7 yX7_hasOffChild wsX7_hasOffChild) := goodIn_app (goodIn_of _ (by decide +kernel)) ggX7_isKnown_X7_hasOffChild
set_option maxRecDepth 20000 in
theorem ggX7_isKnown_X7_told : GoodIn wsX7_isKnown wsX7_told := goodIn_r _ [31, 32, 33, 4, 34, 2, 35, 16, 17, 13, 18, 36, 37, 38, 39, 40, 41, 42, 43, 44, 45, 46, 47, 48, 49, 50, 51, 52, 53, 54, 55, 56, 57, 58, 59] (by decide +kernel) (by decide +kernel)
set_option maxRecDepth 20000 in
theorem gX7_isKnown_X7_told : GoodIn wsX7_isKnown (wsV RX7 146 RX7 yX7_told wsX7_told) := goodIn_app (goodIn_of _ (by decide +kernel)) ggX7_isKnown_X7_told
set_option maxRecDepth 20000 in
theorem ggX7_deduces_X7_isDecided : GoodIn wsX7_deduces wsX7_isDecided := goodIn_r _ [11, 1, 3, 12, 13, 10, 14, 46, 47, 48, 49, 50, 51, 52, 53, 54, 55, 56, 57, 58, 59, 60, 61, 62, 63, 64, 65, 66, 67, 68, 69] (by decide +kernel) (by decide +kernel)
set_option maxRecDepth 20000 in
theorem gX7_deduces_X7_isDecided : GoodIn wsX7_deduces (wsV RX7 109 RX7 yX7_isDecided wsX7_isDecided) := goodIn_app (goodIn_of _ (by decide +kernel)) ggX7_deduces_X7_isDecided
set_option maxRecDepth 20000 in
theorem ggX7_deduces_X7_has : GoodIn wsX7_deduces wsX7_has := goodIn_r _ [14] (by decide +kernel) (by decide +kernel)
set_option maxRecDepth 20000 in
theorem gX7_deduces_X7_has : GoodIn wsX7_deduces (va_wsS RX7 71 yX7_has wsX7_has) := goodIn_app (goodIn_of _ (by decide +kernel)) ggX7_deduces_X7_has
set_option maxRecDepth 20000 in
theorem ggX7_deduces_X7_isKnown : GoodIn wsX7_deduces wsX7_isKnown := goodIn_r _ [18, 19, 4, 20, 2, 21, 22, 23, 24, 25, 26, 27, 28, 10, 29, 5, 12, 13, 14, 30, 31, 32, 33, 6, 34, 35, 36, 37, 38, 39, 40, 41, 42, 43, 44, 45, 46, 47, 48, 49, 50, 51, 52, 53, 54, 55, 56, 57, 58, 59, 60, 61, 62, 63, 64, 65, 66, 67, 68, 69] (by decide +kernel) (by decide +kernel)
set_option maxRecDepth 20000 in
theorem gX7_deduces_X7_isKnown : GoodIn wsX7_deduces (wsV RX7 150 RX7 yX7_isKnown wsX7_isKnown) := goodIn_app (goodIn_of _ (by decide +kernel)) ggX7_deduces_X7_isKnown
set_option maxRecDepth 20000 in
theorem ggX7_unknowns_X7_deduces : GoodIn wsX7_unknowns wsX7_deduces := goodIn_r _ [8, 9, 2, 10, 3, 1, 11, 12, 13, 14, 7, 15, 16, 17, 18, 19, 20, 21, 22, 23, 24, 25, 26, 27, 28, 29, 30, 31, 32, 33, 34, 35, 36, 37, 38, 39, 40, 41, 42, 43, 44, 45, 46, 47, 48, 49, 57, 58, 59, 60, 61, 62, 63, 64, 65, 66, 67, 68, 69, 70, 71, 72, 73, 74, 75, 76, 77, 78, 79, 80] (by decide +kernel) (by decide +kernel)
set_option maxRecDepth 20000 in
theorem gX7_unknowns_X7_deduces : GoodIn wsX7_unknowns (wsV RX7 153 RX7 yX7_deduces wsX7_deduces) := goodIn_app (goodIn_of _ (by decide +kernel)) ggX7_unknowns_X7_deduces
set_option maxRecDepth 20000 in
theorem ggX7_unknowns_J6_bitCount_0f7a4 : GoodIn wsX7_unknowns wsJ6_bitCount_0f7a4 := goodIn_r _ [53, 54, 55, 56] (by decide +kernel) (by decide +kernel)
set_option maxRecDepth 20000 in
theorem gX7_unknowns_J6_bitCount_0f7a4 : GoodIn wsX7_unknowns (va_wsS RX7 120 yJ6_bitCount_0f7a4 wsJ6_bitCount_0f7a4) := goodIn_app (goodIn_of _ (by decide +kernel)) ggX7_unknowns_J6_bitCount_0f7a4
set_option maxRecDepth 20000 in
theorem ggX7_known_X7_deduces : GoodIn wsX7_known wsX7_deduces := goodIn_r _ [7, 8, 1, 9, 2, 10, 11, 12, 13, 14, 6, 15, 16, 17, 18, 19, 20, 21, 22, 23, 24, 25, 26, 27, 28, 29, 30, 31, 32, 33, 34, 35, 36, 37, 38, 39, 40, 41, 42, 43, 44, 45, 46, 47, 48, 49, 62, 63, 64, 65, 66, 67, 68, 69, 70, 71, 72, 73, 74, 75, 76, 77, 78, 79, 80, 81, 82, 83, 84, 85] (by decide +kernel) (by decide +kernel)
set_option maxRecDepth 20000 in
theorem gX7_known_X7_deduces : GoodIn wsX7_known (wsV RX7 153 RX7 yX7_deduces wsX7_deduces) := goodIn_app (goodIn_of _ (by decide +kernel)) ggX7_known_X7_deduces
set_option maxRecDepth 20000 in
theorem ggX7_known_X7_isNone : GoodIn wsX7_known wsX7_isNone := goodIn_r _ [53, 10, 54, 55, 6, 56, 62, 63, 64, 65, 66, 67, 68, 69, 70, 71, 72, 73, 74, 75, 76, 77, 78, 79, 80, 81, 82, 83, 84, 85] (by decide +kernel) (by decide +kernel)
set_option maxRecDepth 20000 in
theorem gX7_known_X7_isNone : GoodIn wsX7_known (wsV RX7 94 RX7 yX7_isNone wsX7_isNone) := goodIn_app (goodIn_of _ (by decide +kernel)) ggX7_known_X7_isNone
set_option maxRecDepth 20000 in
theorem ggX7_known_X7_isThrown : GoodIn wsX7_known wsX7_isThrown := goodIn_r _ [60, 61, 62, 63, 64, 65, 66, 67, 68, 69, 70, 71, 72, 73, 74, 75, 76, 77, 78, 79, 80, 81, 82, 83, 84, 85] (by decide +kernel) (by decide +kernel)
set_option maxRecDepth 20000 in
theorem gX7_known_X7_isThrown : GoodIn wsX7_known (wsV RX7 97 RX7 yX7_isThrown wsX7_isThrown) := goodIn_app (goodIn_of _ (by decide +kernel)) ggX7_known_X7_isThrown
set_option maxRecDepth 20000 in
theorem ggX7_known_X7_has : GoodIn wsX7_known wsX7_has := goodIn_r _ [18] (by decide +kernel) (by decide +kernel)
set_option maxRecDepth 20000 in
theorem gX7_known_X7_has : GoodIn wsX7_known (va_wsS RX7 71 yX7_has wsX7_has) := goodIn_app (goodIn_of _ (by decide +kernel)) ggX7_known_X7_has
set_option maxRecDepth 20000 in
theorem ggX7_reasonOf_X7_deduces : GoodIn wsX7_reasonOf wsX7_deduces := goodIn_r _ [6, 7, 8, 9, 10, 11, 1, 12, 13, 14, 5, 15, 16, 17, 18, 19, 20, 21, 22, 23, 24, 25, 26, 27, 28, 29, 30, 31, 32, 33, 34, 35, 36, 37, 38, 39, 40, 41, 42, 43, 44, 45, 46, 47, 48, 49, 62, 63, 64, 65, 66, 67, 68, 69, 70, 71, 72, 73, 74, 75, 76, 77, 78, 79, 80, 81, 82, 83, 84, 85] (by decide +kernel) (by decide +kernel)
set_option maxRecDepth 20000 in
theorem gX7_reasonOf_X7_deduces : GoodIn wsX7_reasonOf (wsV RX7 153 RX7 yX7_deduces wsX7_deduces) := goodIn_app (goodIn_of _ (by decide +kernel)) ggX7_reasonOf_X7_deduces
set_option maxRecDepth 20000 in
theorem ggX7_reasonOf_X7_isNone : GoodIn wsX7_reasonOf wsX7_isNone := goodIn_r _ [53, 11, 54, 55, 5, 56, 62, 63, 64, 65, 66, 67, 68, 69, 70, 71, 72, 73, 74, 75, 76, 77, 78, 79, 80, 81, 82, 83, 84, 85] (by decide +kernel) (by decide +kernel)
set_option maxRecDepth 20000 in
theorem gX7_reasonOf_X7_isNone : GoodIn wsX7_reasonOf (wsV RX7 94 RX7 yX7_isNone wsX7_isNone) := goodIn_app (goodIn_of _ (by decide +kernel)) ggX7_reasonOf_X7_isNone
set_option maxRecDepth 20000 in
theorem ggX7_reasonOf_X7_isThrown : GoodIn wsX7_reasonOf wsX7_isThrown := goodIn_r _ [60, 61, 62, 63, 64, 65, 66, 67, 68, 69, 70, 71, 72, 73, 74, 75, 76, 77, 78, 79, 80, 81, 82, 83, 84, 85] (by decide +kernel) (by decide +kernel)
set_option maxRecDepth 20000 in
theorem gX7_reasonOf_X7_isThrown : GoodIn wsX7_reasonOf (wsV RX7 97 RX7 yX7_isThrown wsX7_isThrown) := goodIn_app (goodIn_of _ (by decide +kernel)) ggX7_reasonOf_X7_isThrown
set_option maxRecDepth 20000 in
theorem ggX7_reasonRule_X7_deduces : GoodIn wsX7_reasonRule wsX7_deduces := goodIn_r _ [7, 8, 9, 10, 11, 12, 1, 13, 14, 15, 6, 16, 17, 18, 19, 20, 21, 22, 23, 24, 25, 26, 27, 28, 29, 2, 30, 31, 32, 33, 34, 35, 36, 37, 38, 39, 40, 41, 42, 43, 44, 45, 46, 47, 48, 49, 62, 63, 64, 65, 66, 67, 68, 69, 70, 71, 72, 73, 74, 75, 76, 77, 78, 79, 80, 81, 82, 83, 84, 85] (by decide +kernel) (by decide +kernel)
set_option maxRecDepth 20000 in
theorem gX7_reasonRule_X7_deduces : GoodIn wsX7_reasonRule (wsV RX7 153 RX7 yX7_deduces wsX7_deduces) := goodIn_app (goodIn_of _ (by decide +kernel)) ggX7_reasonRule_X7_deduces
set_option maxRecDepth 20000 in
theorem ggX7_reasonRule_X7_isNone : GoodIn wsX7_reasonRule wsX7_isNone := goodIn_r _ [53, 12, 54, 55, 6, 56, 62, 63, 64, 65, 66, 67, 68, 69, 70, 71, 72, 73, 74, 75, 76, 77, 78, 79, 80, 81, 82, 83, 84, 85] (by decide +kernel) (by decide +kernel)
set_option maxRecDepth 20000 in
theorem gX7_reasonRule_X7_isNone : GoodIn wsX7_reasonRule (wsV RX7 94 RX7 yX7_isNone wsX7_isNone) := goodIn_app (goodIn_of _ (by decide +kernel)) ggX7_reasonRule_X7_isNone
set_option maxRecDepth 20000 in
theorem ggX7_reasonRule_X7_isThrown : GoodIn wsX7_reasonRule wsX7_isThrown := goodIn_r _ [60, 61, 62, 63, 64, 65, 66, 67, 68, 69, 70, 71, 72, 73, 74, 75, 76, 77, 78, 79, 80, 81, 82, 83, 84, 85] (by decide +kernel) (by decide +kernel)
set_option maxRecDepth 20000 in
theorem gX7_reasonRule_X7_isThrown : GoodIn wsX7_reasonRule (wsV RX7 97 RX7 yX7_isThrown wsX7_isThrown) := goodIn_app (goodIn_of _ (by decide +kernel)) ggX7_reasonRule_X7_isThrown
set_option maxRecDepth 20000 in
theorem ggX7_unknown_X7_unknowns : GoodIn wsX7_unknown wsX7_unknowns := goodIn_r _ [6, 7, 8, 9, 10, 11, 12, 5, 13, 14, 15, 16, 17, 18, 19, 20, 21, 22, 23, 24, 25, 26, 27, 28, 29, 30, 31, 32, 33, 34, 35, 36, 37, 38, 39, 40, 41, 42, 43, 44, 45, 46, 47, 48, 49, 50, 51, 52, 53, 54, 55, 56, 57, 58, 59, 60, 61, 62, 63, 64, 65, 66, 67, 68, 69, 70, 71, 72, 73, 74, 75, 76, 77, 78, 79, 80, 81, 82, 83, 84, 85] (by decide +kernel) (by decide +kernel)
set_option maxRecDepth 20000 in
theorem gX7_unknown_X7_unknowns : GoodIn wsX7_unknown (wsV RX7 112 RX7 yX7_unknowns wsX7_unknowns) := goodIn_app (goodIn_of _ (by decide +kernel)) ggX7_unknown_X7_unknowns
set_option maxRecDepth 20000 in
theorem ggX7_isNoSet_X7_isThrown : GoodIn wsX7_isNoSet wsX7_isThrown := goodIn_r _ [6, 7, 8, 9, 10, 11, 12, 13, 14, 15, 16, 17, 18, 19, 20, 21, 22, 23, 24, 25, 26, 27, 28, 29, 30, 31] (by decide +kernel) (by decide +kernel)
set_option maxRecDepth 20000 in
theorem gX7_isNoSet_X7_isThrown : GoodIn wsX7_isNoSet (wsV RX7 97 RX7 yX7_isThrown wsX7_isThrown) := goodIn_app (goodIn_of _ (by decide +kernel)) ggX7_isNoSet_X7_isThrown
set_option maxRecDepth 20000 in
theorem ggX7_isConfiguration_X7_isNoSet : GoodIn wsX7_isConfiguration wsX7_isNoSet := goodIn_r _ [5, 6, 7, 8, 9, 4, 10, 11, 36, 37, 38, 39, 40, 41, 42, 43, 44, 45, 46, 47, 48, 49, 50, 51, 52, 53, 54, 55, 56, 57, 58, 59] (by decide +kernel) (by decide +kernel)
set_option maxRecDepth 20000 in
theorem gX7_isConfiguration_X7_isNoSet : GoodIn wsX7_isConfiguration (wsV RX7 156 RX7 yX7_isNoSet wsX7_isNoSet) := goodIn_app (goodIn_of _ (by decide +kernel)) ggX7_isConfiguration_X7_isNoSet
set_option maxRecDepth 20000 in
theorem ggX7_isConfiguration_X7_isGood : GoodIn wsX7_isConfiguration wsX7_isGood := goodIn_r _ [15, 6, 16, 17, 18, 19, 20, 21, 22, 23, 4, 24, 25, 26, 27, 28, 29, 30, 31, 32, 33, 34, 35, 36, 37, 38, 39, 40, 41, 42, 43, 44, 45, 46, 47, 48, 49, 50, 51, 52, 53, 54, 55, 56, 57, 58, 59] (by decide +kernel) (by decide +kernel)
set_option maxRecDepth 20000 in
theorem gX7_isConfiguration_X7_isGood : GoodIn wsX7_isConfiguration (wsV RX7 87 RX7 yX7_isGood wsX7_isGood) := goodIn_app (goodIn_of _ (by decide +kernel)) ggX7_isConfiguration_X7_isGood
set_option maxRecDepth 20000 in
theorem ggX7_completions_X7_completes : GoodIn wsX7_completions wsX7_completes := goodIn_r _ [7, 8, 9, 10, 11, 12, 6, 13, 2, 14, 15, 16, 17, 18, 19, 20, 21, 22, 23, 24, 25, 26, 27, 28, 29, 30, 31, 32, 33, 34, 35, 36, 37, 38, 39, 40, 41, 42, 43, 44, 45, 46, 47, 48, 49, 50, 51, 52, 53, 54, 55, 56, 57] (by decide +kernel) (by decide +kernel)
set_option maxRecDepth 20000 in
theorem gX7_completions_X7_completes : GoodIn wsX7_completions (wsV RX7 91 RX7 yX7_completes wsX7_completes) := goodIn_app (goodIn_of _ (by decide +kernel)) ggX7_completions_X7_completes
set_option maxRecDepth 20000 in
theorem ggX7_completionsByAll_X7_completions : GoodIn wsX7_completionsByAll wsX7_completions := goodIn_r _ [5, 6, 7, 8, 9, 10, 4, 11, 12, 13, 14, 15, 16, 17, 18, 19, 20, 21, 22, 23, 24, 25, 26, 27, 28, 29, 30, 31, 32, 33, 34, 35, 36, 37, 38, 39, 40, 41, 42, 43, 44, 45, 46, 47, 48, 49, 50, 51, 52, 53, 54, 55, 56, 57, 58, 59, 60, 61] (by decide +kernel) (by decide +kernel)
set_option maxRecDepth 20000 in
theorem gX7_completionsByAll_X7_completions : GoodIn wsX7_completionsByAll (wsV RX7 159 RX7 yX7_completions wsX7_completions) := goodIn_app (goodIn_of _ (by decide +kernel)) ggX7_completionsByAll_X7_completions
set_option maxRecDepth 20000 in
theorem ggX7_addBundle_X7_isNone : GoodIn wsX7_addBundle wsX7_isNone := goodIn_r _ [6, 7, 8, 9, 5, 10, 24, 25, 26, 27, 28, 29, 30, 31, 32, 33, 34, 35, 36, 37, 38, 39, 40, 41, 42, 43, 44, 45, 46, 47] (by decide +kernel) (by decide +kernel)
set_option maxRecDepth 20000 in
theorem gX7_addBundle_X7_isNone : GoodIn wsX7_addBundle (wsV RX7 94 RX7 yX7_isNone wsX7_isNone) := goodIn_app (goodIn_of _ (by decide +kernel)) ggX7_addBundle_X7_isNone
set_option maxRecDepth 20000 in
theorem ggX7_addBundle_X7_isThrown : GoodIn wsX7_addBundle wsX7_isThrown := goodIn_r _ [14, 15, 24, 25, 26, 27, 28, 29, 30, 31, 32, 33, 34, 35, 36, 37, 38, 39, 40, 41, 42, 43, 44, 45, 46, 47] (by decide +kernel) (by decide +kernel)
set_option maxRecDepth 20000 in
theorem gX7_addBundle_X7_isThrown : GoodIn wsX7_addBundle (wsV RX7 97 RX7 yX7_isThrown wsX7_isThrown) := goodIn_app (goodIn_of _ (by decide +kernel)) ggX7_addBundle_X7_isThrown
set_option maxRecDepth 20000 in
theorem ggX7_addBundle_X7_isIn : GoodIn wsX7_addBundle wsX7_isIn := goodIn_r _ [10] (by decide +kernel) (by decide +kernel)
set_option maxRecDepth 20000 in
theorem gX7_addBundle_X7_isIn : GoodIn wsX7_addBundle (va_wsS RX7 67 yX7_isIn wsX7_isIn) := goodIn_app (goodIn_of _ (by decide +kernel)) ggX7_addBundle_X7_isIn
set_option maxRecDepth 20000 in
theorem ggX7_addBundle_X7_layer : GoodIn wsX7_addBundle wsX7_layer := goodIn_r _ [19, 20, 1, 21, 22, 23, 24, 25, 26, 27, 28, 29, 30, 31, 32, 33, 34, 35, 36, 37, 38, 39, 40, 41, 42, 43, 44, 45, 46, 47] (by decide +kernel) (by decide +kernel)
set_option maxRecDepth 20000 in
theorem gX7_addBundle_X7_layer : GoodIn wsX7_addBundle (wsV RX7 166 RX7 yX7_layer wsX7_layer) := goodIn_app (goodIn_of _ (by decide +kernel)) ggX7_addBundle_X7_layer
set_option maxRecDepth 20000 in
theorem ggX7_addPercent_X7_isIn : GoodIn wsX7_addPercent wsX7_isIn := goodIn_r _ [5] (by decide +kernel) (by decide +kernel)
set_option maxRecDepth 20000 in
theorem gX7_addPercent_X7_isIn : GoodIn wsX7_addPercent (va_wsS RX7 67 yX7_isIn wsX7_isIn) := goodIn_app (goodIn_of _ (by decide +kernel)) ggX7_addPercent_X7_isIn
set_option maxRecDepth 20000 in
theorem ggX7_addPercent_X7_isThrown : GoodIn wsX7_addPercent wsX7_isThrown := goodIn_r _ [9, 10, 19, 20, 21, 22, 23, 24, 25, 26, 27, 28, 29, 30, 31, 32, 33, 34, 35, 36, 37, 38, 39, 40, 41, 42] (by decide +kernel) (by decide +kernel)
set_option maxRecDepth 20000 in
theorem gX7_addPercent_X7_isThrown : GoodIn wsX7_addPercent (wsV RX7 97 RX7 yX7_isThrown wsX7_isThrown) := goodIn_app (goodIn_of _ (by decide +kernel)) ggX7_addPercent_X7_isThrown
set_option maxRecDepth 20000 in
theorem ggX7_addPercent_X7_layer : GoodIn wsX7_addPercent wsX7_layer := goodIn_r _ [14, 15, 1, 16, 17, 18, 19, 20, 21, 22, 23, 24, 25, 26, 27, 28, 29, 30, 31, 32, 33, 34, 35, 36, 37, 38, 39, 40, 41, 42] (by decide +kernel) (by decide +kernel)
set_option maxRecDepth 20000 in
theorem gX7_addPercent_X7_layer : GoodIn wsX7_addPercent (wsV RX7 166 RX7 yX7_layer wsX7_layer) := goodIn_app (goodIn_of _ (by decide +kernel)) ggX7_addPercent_X7_layer
set_option maxRecDepth 20000 in
theorem ggX7_addSurcharge_X7_isIn : GoodIn wsX7_addSurcharge wsX7_isIn := goodIn_r _ [5] (by decide +kernel) (by decide +kernel)
set_option maxRecDepth 20000 in
theorem gX7_addSurcharge_X7_isIn : GoodIn wsX7_addSurcharge (va_wsS RX7 67 yX7_isIn wsX7_isIn) := goodIn_app (goodIn_of _ (by decide +kernel)) ggX7_addSurcharge_X7_isIn
set_option maxRecDepth 20000 in
theorem ggX7_addSurcharge_X7_isThrown : GoodIn wsX7_addSurcharge wsX7_isThrown := goodIn_r _ [9, 10, 19, 20, 21, 22, 23, 24, 25, 26, 27, 28, 29, 30, 31, 32, 33, 34, 35, 36, 37, 38, 39, 40, 41, 42] (by decide +kernel) (by decide +kernel)
set_option maxRecDepth 20000 in
theorem gX7_addSurcharge_X7_isThrown : GoodIn wsX7_addSurcharge (wsV RX7 97 RX7 yX7_isThrown wsX7_isThrown) := goodIn_app (goodIn_of _ (by decide +kernel)) ggX7_addSurcharge_X7_isThrown
set_option maxRecDepth 20000 in
theorem ggX7_addSurcharge_X7_layer : GoodIn wsX7_addSurcharge wsX7_layer := goodIn_r _ [14, 15, 1, 16, 17, 18, 19, 20, 21, 22, 23, 24, 25, 26, 27, 28, 29, 30, 31, 32, 33, 34, 35, 36, 37, 38, 39, 40, 41, 42] (by decide +kernel) (by decide +kernel)
set_option maxRecDepth 20000 in
theorem gX7_addSurcharge_X7_layer : GoodIn wsX7_addSurcharge (wsV RX7 166 RX7 yX7_layer wsX7_layer) := goodIn_app (goodIn_of _ (by decide +kernel)) ggX7_addSurcharge_X7_layer
set_option maxRecDepth 20000 in
theorem ggX7_removeLayer_X7_isThrown : GoodIn wsX7_removeLayer wsX7_isThrown := goodIn_r _ [6, 7, 8, 9, 10, 11, 12, 13, 14, 15, 16, 17, 18, 19, 20, 21, 22, 23, 24, 25, 26, 27, 28, 29, 30, 31] (by decide +kernel) (by decide +kernel)
set_option maxRecDepth 20000 in
theorem gX7_removeLayer_X7_isThrown : GoodIn wsX7_removeLayer (wsV RX7 97 RX7 yX7_isThrown wsX7_isThrown) := goodIn_app (goodIn_of _ (by decide +kernel)) ggX7_removeLayer_X7_isThrown
set_option maxRecDepth 20000 in
theorem ggX7_priced_X7_has : GoodIn wsX7_priced wsX7_has := goodIn_r _ [15] (by decide +kernel) (by decide +kernel)
set_option maxRecDepth 20000 in
theorem gX7_priced_X7_has : GoodIn wsX7_priced (va_wsS RX7 71 yX7_has wsX7_has) := goodIn_app (goodIn_of _ (by decide +kernel)) ggX7_priced_X7_has
set_option maxRecDepth 20000 in
theorem ggX7_priced_J6_bitCount_0f7a4 : GoodIn wsX7_priced wsJ6_bitCount_0f7a4 := goodIn_r _ [19, 20, 21, 22] (by decide +kernel) (by decide +kernel)
set_option maxRecDepth 20000 in
theorem gX7_priced_J6_bitCount_0f7a4 : GoodIn wsX7_priced (va_wsS RX7 120 yJ6_bitCount_0f7a4 wsJ6_bitCount_0f7a4) := goodIn_app (goodIn_of _ (by decide +kernel)) ggX7_priced_J6_bitCount_0f7a4
set_option maxRecDepth 20000 in
theorem ggX7_price_X7_isNoSet : GoodIn wsX7_price wsX7_isNoSet := goodIn_r _ [5, 6, 7, 8, 9, 4, 10, 11, 36, 37, 38, 39, 40, 41, 42, 43, 44, 45, 46, 47, 48, 49, 50, 51, 52, 53, 54, 55, 56, 57, 58, 59] (by decide +kernel) (by decide +kernel)
set_option maxRecDepth 20000 in
theorem gX7_price_X7_isNoSet : GoodIn wsX7_price (wsV RX7 156 RX7 yX7_isNoSet wsX7_isNoSet) := goodIn_app (goodIn_of _ (by decide +kernel)) ggX7_price_X7_isNoSet
set_option maxRecDepth 20000 in
theorem ggX7_price_X7_priced : GoodIn wsX7_price wsX7_priced := goodIn_r _ [15, 6, 16, 17, 18, 19, 20, 21, 22, 23, 24, 25, 26, 27, 4, 28, 29, 30, 31, 32, 33, 34, 35, 36, 37, 38, 39, 40, 41, 42, 43, 44, 45, 46, 47, 48, 49, 50, 51, 52, 53, 54, 55, 56, 57, 58, 59] (by decide +kernel) (by decide +kernel)
set_option maxRecDepth 20000 in
theorem gX7_price_X7_priced : GoodIn wsX7_price (wsV RX7 174 RX7 yX7_priced wsX7_priced) := goodIn_app (goodIn_of _ (by decide +kernel)) ggX7_price_X7_priced
set_option maxRecDepth 20000 in
theorem ggX7_isCheaper_X7_priced : GoodIn wsX7_isCheaper wsX7_priced := goodIn_r _ [5, 6, 7, 8, 9, 10, 11, 12, 13, 14, 15, 16, 17, 18, 4, 19, 20, 21, 22, 23, 24, 25, 26, 27, 28, 29, 30, 31, 32, 33, 34, 35, 36, 37, 38, 39, 40, 41, 42, 43, 44, 45, 46, 47, 48, 49, 50] (by decide +kernel) (by decide +kernel)
set_option maxRecDepth 20000 in
theorem gX7_isCheaper_X7_priced : GoodIn wsX7_isCheaper (wsV RX7 174 RX7 yX7_priced wsX7_priced) := goodIn_app (goodIn_of _ (by decide +kernel)) ggX7_isCheaper_X7_priced
set_option maxRecDepth 20000 in
theorem ggX7_isCheaper_J6_bitCount_0f7a4 : GoodIn wsX7_isCheaper wsJ6_bitCount_0f7a4 := goodIn_r _ [23, 24, 25, 26] (by decide +kernel) (by decide +kernel)
set_option maxRecDepth 20000 in
theorem gX7_isCheaper_J6_bitCount_0f7a4 : GoodIn wsX7_isCheaper (va_wsS RX7 120 yJ6_bitCount_0f7a4 wsJ6_bitCount_0f7a4) := goodIn_app (goodIn_of _ (by decide +kernel)) ggX7_isCheaper_J6_bitCount_0f7a4
set_option maxRecDepth 20000 in
theorem ggX7_cheapest_X7_completes : GoodIn wsX7_cheapest wsX7_completes := goodIn_r _ [7, 8, 9, 10, 11, 12, 6, 13, 2, 14, 15, 16, 17, 18, 19, 20, 21, 22, 23, 24, 25, 26, 27, 28, 29, 30, 31, 32, 33, 59, 60, 61, 62, 63, 64, 65, 66, 67, 68, 69, 70, 71, 72, 73, 74, 75, 76, 77, 78, 79, 80, 81, 82] (by decide +kernel) (by decide +kernel)
set_option maxRecDepth 20000 in
theorem gX7_cheapest_X7_completes : GoodIn wsX7_cheapest (wsV RX7 91 RX7 yX7_completes wsX7_completes) := goodIn_app (goodIn_of _ (by decide +kernel)) ggX7_cheapest_X7_completes
set_option maxRecDepth 20000 in
theorem ggX7_cheapest_X7_isCheaper : GoodIn wsX7_cheapest wsX7_isCheaper := goodIn_r _ [37, 38, 39, 40, 6, 41, 2, 42, 43, 44, 45, 46, 47, 48, 49, 50, 51, 20, 21, 22, 52, 53, 54, 55, 56, 57, 58, 59, 60, 61, 62, 63, 64, 65, 66, 67, 68, 69, 70, 71, 72, 73, 74, 75, 76, 77, 78, 79, 80, 81, 82] (by decide +kernel) (by decide +kernel)
set_option maxRecDepth 20000 in
theorem gX7_cheapest_X7_isCheaper : GoodIn wsX7_cheapest (wsV RX7 177 RX7 yX7_isCheaper wsX7_isCheaper) := goodIn_app (goodIn_of _ (by decide +kernel)) ggX7_cheapest_X7_isCheaper
set_option maxRecDepth 20000 in
theorem ggX7_cheapestByAll_X7_cheapest : GoodIn wsX7_cheapestByAll wsX7_cheapest := goodIn_r _ [5, 6, 7, 8, 9, 10, 4, 11, 12, 13, 14, 15, 16, 17, 18, 19, 20, 21, 22, 23, 24, 25, 26, 27, 28, 29, 30, 31, 32, 33, 34, 35, 36, 37, 38, 39, 40, 41, 42, 43, 44, 45, 46, 47, 48, 49, 50, 51, 52, 53, 54, 55, 56, 57, 58, 59, 60, 61, 62, 63, 64, 65, 66, 67, 68, 69, 70, 71, 72, 73, 74, 75, 76, 77, 78, 79, 80, 81, 82, 83, 84, 85, 86] (by decide +kernel) (by decide +kernel)
set_option maxRecDepth 20000 in
theorem gX7_cheapestByAll_X7_cheapest : GoodIn wsX7_cheapestByAll (wsV RX7 180 RX7 yX7_cheapest wsX7_cheapest) := goodIn_app (goodIn_of _ (by decide +kernel)) ggX7_cheapestByAll_X7_cheapest
set_option maxRecDepth 20000 in
theorem ggX7_complete_X7_cheapest : GoodIn wsX7_complete wsX7_cheapest := goodIn_r _ [8, 9, 1, 10, 11, 12, 7, 13, 2, 3, 14, 15, 16, 17, 18, 19, 20, 21, 22, 23, 24, 25, 26, 27, 28, 29, 30, 31, 32, 33, 34, 35, 36, 37, 38, 39, 40, 41, 42, 43, 44, 45, 46, 47, 48, 49, 50, 51, 52, 53, 54, 55, 56, 57, 58, 59, 60, 61, 62, 63, 64, 65, 66, 67, 68, 69, 70, 71, 72, 73, 74, 75, 76, 77, 78, 79, 80, 81, 82, 83, 84, 85, 86] (by decide +kernel) (by decide +kernel)
set_option maxRecDepth 20000 in
theorem gX7_complete_X7_cheapest : GoodIn wsX7_complete (wsV RX7 180 RX7 yX7_cheapest wsX7_cheapest) := goodIn_app (goodIn_of _ (by decide +kernel)) ggX7_complete_X7_cheapest
set_option maxRecDepth 20000 in
theorem ggX7_complete_X7_has : GoodIn wsX7_complete wsX7_has := goodIn_r _ [26] (by decide +kernel) (by decide +kernel)
set_option maxRecDepth 20000 in
theorem gX7_complete_X7_has : GoodIn wsX7_complete (va_wsS RX7 71 yX7_has wsX7_has) := goodIn_app (goodIn_of _ (by decide +kernel)) ggX7_complete_X7_has
set_option maxRecDepth 20000 in
theorem ggX7_complete_X7_priced : GoodIn wsX7_complete wsX7_priced := goodIn_r _ [45, 1, 46, 47, 48, 49, 50, 51, 52, 53, 54, 55, 24, 25, 7, 26, 56, 57, 58, 59, 60, 61, 62, 63, 64, 65, 66, 67, 68, 69, 70, 71, 72, 73, 74, 75, 76, 77, 78, 79, 80, 81, 82, 83, 84, 85, 86] (by decide +kernel) (by decide +kernel)
set_option maxRecDepth 20000 in
theorem gX7_complete_X7_priced : GoodIn wsX7_complete (wsV RX7 174 RX7 yX7_priced wsX7_priced) := goodIn_app (goodIn_of _ (by decide +kernel)) ggX7_complete_X7_priced
set_option maxRecDepth 20000 in
theorem ggX7_wrong_X7_has : GoodIn wsX7_wrong wsX7_has := goodIn_r _ [7] (by decide +kernel) (by decide +kernel)
set_option maxRecDepth 20000 in
theorem gX7_wrong_X7_has : GoodIn wsX7_wrong (va_wsS RX7 71 yX7_has wsX7_has) := goodIn_app (goodIn_of _ (by decide +kernel)) ggX7_wrong_X7_has
set_option maxRecDepth 20000 in
theorem ggX7_wrong_X7_isGood : GoodIn wsX7_wrong wsX7_isGood := goodIn_r _ [11, 1, 12, 13, 14, 15, 16, 17, 4, 5, 6, 7, 18, 19, 20, 21, 22, 23, 24, 25, 26, 27, 28, 36, 37, 38, 39, 40, 41, 42, 43, 44, 45, 46, 47, 48, 49, 50, 51, 52, 53, 54, 55, 56, 57, 58, 59] (by decide +kernel) (by decide +kernel)
set_option maxRecDepth 20000 in
theorem gX7_wrong_X7_isGood : GoodIn wsX7_wrong (wsV RX7 87 RX7 yX7_isGood wsX7_isGood) := goodIn_app (goodIn_of _ (by decide +kernel)) ggX7_wrong_X7_isGood
set_option maxRecDepth 20000 in
theorem ggX7_wrong_J6_bitCount_0f7a4 : GoodIn wsX7_wrong wsJ6_bitCount_0f7a4 := goodIn_r _ [32, 33, 34, 35] (by decide +kernel) (by decide +kernel)
set_option maxRecDepth 20000 in
theorem gX7_wrong_J6_bitCount_0f7a4 : GoodIn wsX7_wrong (va_wsS RX7 120 yJ6_bitCount_0f7a4 wsJ6_bitCount_0f7a4) := goodIn_app (goodIn_of _ (by decide +kernel)) ggX7_wrong_J6_bitCount_0f7a4
set_option maxRecDepth 20000 in
theorem ggX7_isNoWish_X7_wrong : GoodIn wsX7_isNoWish wsX7_wrong := goodIn_r _ [5, 6, 7, 8, 9, 10, 4, 11, 12, 13, 14, 15, 16, 17, 18, 19, 20, 21, 22, 23, 24, 25, 26, 27, 28, 29, 30, 31, 32, 33, 34, 35, 36, 37, 38, 39, 45, 46, 47, 48, 49, 50, 51, 52, 53, 54, 55, 56, 57, 58, 59, 60, 61, 62, 63, 64, 65, 66, 67, 68] (by decide +kernel) (by decide +kernel)
set_option maxRecDepth 20000 in
theorem gX7_isNoWish_X7_wrong : GoodIn wsX7_isNoWish (wsV RX7 183 RX7 yX7_wrong wsX7_wrong) := goodIn_app (goodIn_of _ (by decide +kernel)) ggX7_isNoWish_X7_wrong

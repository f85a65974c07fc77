set_option maxRecDepth 20000 in
theorem ggX0_run_X6_has : GoodIn wsX0_run wsX6_has := goodIn_r _ [6] (by decide +kernel) (by decide +kernel)
set_option maxRecDepth 20000 in
theorem gX0_run_X6_has_n31 : GoodIn wsX0_run (wsX6_has) := ggX0_run_X6_has
set_option maxRecDepth 20000 in
theorem ggX0_run_X0_learnLowest : GoodIn wsX0_run wsX0_learnLowest := goodIn_r _ [11, 12, 13, 14, 10, 15, 1, 2, 4, 5, 6, 16, 17, 18, 19, 20, 21, 22, 23, 24, 25, 26, 27, 28, 29, 30, 31, 32, 33, 34, 35, 36, 37, 38, 3, 39, 40, 41, 42, 43, 44, 45, 46, 47, 48, 49, 50, 51, 56, 57, 58, 59, 60, 61, 52, 53, 54, 55, 62, 63, 64, 65, 66] (by decide +kernel) (by decide +kernel)
set_option maxRecDepth 20000 in
theorem gX0_run_X0_learnLowest : GoodIn wsX0_run (wsV RX0 35 RX0 yX0_learnLowest wsX0_learnLowest) := goodIn_app (goodIn_of _ (by decide +kernel)) ggX0_run_X0_learnLowest
set_option maxRecDepth 20000 in
theorem ggX0_knows_X6_has : GoodIn wsX0_knows wsX6_has := goodIn_r _ [5] (by decide +kernel) (by decide +kernel)
set_option maxRecDepth 20000 in
theorem gX0_knows_X6_has_n31 : GoodIn wsX0_knows (wsX6_has) := ggX0_knows_X6_has
set_option maxRecDepth 20000 in
theorem ggX0_learnLowest_X0_knows : GoodIn wsX0_learnLowest wsX0_knows := goodIn_r _ [5, 6, 7, 8, 9, 10, 54, 55, 56, 57] (by decide +kernel) (by decide +kernel)
set_option maxRecDepth 20000 in
theorem gX0_learnLowest_X0_knows : GoodIn wsX0_learnLowest (wsV RX0 39 RX0 yX0_knows wsX0_knows) := goodIn_app (goodIn_of _ (by decide +kernel)) ggX0_learnLowest_X0_knows
set_option maxRecDepth 20000 in
theorem ggX0_learnLowest_X0_learnByTree : GoodIn wsX0_learnLowest wsX0_learnByTree := goodIn_r _ [14, 15, 16, 17, 4, 18, 6, 7, 8, 9, 10, 19, 20, 21, 22, 23, 24, 25, 26, 27, 28, 29, 30, 31, 32, 33, 34, 48, 49, 50, 51, 52, 53, 54, 55, 56, 57] (by decide +kernel) (by decide +kernel)
set_option maxRecDepth 20000 in
theorem gX0_learnLowest_X0_learnByTree : GoodIn wsX0_learnLowest (wsV RX0 43 RX0 yX0_learnByTree wsX0_learnByTree) := goodIn_app (goodIn_of _ (by decide +kernel)) ggX0_learnLowest_X0_learnByTree
set_option maxRecDepth 20000 in
theorem ggX0_learnLowest_X0_learnByRule : GoodIn wsX0_learnLowest wsX0_learnByRule := goodIn_r _ [38, 6, 7, 39, 40, 41, 42, 43, 44, 45, 46, 47, 8, 9, 10, 30, 31, 32, 4, 33, 34, 54, 55, 56, 57, 58, 59, 60, 61, 62] (by decide +kernel) (by decide +kernel)
set_option maxRecDepth 20000 in
theorem gX0_learnLowest_X0_learnByRule : GoodIn wsX0_learnLowest (wsV RX0 47 RX0 yX0_learnByRule wsX0_learnByRule) := goodIn_app (goodIn_of _ (by decide +kernel)) ggX0_learnLowest_X0_learnByRule
set_option maxRecDepth 20000 in
theorem ggX0_learnByTree_X0_letterByKin : GoodIn wsX0_learnByTree wsX0_letterByKin := goodIn_r _ [5, 6, 7, 8, 9, 10, 27, 28, 29, 30, 31, 32, 33, 34, 35, 36] (by decide +kernel) (by decide +kernel)
set_option maxRecDepth 20000 in
theorem gX0_learnByTree_X0_letterByKin : GoodIn wsX0_learnByTree (wsV RX0 51 RX0 yX0_letterByKin wsX0_letterByKin) := goodIn_app (goodIn_of _ (by decide +kernel)) ggX0_learnByTree_X0_letterByKin
set_option maxRecDepth 20000 in
theorem ggX0_learnByTree_X0_letterByGroup : GoodIn wsX0_learnByTree wsX0_letterByGroup := goodIn_r _ [14, 6, 7, 8, 9, 10, 15, 16, 17, 18, 19, 20, 21, 27, 28, 29, 30, 31, 32, 33, 34, 35, 36] (by decide +kernel) (by decide +kernel)
set_option maxRecDepth 20000 in
theorem gX0_learnByTree_X0_letterByGroup : GoodIn wsX0_learnByTree (wsV RX0 55 RX0 yX0_letterByGroup wsX0_letterByGroup) := goodIn_app (goodIn_of _ (by decide +kernel)) ggX0_learnByTree_X0_letterByGroup
set_option maxRecDepth 20000 in
theorem ggX0_learnByTree_X0_learn : GoodIn wsX0_learnByTree wsX0_learn := goodIn_r _ [25, 26, 6, 7, 33, 34, 35, 36] (by decide +kernel) (by decide +kernel)
set_option maxRecDepth 20000 in
theorem gX0_learnByTree_X0_learn : GoodIn wsX0_learnByTree (wsV RX0 58 RX0 yX0_learn wsX0_learn) := goodIn_app (goodIn_of _ (by decide +kernel)) ggX0_learnByTree_X0_learn
set_option maxRecDepth 20000 in
theorem ggX0_learnByRule_X3_lastKeptBy : GoodIn wsX0_learnByRule wsX3_lastKeptBy := goodIn_r _ [7, 8, 9, 10, 11, 12, 13, 14, 25, 26, 27, 28, 29] (by decide +kernel) (by decide +kernel)
set_option maxRecDepth 20000 in
theorem gX0_learnByRule_X3_lastKeptBy_n62 : GoodIn wsX0_learnByRule (wsX3_lastKeptBy) := ggX0_learnByRule_X3_lastKeptBy
set_option maxRecDepth 20000 in
theorem ggX0_learnByRule_X6_has : GoodIn wsX0_learnByRule wsX6_has := goodIn_r _ [14] (by decide +kernel) (by decide +kernel)
set_option maxRecDepth 20000 in
theorem gX0_learnByRule_X6_has_n31 : GoodIn wsX0_learnByRule (wsX6_has) := ggX0_learnByRule_X6_has
set_option maxRecDepth 20000 in
theorem ggX0_learnByRule_X0_learn : GoodIn wsX0_learnByRule wsX0_learn := goodIn_r _ [19, 20, 1, 2, 21, 22, 23, 24] (by decide +kernel) (by decide +kernel)
set_option maxRecDepth 20000 in
theorem gX0_learnByRule_X0_learn : GoodIn wsX0_learnByRule (wsV RX0 58 RX0 yX0_learn wsX0_learn) := goodIn_app (goodIn_of _ (by decide +kernel)) ggX0_learnByRule_X0_learn
set_option maxRecDepth 20000 in
theorem ggX0_letterByKin_X6_has : GoodIn wsX0_letterByKin wsX6_has := goodIn_r _ [5] (by decide +kernel) (by decide +kernel)
set_option maxRecDepth 20000 in
theorem gX0_letterByKin_X6_has_n31 : GoodIn wsX0_letterByKin (wsX6_has) := ggX0_letterByKin_X6_has
set_option maxRecDepth 20000 in
theorem ggX0_letterByGroup_X6_has : GoodIn wsX0_letterByGroup wsX6_has := goodIn_r _ [5] (by decide +kernel) (by decide +kernel)
set_option maxRecDepth 20000 in
theorem gX0_letterByGroup_X6_has_n31 : GoodIn wsX0_letterByGroup (wsX6_has) := ggX0_letterByGroup_X6_has
set_option maxRecDepth 20000 in
theorem ggX0_letterByGroup_J6_bitCount_0f7a4 : GoodIn wsX0_letterByGroup wsJ6_bitCount_0f7a4 := goodIn_r _ [9, 10, 11, 12] (by decide +kernel) (by decide +kernel)
set_option maxRecDepth 20000 in
theorem gX0_letterByGroup_J6_bitCount_0f7a4 : GoodIn wsX0_letterByGroup (va_wsS RX0 80 yJ6_bitCount_0f7a4 wsJ6_bitCount_0f7a4) := goodIn_app (goodIn_of _ (by decide +kernel)) ggX0_letterByGroup_J6_bitCount_0f7a4
set_option maxRecDepth 20000 in
theorem ggX3_holdFor_X6_has : GoodIn wsX3_holdFor wsX6_has := goodIn_r _ [5] (by decide +kernel) (by decide +kernel)
set_option maxRecDepth 20000 in
theorem gX3_holdFor_X6_has_n28 : GoodIn wsX3_holdFor (wsX6_has) := ggX3_holdFor_X6_has
set_option maxRecDepth 20000 in
theorem ggX3_holdFor_X3_holdsFor : GoodIn wsX3_holdFor wsX3_holdsFor := goodIn_r _ [10, 11, 12, 13, 14, 15, 16, 17] (by decide +kernel) (by decide +kernel)
set_option maxRecDepth 20000 in
theorem gX3_holdFor_X3_holdsFor : GoodIn wsX3_holdFor (wsV RX3 32 RX3 yX3_holdsFor wsX3_holdsFor) := goodIn_app (goodIn_of _ (by decide +kernel)) ggX3_holdFor_X3_holdsFor
set_option maxRecDepth 20000 in
theorem ggX3_holdAt_X6_has : GoodIn wsX3_holdAt wsX6_has := goodIn_r _ [6] (by decide +kernel) (by decide +kernel)
set_option maxRecDepth 20000 in
theorem gX3_holdAt_X6_has_n28 : GoodIn wsX3_holdAt (wsX6_has) := ggX3_holdAt_X6_has
set_option maxRecDepth 20000 in
theorem ggX3_holdAt_X3_holdsFor : GoodIn wsX3_holdAt wsX3_holdsFor := goodIn_r _ [11, 12, 13, 14, 15, 16, 17, 18] (by decide +kernel) (by decide +kernel)
set_option maxRecDepth 20000 in
theorem gX3_holdAt_X3_holdsFor : GoodIn wsX3_holdAt (wsV RX3 32 RX3 yX3_holdsFor wsX3_holdsFor) := goodIn_app (goodIn_of _ (by decide +kernel)) ggX3_holdAt_X3_holdsFor
set_option maxRecDepth 20000 in
theorem ggX3_lastKeptBy_X6_has : GoodIn wsX3_lastKeptBy wsX6_has := goodIn_r _ [7] (by decide +kernel) (by decide +kernel)
set_option maxRecDepth 20000 in
theorem gX3_lastKeptBy_X6_has_n28 : GoodIn wsX3_lastKeptBy (wsX6_has) := ggX3_lastKeptBy_X6_has
set_option maxRecDepth 20000 in
theorem ggX4_reaches_X4_canLeave : GoodIn wsX4_reaches wsX4_canLeave := goodIn_r _ [4, 5, 6, 7, 8, 9, 10, 11, 12, 13, 14, 15, 16, 17, 18, 19, 20, 21, 22, 23, 24, 25, 26, 27, 28, 29, 30, 31, 32, 33, 34, 35, 45, 46, 47, 48, 49, 50, 51, 52, 53, 54, 55] (by decide +kernel) (by decide +kernel)
set_option maxRecDepth 20000 in
theorem gX4_reaches_X4_canLeave : GoodIn wsX4_reaches (va_wsS RX4 15 yX4_canLeave wsX4_canLeave) := goodIn_app (goodIn_of _ (by decide +kernel)) ggX4_reaches_X4_canLeave
set_option maxRecDepth 20000 in
theorem ggX4_reaches_X4_reaches : GoodIn wsX4_reaches wsX4_reaches := goodIn_r _ [0, 1, 2, 3, 4, 5, 6, 7, 8, 9, 10, 11, 12, 13, 14, 15, 16, 17, 18, 19, 20, 21, 22, 23, 24, 25, 26, 27, 28, 29, 30, 31, 32, 33, 34, 35, 36, 37, 38, 39, 40, 41, 42, 43, 44, 45, 46, 47, 48, 49, 50, 51, 52, 53, 54, 55] (by decide +kernel) (by decide +kernel)
set_option maxRecDepth 20000 in
theorem gX4_reaches_X4_reaches : GoodIn wsX4_reaches (va_wsS RX4 21 yX4_reaches wsX4_reaches) := goodIn_app (goodIn_of _ (by decide +kernel)) ggX4_reaches_X4_reaches
set_option maxRecDepth 20000 in
theorem ggX4_reaches_X4_canTake : GoodIn wsX4_reaches wsX4_canTake := goodIn_r _ [40, 5, 6, 7, 41, 9, 42, 43, 13, 15, 12, 44, 16, 17, 18, 19, 20, 21, 22, 23, 24, 25, 26, 27, 28, 29, 30, 31, 32, 33, 34, 35, 45, 46, 47, 48, 49, 50, 51, 52, 53, 54, 55] (by decide +kernel) (by decide +kernel)
set_option maxRecDepth 20000 in
theorem gX4_reaches_X4_canTake : GoodIn wsX4_reaches (va_wsS RX4 25 yX4_canTake wsX4_canTake) := goodIn_app (goodIn_of _ (by decide +kernel)) ggX4_reaches_X4_canTake
set_option maxRecDepth 20000 in
theorem ggX4_countFrom_X4_canLeave : GoodIn wsX4_countFrom wsX4_canLeave := goodIn_r _ [4, 5, 6, 7, 8, 9, 10, 11, 12, 13, 14, 15, 16, 17, 18, 19, 20, 21, 22, 23, 24, 25, 26, 27, 28, 29, 30, 31, 32, 33, 34, 35, 45, 46, 47, 48, 49, 50, 51, 52, 53, 54, 55] (by decide +kernel) (by decide +kernel)
set_option maxRecDepth 20000 in
theorem gX4_countFrom_X4_canLeave : GoodIn wsX4_countFrom (va_wsS RX4 15 yX4_canLeave wsX4_canLeave) := goodIn_app (goodIn_of _ (by decide +kernel)) ggX4_countFrom_X4_canLeave
set_option maxRecDepth 20000 in
theorem ggX4_countFrom_X4_countFrom : GoodIn wsX4_countFrom wsX4_countFrom := goodIn_r _ [0, 1, 2, 3, 4, 5, 6, 7, 8, 9, 10, 11, 12, 13, 14, 15, 16, 17, 18, 19, 20, 21, 22, 23, 24, 25, 26, 27, 28, 29, 30, 31, 32, 33, 34, 35, 36, 37, 38, 39, 40, 41, 42, 43, 44, 45, 46, 47, 48, 49, 50, 51, 52, 53, 54, 55] (by decide +kernel) (by decide +kernel)
set_option maxRecDepth 20000 in
theorem gX4_countFrom_X4_countFrom : GoodIn wsX4_countFrom (va_wsS RX4 28 yX4_countFrom wsX4_countFrom) := goodIn_app (goodIn_of _ (by decide +kernel)) ggX4_countFrom_X4_countFrom
set_option maxRecDepth 20000 in
theorem ggX4_countFrom_X4_canTake : GoodIn wsX4_countFrom wsX4_canTake := goodIn_r _ [40, 5, 6, 7, 41, 9, 42, 43, 13, 15, 12, 44, 16, 17, 18, 19, 20, 21, 22, 23, 24, 25, 26, 27, 28, 29, 30, 31, 32, 33, 34, 35, 45, 46, 47, 48, 49, 50, 51, 52, 53, 54, 55] (by decide +kernel) (by decide +kernel)
set_option maxRecDepth 20000 in
theorem gX4_countFrom_X4_canTake : GoodIn wsX4_countFrom (va_wsS RX4 25 yX4_canTake wsX4_canTake) := goodIn_app (goodIn_of _ (by decide +kernel)) ggX4_countFrom_X4_canTake
set_option maxRecDepth 20000 in
theorem ggX4_canTake_X6_has : GoodIn wsX4_canTake wsX6_has := goodIn_r _ [3] (by decide +kernel) (by decide +kernel)
set_option maxRecDepth 20000 in
theorem gX4_canTake_X6_has_n42 : GoodIn wsX4_canTake (wsX6_has) := ggX4_canTake_X6_has
set_option maxRecDepth 20000 in
theorem ggX4_canTake_X5_mayBeIn : GoodIn wsX4_canTake wsX5_mayBeIn := goodIn_r _ [7, 8, 9, 10, 11, 12, 13, 14, 15, 16, 17, 18, 1, 2, 3, 32, 33, 34, 35, 36, 37] (by decide +kernel) (by decide +kernel)
set_option maxRecDepth 20000 in
theorem gX4_canTake_X5_mayBeIn_n46 : GoodIn wsX4_canTake (wsX5_mayBeIn) := ggX4_canTake_X5_mayBeIn
set_option maxRecDepth 20000 in
theorem ggX4_canTake_X3_holdAt : GoodIn wsX4_canTake wsX3_holdAt := goodIn_r _ [22, 23, 24, 25, 1, 2, 3, 26, 27, 28, 20, 29, 30, 31, 38, 39, 40, 41, 42] (by decide +kernel) (by decide +kernel)
set_option maxRecDepth 20000 in
theorem gX4_canTake_X3_holdAt_n49 : GoodIn wsX4_canTake (wsX3_holdAt) := ggX4_canTake_X3_holdAt
set_option maxRecDepth 20000 in
theorem ggX4_canLeave_X6_has : GoodIn wsX4_canLeave wsX6_has := goodIn_r _ [3] (by decide +kernel) (by decide +kernel)
set_option maxRecDepth 20000 in
theorem gX4_canLeave_X6_has_n42 : GoodIn wsX4_canLeave (wsX6_has) := ggX4_canLeave_X6_has
set_option maxRecDepth 20000 in
theorem ggX4_canLeave_X5_mayBeOut : GoodIn wsX4_canLeave wsX5_mayBeOut := goodIn_r _ [7, 8, 9, 10, 11, 1, 2, 3, 12, 13, 14, 15, 16, 17, 18, 32, 33, 34, 35, 36, 37] (by decide +kernel) (by decide +kernel)
set_option maxRecDepth 20000 in
theorem gX4_canLeave_X5_mayBeOut_n54 : GoodIn wsX4_canLeave (wsX5_mayBeOut) := ggX4_canLeave_X5_mayBeOut
set_option maxRecDepth 20000 in
theorem ggX4_canLeave_X3_holdAt : GoodIn wsX4_canLeave wsX3_holdAt := goodIn_r _ [22, 23, 24, 25, 1, 2, 3, 26, 27, 28, 20, 29, 30, 31, 38, 39, 40, 41, 42] (by decide +kernel) (by decide +kernel)
set_option maxRecDepth 20000 in
theorem gX4_canLeave_X3_holdAt_n49 : GoodIn wsX4_canLeave (wsX3_holdAt) := ggX4_canLeave_X3_holdAt
set_option maxRecDepth 20000 in
theorem ggX5_allows_X6_has : GoodIn wsX5_allows wsX6_has := goodIn_r _ [4] (by decide +kernel) (by decide +kernel)
set_option maxRecDepth 20000 in
theorem gX5_allows_X6_has_n28 : GoodIn wsX5_allows (wsX6_has) := ggX5_allows_X6_has
set_option maxRecDepth 20000 in
theorem ggX5_allows_X5_allowsAt : GoodIn wsX5_allows wsX5_allowsAt := goodIn_r _ [9, 10, 11, 12, 13, 14, 2, 3, 4, 15, 16, 17, 18, 19, 20, 21, 22, 23, 24, 25, 26, 27] (by decide +kernel) (by decide +kernel)
set_option maxRecDepth 20000 in
theorem gX5_allows_X5_allowsAt : GoodIn wsX5_allows (wsV RX5 32 RX5 yX5_allowsAt wsX5_allowsAt) := goodIn_app (goodIn_of _ (by decide +kernel)) ggX5_allows_X5_allowsAt
set_option maxRecDepth 20000 in
theorem ggX5_allowsAt_X6_has : GoodIn wsX5_allowsAt wsX6_has := goodIn_r _ [8] (by decide +kernel) (by decide +kernel)
set_option maxRecDepth 20000 in
theorem gX5_allowsAt_X6_has_n28 : GoodIn wsX5_allowsAt (wsX6_has) := ggX5_allowsAt_X6_has
set_option maxRecDepth 20000 in
theorem ggX5_allowsAt_J6_bitCount_0f7a4 : GoodIn wsX5_allowsAt wsJ6_bitCount_0f7a4 := goodIn_r _ [12, 13, 14, 15] (by decide +kernel) (by decide +kernel)
set_option maxRecDepth 20000 in
theorem gX5_allowsAt_J6_bitCount_0f7a4 : GoodIn wsX5_allowsAt (va_wsS RX5 35 yJ6_bitCount_0f7a4 wsJ6_bitCount_0f7a4) := goodIn_app (goodIn_of _ (by decide +kernel)) ggX5_allowsAt_J6_bitCount_0f7a4
set_option maxRecDepth 20000 in
theorem ggX5_mayBeIn_J6_bitCount_0f7a4 : GoodIn wsX5_mayBeIn wsJ6_bitCount_0f7a4 := goodIn_r _ [8, 9, 10, 11] (by decide +kernel) (by decide +kernel)
set_option maxRecDepth 20000 in
theorem gX5_mayBeIn_J6_bitCount_0f7a4 : GoodIn wsX5_mayBeIn (va_wsS RX5 35 yJ6_bitCount_0f7a4 wsJ6_bitCount_0f7a4) := goodIn_app (goodIn_of _ (by decide +kernel)) ggX5_mayBeIn_J6_bitCount_0f7a4
set_option maxRecDepth 20000 in
theorem ggX5_mayBeIn_X6_has : GoodIn wsX5_mayBeIn wsX6_has := goodIn_r _ [14] (by decide +kernel) (by decide +kernel)
set_option maxRecDepth 20000 in
theorem gX5_mayBeIn_X6_has_n28 : GoodIn wsX5_mayBeIn (wsX6_has) := ggX5_mayBeIn_X6_has
set_option maxRecDepth 20000 in
theorem ggX5_mayBeOut_X6_has : GoodIn wsX5_mayBeOut wsX6_has := goodIn_r _ [7] (by decide +kernel) (by decide +kernel)
set_option maxRecDepth 20000 in
theorem gX5_mayBeOut_X6_has_n28 : GoodIn wsX5_mayBeOut (wsX6_has) := ggX5_mayBeOut_X6_has
set_option maxRecDepth 20000 in
theorem ggX5_mayBeOut_J6_bitCount_0f7a4 : GoodIn wsX5_mayBeOut wsJ6_bitCount_0f7a4 := goodIn_r _ [11, 12, 13, 14] (by decide +kernel) (by decide +kernel)
set_option maxRecDepth 20000 in
theorem gX5_mayBeOut_J6_bitCount_0f7a4 : GoodIn wsX5_mayBeOut (va_wsS RX5 35 yJ6_bitCount_0f7a4 wsJ6_bitCount_0f7a4) := goodIn_app (goodIn_of _ (by decide +kernel)) ggX5_mayBeOut_J6_bitCount_0f7a4
set_option maxRecDepth 20000 in
theorem ggX6_init_X5_init : GoodIn wsX6_init wsX5_init := goodIn_r _ [25, 26, 2, 3, 27, 28, 29, 30, 31, 32, 56, 57, 58, 59, 60, 61] (by decide +kernel) (by decide +kernel)
set_option maxRecDepth 20000 in
theorem gX6_init_X5_init_n9 : GoodIn wsX6_init (wsX5_init) := ggX6_init_X5_init
set_option maxRecDepth 20000 in
theorem ggX6_init_X3_init : GoodIn wsX6_init wsX3_init := goodIn_r _ [34, 35, 2, 3, 27, 36, 37, 38, 69, 70, 71, 72, 73] (by decide +kernel) (by decide +kernel)
set_option maxRecDepth 20000 in
theorem gX6_init_X3_init_n18 : GoodIn wsX6_init (wsX3_init) := ggX6_init_X3_init
set_option maxRecDepth 20000 in
theorem ggX6_init_X2_init : GoodIn wsX6_init wsX2_init := goodIn_r _ [40, 41, 2, 3, 27, 42, 43, 44, 45, 74, 75, 76, 77, 78] (by decide +kernel) (by decide +kernel)
set_option maxRecDepth 20000 in
theorem gX6_init_X2_init_n25 : GoodIn wsX6_init (wsX2_init) := ggX6_init_X2_init
set_option maxRecDepth 20000 in
theorem ggX6_init_X0_init : GoodIn wsX6_init wsX0_init := goodIn_r _ [47, 48, 2, 3, 49, 50, 27, 51, 79, 80, 81, 82] (by decide +kernel) (by decide +kernel)
set_option maxRecDepth 20000 in
theorem gX6_init_X0_init_n32 : GoodIn wsX6_init (wsX0_init) := ggX6_init_X0_init
set_option maxRecDepth 20000 in
theorem ggX6_init_X1_init : GoodIn wsX6_init wsX1_init := goodIn_r _ [53, 54, 2, 3, 49, 55, 83, 84] (by decide +kernel) (by decide +kernel)
set_option maxRecDepth 20000 in
theorem gX6_init_X1_init_n39 : GoodIn wsX6_init (wsX1_init) := ggX6_init_X1_init
set_option maxRecDepth 20000 in
theorem ggX6_addFeature_X6_checkFeature : GoodIn wsX6_addFeature wsX6_checkFeature := goodIn_ca (goodIn_r _ [11, 12, 13, 5, 27, 28, 29, 30, 31, 32, 33, 34, 35, 36, 37, 38, 39] (by decide +kernel) (by decide +kernel)) (goodIn_sub (fun _ h => List.mem_cons_of_mem _ (List.mem_append_right _ h)) (by decide +kernel))
set_option maxRecDepth 20000 in
theorem gX6_addFeature_X6_checkFeature : GoodIn wsX6_addFeature (wsV RX6 44 RX6 yX6_checkFeature wsX6_checkFeature) := goodIn_app (goodIn_of _ (by decide +kernel)) ggX6_addFeature_X6_checkFeature
set_option maxRecDepth 20000 in
theorem ggX6_addFeature_X5_grow : GoodIn wsX6_addFeature wsX5_grow := goodIn_r _ [17, 18, 19, 20, 21, 34, 35, 36, 37, 38, 39] (by decide +kernel) (by decide +kernel)
set_option maxRecDepth 20000 in
theorem gX6_addFeature_X5_grow_n64 : GoodIn wsX6_addFeature (wsX5_grow) := ggX6_addFeature_X5_grow
set_option maxRecDepth 20000 in
theorem ggX6_addFeature_X2_setFirst : GoodIn wsX6_addFeature wsX2_setFirst := goodIn_r _ [25, 26, 40, 41, 42, 43, 44] (by decide +kernel) (by decide +kernel)
set_option maxRecDepth 20000 in
theorem gX6_addFeature_X2_setFirst_n68 : GoodIn wsX6_addFeature (wsX2_setFirst) := ggX6_addFeature_X2_setFirst
set_option maxRecDepth 20000 in
theorem ggX6_setMandatory_X6_checkFeature : GoodIn wsX6_setMandatory wsX6_checkFeature := goodIn_ca (goodIn_r _ [8, 9, 10, 3, 69, 70, 71, 72, 73, 74, 75, 76, 77, 78, 79, 80, 81] (by decide +kernel) (by decide +kernel)) (goodIn_sub (fun _ h => List.mem_cons_of_mem _ (List.mem_append_left _ (List.mem_append_right _ h))) (by decide +kernel))
set_option maxRecDepth 20000 in
theorem gX6_setMandatory_X6_checkFeature : GoodIn wsX6_setMandatory (wsV RX6 44 RX6 yX6_checkFeature wsX6_checkFeature) := goodIn_app (goodIn_of _ (by decide +kernel)) ggX6_setMandatory_X6_checkFeature
set_option maxRecDepth 20000 in
theorem ggX6_setMandatory_X6_checkNotRoot : GoodIn wsX6_setMandatory wsX6_checkNotRoot := goodIn_ca (goodIn_r _ [14, 15, 16] (by decide +kernel) (by decide +kernel)) (goodIn_sub (fun _ h => List.mem_cons_of_mem _ (List.mem_append_right _ h)) (by decide +kernel))
set_option maxRecDepth 20000 in
theorem gX6_setMandatory_X6_checkNotRoot : GoodIn wsX6_setMandatory (wsV RX6 72 RX6 yX6_checkNotRoot wsX6_checkNotRoot) := goodIn_app (goodIn_of _ (by decide +kernel)) ggX6_setMandatory_X6_checkNotRoot
set_option maxRecDepth 20000 in
theorem ggX6_setMandatory_X6_hasCompletion : GoodIn wsX6_setMandatory wsX6_hasCompletion := goodIn_r _ [20, 3, 21, 22, 23, 24, 25, 26, 27, 28, 29, 30, 7, 31, 32, 33, 34, 35, 36, 37, 38, 39, 40, 41, 42, 43, 44, 45, 46, 47, 48, 49, 50, 51, 52, 53, 54, 55, 56, 57, 58, 59, 60, 61, 62, 63, 64, 65, 66, 67, 69, 70, 71, 72, 73, 74, 75, 76, 77, 78, 79, 80, 81, 82, 83, 84, 85, 86] (by decide +kernel) (by decide +kernel)
set_option maxRecDepth 20000 in
theorem gX6_setMandatory_X6_hasCompletion : GoodIn wsX6_setMandatory (wsV RX6 78 RX6 yX6_hasCompletion wsX6_hasCompletion) := goodIn_app (goodIn_of _ (by decide +kernel)) ggX6_setMandatory_X6_hasCompletion
set_option maxRecDepth 20000 in
theorem ggX6_setMandatory_X6_has : GoodIn wsX6_setMandatory wsX6_has := goodIn_r _ [31] (by decide +kernel) (by decide +kernel)
set_option maxRecDepth 20000 in
theorem gX6_setMandatory_X6_has : GoodIn wsX6_setMandatory (va_wsS RX6 87 yX6_has wsX6_has) := goodIn_app (goodIn_of _ (by decide +kernel)) ggX6_setMandatory_X6_has
set_option maxRecDepth 20000 in
theorem ggX6_setGroup_X6_checkFeature : GoodIn wsX6_setGroup wsX6_checkFeature := goodIn_ca (goodIn_r _ [10, 11, 12, 5, 65, 66, 67, 68, 69, 70, 71, 72, 73, 74, 75, 76, 77] (by decide +kernel) (by decide +kernel)) (goodIn_sub (fun _ h => List.mem_cons_of_mem _ (List.mem_append_right _ h)) (by decide +kernel))
set_option maxRecDepth 20000 in
theorem gX6_setGroup_X6_checkFeature : GoodIn wsX6_setGroup (wsV RX6 44 RX6 yX6_checkFeature wsX6_checkFeature) := goodIn_app (goodIn_of _ (by decide +kernel)) ggX6_setGroup_X6_checkFeature
set_option maxRecDepth 20000 in
theorem ggX6_setGroup_X6_hasCompletion : GoodIn wsX6_setGroup wsX6_hasCompletion := goodIn_r _ [16, 5, 17, 18, 19, 20, 21, 22, 23, 24, 25, 26, 9, 27, 28, 29, 30, 31, 32, 33, 34, 35, 36, 37, 38, 39, 40, 41, 42, 43, 44, 45, 46, 47, 48, 49, 50, 51, 52, 53, 54, 55, 56, 57, 58, 59, 60, 61, 62, 63, 65, 66, 67, 68, 69, 70, 71, 72, 73, 74, 75, 76, 77, 78, 79, 80, 81, 82] (by decide +kernel) (by decide +kernel)
set_option maxRecDepth 20000 in
theorem gX6_setGroup_X6_hasCompletion : GoodIn wsX6_setGroup (wsV RX6 78 RX6 yX6_hasCompletion wsX6_hasCompletion) := goodIn_app (goodIn_of _ (by decide +kernel)) ggX6_setGroup_X6_hasCompletion
set_option maxRecDepth 20000 in
theorem ggX6_setGroup_J6_bitCount_0f7a4 : GoodIn wsX6_setGroup wsJ6_bitCount_0f7a4 := goodIn_r _ [39, 40, 41, 42] (by decide +kernel) (by decide +kernel)
set_option maxRecDepth 20000 in
theorem gX6_setGroup_J6_bitCount_0f7a4 : GoodIn wsX6_setGroup (va_wsS RX6 103 yJ6_bitCount_0f7a4 wsJ6_bitCount_0f7a4) := goodIn_app (goodIn_of _ (by decide +kernel)) ggX6_setGroup_J6_bitCount_0f7a4
set_option maxRecDepth 20000 in
theorem ggX6_require_X6_checkFeature : GoodIn wsX6_require wsX6_checkFeature := goodIn_ca (goodIn_r _ [9, 10, 11, 12, 81, 82, 83, 84, 85, 86, 87, 88, 89, 90, 91, 92, 93] (by decide +kernel) (by decide +kernel)) (goodIn_sub (fun _ h => List.mem_cons_of_mem _ (List.mem_append_left _ (List.mem_append_left _ (List.mem_append_left _ (List.mem_append_right _ h))))) (by decide +kernel))
set_option maxRecDepth 20000 in
theorem gX6_require_X6_checkFeature : GoodIn wsX6_require (wsV RX6 44 RX6 yX6_checkFeature wsX6_checkFeature) := goodIn_app (goodIn_of _ (by decide +kernel)) ggX6_require_X6_checkFeature
set_option maxRecDepth 20000 in
theorem ggX6_require_X6_checkDifferent : GoodIn wsX6_require wsX6_checkDifferent := goodIn_ca (goodIn_r _ [16, 17, 18] (by decide +kernel) (by decide +kernel)) (goodIn_sub (fun _ h => List.mem_cons_of_mem _ (List.mem_append_left _ (List.mem_append_left _ (List.mem_append_right _ h)))) (by decide +kernel))
set_option maxRecDepth 20000 in
theorem gX6_require_X6_checkDifferent : GoodIn wsX6_require (wsV RX6 108 RX6 yX6_checkDifferent wsX6_checkDifferent) := goodIn_app (goodIn_of _ (by decide +kernel)) ggX6_require_X6_checkDifferent
set_option maxRecDepth 20000 in
theorem ggX6_require_X6_addRule : GoodIn wsX6_require wsX6_addRule := goodIn_ca (goodIn_ca (goodIn_r _ [22, 23, 24, 25, 26, 27, 28, 29, 30, 31, 32, 33, 34, 35, 36, 37, 38, 39, 8, 40, 12, 41, 42, 43, 44, 45, 46, 47, 48, 49, 50, 51, 52, 53, 54, 55, 56, 57, 58, 59, 60, 61, 62, 63, 64, 65, 66, 67, 68, 69, 70, 71, 72, 73, 74, 75, 76, 77, 78, 79, 80, 81, 82, 83, 84, 85, 86, 87, 94, 95, 96, 97, 98, 88, 89, 90, 91, 92, 93] (by decide +kernel) (by decide +kernel)) (goodIn_sub (fun _ h => List.mem_cons_of_mem _ (List.mem_append_left _ (List.mem_append_right _ h))) (by decide +kernel))) (goodIn_sub (fun _ h => List.mem_cons_of_mem _ (List.mem_append_right _ h)) (by decide +kernel))
set_option maxRecDepth 20000 in
theorem gX6_require_X6_addRule : GoodIn wsX6_require (wsV RX6 117 RX6 yX6_addRule wsX6_addRule) := goodIn_app (goodIn_of _ (by decide +kernel)) ggX6_require_X6_addRule
set_option maxRecDepth 20000 in
theorem ggX6_exclude_X6_checkFeature : GoodIn wsX6_exclude wsX6_checkFeature := goodIn_ca (goodIn_r _ [9, 10, 11, 12, 81, 82, 83, 84, 85, 86, 87, 88, 89, 90, 91, 92, 93] (by decide +kernel) (by decide +kernel)) (goodIn_sub (fun _ h => List.mem_cons_of_mem _ (List.mem_append_left _ (List.mem_append_left _ (List.mem_append_left _ (List.mem_append_right _ h))))) (by decide +kernel))
set_option maxRecDepth 20000 in
theorem gX6_exclude_X6_checkFeature : GoodIn wsX6_exclude (wsV RX6 44 RX6 yX6_checkFeature wsX6_checkFeature) := goodIn_app (goodIn_of _ (by decide +kernel)) ggX6_exclude_X6_checkFeature
set_option maxRecDepth 20000 in
theorem ggX6_exclude_X6_checkDifferent : GoodIn wsX6_exclude wsX6_checkDifferent := goodIn_ca (goodIn_r _ [16, 17, 18] (by decide +kernel) (by decide +kernel)) (goodIn_sub (fun _ h => List.mem_cons_of_mem _ (List.mem_append_left _ (List.mem_append_left _ (List.mem_append_right _ h)))) (by decide +kernel))
set_option maxRecDepth 20000 in
theorem gX6_exclude_X6_checkDifferent : GoodIn wsX6_exclude (wsV RX6 108 RX6 yX6_checkDifferent wsX6_checkDifferent) := goodIn_app (goodIn_of _ (by decide +kernel)) ggX6_exclude_X6_checkDifferent
set_option maxRecDepth 20000 in
theorem ggX6_exclude_X6_addRule : GoodIn wsX6_exclude wsX6_addRule := goodIn_ca (goodIn_ca (goodIn_r _ [22, 23, 24, 25, 26, 27, 28, 29, 30, 31, 32, 33, 34, 35, 36, 37, 38, 39, 8, 40, 12, 41, 42, 43, 44, 45, 46, 47, 48, 49, 50, 51, 52, 53, 54, 55, 56, 57, 58, 59, 60, 61, 62, 63, 64, 65, 66, 67, 68, 69, 70, 71, 72, 73, 74, 75, 76, 77, 78, 79, 80, 81, 82, 83, 84, 85, 86, 87, 94, 95, 96, 97, 98, 88, 89, 90, 91, 92, 93] (by decide +kernel) (by decide +kernel)) (goodIn_sub (fun _ h => List.mem_cons_of_mem _ (List.mem_append_left _ (List.mem_append_right _ h))) (by decide +kernel))) (goodIn_sub (fun _ h => List.mem_cons_of_mem _ (List.mem_append_right _ h)) (by decide +kernel))
set_option maxRecDepth 20000 in
theorem gX6_exclude_X6_addRule : GoodIn wsX6_exclude (wsV RX6 117 RX6 yX6_addRule wsX6_addRule) := goodIn_app (goodIn_of _ (by decide +kernel)) ggX6_exclude_X6_addRule
set_option maxRecDepth 20000 in
theorem ggX6_any_X6_checkFeature : GoodIn wsX6_any wsX6_checkFeature := goodIn_ca (goodIn_r _ [9, 10, 11, 12, 81, 82, 83, 84, 85, 86, 87, 88, 89, 90, 91, 92, 93] (by decide +kernel) (by decide +kernel)) (goodIn_sub (fun _ h => List.mem_cons_of_mem _ (List.mem_append_left _ (List.mem_append_left _ (List.mem_append_left _ (List.mem_append_right _ h))))) (by decide +kernel))
set_option maxRecDepth 20000 in
theorem gX6_any_X6_checkFeature : GoodIn wsX6_any (wsV RX6 44 RX6 yX6_checkFeature wsX6_checkFeature) := goodIn_app (goodIn_of _ (by decide +kernel)) ggX6_any_X6_checkFeature
set_option maxRecDepth 20000 in
theorem ggX6_any_X6_checkDifferent : GoodIn wsX6_any wsX6_checkDifferent := goodIn_ca (goodIn_r _ [16, 17, 18] (by decide +kernel) (by decide +kernel)) (goodIn_sub (fun _ h => List.mem_cons_of_mem _ (List.mem_append_left _ (List.mem_append_left _ (List.mem_append_right _ h)))) (by decide +kernel))
set_option maxRecDepth 20000 in
theorem gX6_any_X6_checkDifferent : GoodIn wsX6_any (wsV RX6 108 RX6 yX6_checkDifferent wsX6_checkDifferent) := goodIn_app (goodIn_of _ (by decide +kernel)) ggX6_any_X6_checkDifferent
set_option maxRecDepth 20000 in
theorem ggX6_any_X6_addRule : GoodIn wsX6_any wsX6_addRule := goodIn_ca (goodIn_ca (goodIn_r _ [22, 23, 24, 25, 26, 27, 28, 29, 30, 31, 32, 33, 34, 35, 36, 37, 38, 39, 8, 40, 12, 41, 42, 43, 44, 45, 46, 47, 48, 49, 50, 51, 52, 53, 54, 55, 56, 57, 58, 59, 60, 61, 62, 63, 64, 65, 66, 67, 68, 69, 70, 71, 72, 73, 74, 75, 76, 77, 78, 79, 80, 81, 82, 83, 84, 85, 86, 87, 94, 95, 96, 97, 98, 88, 89, 90, 91, 92, 93] (by decide +kernel) (by decide +kernel)) (goodIn_sub (fun _ h => List.mem_cons_of_mem _ (List.mem_append_left _ (List.mem_append_right _ h))) (by decide +kernel))) (goodIn_sub (fun _ h => List.mem_cons_of_mem _ (List.mem_append_right _ h)) (by decide +kernel))
set_option maxRecDepth 20000 in
theorem gX6_any_X6_addRule : GoodIn wsX6_any (wsV RX6 117 RX6 yX6_addRule wsX6_addRule) := goodIn_app (goodIn_of _ (by decide +kernel)) ggX6_any_X6_addRule
set_option maxRecDepth 20000 in
theorem ggX6_lift_X6_has : GoodIn wsX6_lift wsX6_has := goodIn_r _ [9] (by decide +kernel) (by decide +kernel)
set_option maxRecDepth 20000 in
theorem gX6_lift_X6_has : GoodIn wsX6_lift (va_wsS RX6 87 yX6_has wsX6_has) := goodIn_app (goodIn_of _ (by decide +kernel)) ggX6_lift_X6_has
set_option maxRecDepth 20000 in
theorem ggX6_lift_J6_bitCount_0f7a4 : GoodIn wsX6_lift wsJ6_bitCount_0f7a4 := goodIn_r _ [13, 14, 15, 16] (by decide +kernel) (by decide +kernel)
set_option maxRecDepth 20000 in
theorem gX6_lift_J6_bitCount_0f7a4 : GoodIn wsX6_lift (va_wsS RX6 103 yJ6_bitCount_0f7a4 wsJ6_bitCount_0f7a4) := goodIn_app (goodIn_of _ (by decide +kernel)) ggX6_lift_J6_bitCount_0f7a4
set_option maxRecDepth 20000 in
theorem ggX6_choose_X6_checkDecidable : GoodIn wsX6_choose wsX6_checkDecidable := goodIn_ca (goodIn_ca (goodIn_ca (goodIn_r _ [11, 12, 13, 5, 6, 14, 15, 16, 10, 17, 18, 19, 3, 20, 21, 22, 23, 24, 25, 26, 27, 28, 121, 122, 123, 124, 125, 126, 127, 128, 129, 130, 131, 132, 133] (by decide +kernel) (by decide +kernel)) (goodIn_sub (fun _ h => List.mem_cons_of_mem _ (List.mem_append_left _ (List.mem_append_left _ (List.mem_append_right _ h)))) (by decide +kernel))) (goodIn_sub (fun _ h => List.mem_cons_of_mem _ (List.mem_append_left _ (List.mem_append_right _ h))) (by decide +kernel))) (goodIn_sub (fun _ h => List.mem_cons_of_mem _ (List.mem_append_right _ h)) (by decide +kernel))
set_option maxRecDepth 20000 in
theorem gX6_choose_X6_checkDecidable : GoodIn wsX6_choose (wsV RX6 132 RX6 yX6_checkDecidable wsX6_checkDecidable) := goodIn_app (goodIn_of _ (by decide +kernel)) ggX6_choose_X6_checkDecidable
set_option maxRecDepth 20000 in
theorem ggX6_choose_X4_reaches : GoodIn wsX6_choose wsX4_reaches := goodIn_r _ [31, 32, 33, 30, 34, 27, 10, 28, 35, 36, 37, 38, 39, 40, 41, 42, 43, 44, 45, 46, 47, 48, 49, 50, 51, 52, 53, 54, 55, 56, 57, 58, 59, 60, 61, 62, 63, 29, 64, 65, 66, 67, 68, 69, 70, 128, 129, 130, 131, 132, 133, 134, 135, 136, 137, 138] (by decide +kernel) (by decide +kernel)
set_option maxRecDepth 20000 in
theorem gX6_choose_X4_reaches_n141 : GoodIn wsX6_choose (wsX4_reaches) := ggX6_choose_X4_reaches
set_option maxRecDepth 20000 in
theorem ggX6_choose_X6_countUnknown : GoodIn wsX6_choose wsX6_countUnknown := goodIn_r _ [74, 3, 75, 76, 77, 78, 10, 79, 4, 5, 6, 80, 81, 82, 83, 84, 85, 86, 27, 28, 87, 88, 89, 90, 91, 92, 93, 94, 95, 96, 97, 98, 99, 100, 101, 102, 103, 104, 105, 106, 107, 44, 45, 46, 47, 48, 49, 108, 109, 110, 111, 112, 113, 114, 115, 116, 117, 51, 118, 119, 54, 61, 62, 56, 120, 121, 122, 123, 124, 125, 126, 127, 128, 129, 130, 131, 132, 133, 139, 140, 141, 142, 134, 135, 136, 137, 138] (by decide +kernel) (by decide +kernel)
set_option maxRecDepth 20000 in
theorem gX6_choose_X6_countUnknown : GoodIn wsX6_choose (wsV RX6 147 RX6 yX6_countUnknown wsX6_countUnknown) := goodIn_app (goodIn_of _ (by decide +kernel)) ggX6_choose_X6_countUnknown
set_option maxRecDepth 20000 in
theorem ggX6_refuse_X6_checkDecidable : GoodIn wsX6_refuse wsX6_checkDecidable := goodIn_ca (goodIn_ca (goodIn_ca (goodIn_r _ [11, 12, 13, 5, 6, 14, 15, 16, 10, 17, 18, 19, 3, 20, 21, 22, 23, 24, 25, 26, 27, 28, 121, 122, 123, 124, 125, 126, 127, 128, 129, 130, 131, 132, 133] (by decide +kernel) (by decide +kernel)) (goodIn_sub (fun _ h => List.mem_cons_of_mem _ (List.mem_append_left _ (List.mem_append_left _ (List.mem_append_right _ h)))) (by decide +kernel))) (goodIn_sub (fun _ h => List.mem_cons_of_mem _ (List.mem_append_left _ (List.mem_append_right _ h))) (by decide +kernel))) (goodIn_sub (fun _ h => List.mem_cons_of_mem _ (List.mem_append_right _ h)) (by decide +kernel))
set_option maxRecDepth 20000 in
theorem gX6_refuse_X6_checkDecidable : GoodIn wsX6_refuse (wsV RX6 132 RX6 yX6_checkDecidable wsX6_checkDecidable) := goodIn_app (goodIn_of _ (by decide +kernel)) ggX6_refuse_X6_checkDecidable

set_option maxRecDepth 20000 in
theorem ggX0_init_X2_init : GoodIn wsX0_init wsX2_init := goodIn_r _ [10, 11, 2, 3, 12, 13, 14, 15, 16, 17, 18, 19, 20, 21, 22, 23, 24, 25, 26, 27, 28, 29, 30, 31, 32, 33, 34, 38, 39, 40, 41, 42, 43, 44, 45, 46, 47, 48, 49, 50, 51, 52, 53, 54, 55, 56, 57, 58, 59, 60] (by decide +kernel) (by decide +kernel)
set_option maxRecDepth 20000 in
theorem gX0_init_X2_init : GoodIn wsX0_init (wsX2_init) := ggX0_init_X2_init
set_option maxRecDepth 20000 in
theorem ggX0_add_X4_remainder : GoodIn wsX0_add wsX4_remainder := goodIn_r _ [5] (by decide +kernel) (by decide +kernel)
set_option maxRecDepth 20000 in
theorem gX0_add_X4_remainder_n25 : GoodIn wsX0_add (wsX4_remainder) := ggX0_add_X4_remainder
set_option maxRecDepth 20000 in
theorem ggX0_add_X0_stateAt : GoodIn wsX0_add wsX0_stateAt := goodIn_r _ [10, 2, 11, 3, 4, 5, 47, 48, 49] (by decide +kernel) (by decide +kernel)
set_option maxRecDepth 20000 in
theorem gX0_add_X0_stateAt : GoodIn wsX0_add (wsV RX0 29 RX0 yX0_stateAt wsX0_stateAt) := goodIn_app (goodIn_of _ (by decide +kernel)) ggX0_add_X0_stateAt
set_option maxRecDepth 20000 in
theorem ggX0_add_X2_copy : GoodIn wsX0_add wsX2_copy := goodIn_r _ [16, 17, 18, 19, 20, 21, 22, 23, 24, 25, 26, 27, 28, 29, 30, 31, 32, 33, 34, 35, 36, 37, 38, 39, 40, 41, 42, 43, 44, 45, 4, 46, 50, 51, 52, 53, 54, 55, 56, 57, 58, 59, 60, 61, 62, 63, 64, 65, 66, 67, 68, 69, 70, 71, 72] (by decide +kernel) (by decide +kernel)
set_option maxRecDepth 20000 in
theorem gX0_add_X2_copy : GoodIn wsX0_add (wsV RX0 33 RX2 yX2_copy wsX2_copy) := goodIn_app (goodIn_of _ (by decide +kernel)) ggX0_add_X2_copy
set_option maxRecDepth 20000 in
theorem ggX0_stateAt_X4_remainder : GoodIn wsX0_stateAt wsX4_remainder := goodIn_r _ [5] (by decide +kernel) (by decide +kernel)
set_option maxRecDepth 20000 in
theorem gX0_stateAt_X4_remainder_n25 : GoodIn wsX0_stateAt (wsX4_remainder) := ggX0_stateAt_X4_remainder
set_option maxRecDepth 20000 in
theorem ggX1_ticksAt_X4_remainder : GoodIn wsX1_ticksAt wsX4_remainder := goodIn_r _ [6] (by decide +kernel) (by decide +kernel)
set_option maxRecDepth 20000 in
theorem gX1_ticksAt_X4_remainder_n22 : GoodIn wsX1_ticksAt (wsX4_remainder) := ggX1_ticksAt_X4_remainder
set_option maxRecDepth 20000 in
theorem ggX1_timesToTick_X4_remainder : GoodIn wsX1_timesToTick wsX4_remainder := goodIn_r _ [6] (by decide +kernel) (by decide +kernel)
set_option maxRecDepth 20000 in
theorem gX1_timesToTick_X4_remainder_n22 : GoodIn wsX1_timesToTick (wsX4_remainder) := ggX1_timesToTick_X4_remainder
set_option maxRecDepth 20000 in
theorem ggX2_init_X1_init : GoodIn wsX2_init wsX1_init := goodIn_r _ [20, 21, 2, 3, 22, 23, 42, 43, 44, 45, 46, 47, 48, 49] (by decide +kernel) (by decide +kernel)
set_option maxRecDepth 20000 in
theorem gX2_init_X1_init : GoodIn wsX2_init (wsX1_init) := ggX2_init_X1_init
set_option maxRecDepth 20000 in
theorem ggX2_init_X4_fillRow : GoodIn wsX2_init wsX4_fillRow := goodIn_r _ [26] (by decide +kernel) (by decide +kernel)
set_option maxRecDepth 20000 in
theorem gX2_init_X4_fillRow_n50 : GoodIn wsX2_init (wsX4_fillRow) := ggX2_init_X4_fillRow
set_option maxRecDepth 20000 in
theorem ggX2_placeOf_X2_depth : GoodIn wsX2_placeOf wsX2_depth := goodIn_r _ [5, 6, 7, 8, 9, 10, 11, 12, 13, 14, 15, 16, 17, 18, 19, 20, 21] (by decide +kernel) (by decide +kernel)
set_option maxRecDepth 20000 in
theorem gX2_placeOf_X2_depth : GoodIn wsX2_placeOf (wsV RX2 54 RX2 yX2_depth wsX2_depth) := goodIn_app (goodIn_of _ (by decide +kernel)) ggX2_placeOf_X2_depth
set_option maxRecDepth 20000 in
theorem ggX2_around_X2_depth : GoodIn wsX2_around wsX2_depth := goodIn_r _ [5, 6, 7, 8, 9, 10, 11, 12, 13, 14, 15, 16, 17, 18, 19, 20, 21] (by decide +kernel) (by decide +kernel)
set_option maxRecDepth 20000 in
theorem gX2_around_X2_depth : GoodIn wsX2_around (wsV RX2 54 RX2 yX2_depth wsX2_depth) := goodIn_app (goodIn_of _ (by decide +kernel)) ggX2_around_X2_depth
set_option maxRecDepth 20000 in
theorem ggX2_fillToWriter_X2_pointerOf : GoodIn wsX2_fillToWriter wsX2_pointerOf := goodIn_r _ [6, 7, 17, 18, 19, 20, 21, 22, 23, 24, 25, 26, 27, 28, 29, 30, 31] (by decide +kernel) (by decide +kernel)
set_option maxRecDepth 20000 in
theorem gX2_fillToWriter_X2_pointerOf : GoodIn wsX2_fillToWriter (wsV RX2 64 RX2 yX2_pointerOf wsX2_pointerOf) := goodIn_app (goodIn_of _ (by decide +kernel)) ggX2_fillToWriter_X2_pointerOf
set_option maxRecDepth 20000 in
theorem ggX2_fillToWriter_X2_around : GoodIn wsX2_fillToWriter wsX2_around := goodIn_r _ [11, 12, 13, 14, 5, 15, 16, 17, 18, 19, 20, 21, 22, 23, 24, 25, 26, 27, 28, 29, 30, 31] (by decide +kernel) (by decide +kernel)
set_option maxRecDepth 20000 in
theorem gX2_fillToWriter_X2_around : GoodIn wsX2_fillToWriter (wsV RX2 68 RX2 yX2_around wsX2_around) := goodIn_app (goodIn_of _ (by decide +kernel)) ggX2_fillToWriter_X2_around
set_option maxRecDepth 20000 in
theorem ggX2_fillToReader_X2_pointerOf : GoodIn wsX2_fillToReader wsX2_pointerOf := goodIn_r _ [6, 7, 17, 18, 19, 20, 21, 22, 23, 24, 25, 26, 27, 28, 29, 30, 31] (by decide +kernel) (by decide +kernel)
set_option maxRecDepth 20000 in
theorem gX2_fillToReader_X2_pointerOf : GoodIn wsX2_fillToReader (wsV RX2 64 RX2 yX2_pointerOf wsX2_pointerOf) := goodIn_app (goodIn_of _ (by decide +kernel)) ggX2_fillToReader_X2_pointerOf
set_option maxRecDepth 20000 in
theorem ggX2_fillToReader_X2_around : GoodIn wsX2_fillToReader wsX2_around := goodIn_r _ [11, 12, 13, 14, 5, 15, 16, 17, 18, 19, 20, 21, 22, 23, 24, 25, 26, 27, 28, 29, 30, 31] (by decide +kernel) (by decide +kernel)
set_option maxRecDepth 20000 in
theorem gX2_fillToReader_X2_around : GoodIn wsX2_fillToReader (wsV RX2 68 RX2 yX2_around wsX2_around) := goodIn_app (goodIn_of _ (by decide +kernel)) ggX2_fillToReader_X2_around
set_option maxRecDepth 20000 in
theorem ggX2_seemsFull_X2_pointerOf : GoodIn wsX2_seemsFull wsX2_pointerOf := goodIn_r _ [6, 7, 17, 18, 19, 20, 21, 22, 23, 24, 25, 26, 27, 28, 29, 30, 31] (by decide +kernel) (by decide +kernel)
set_option maxRecDepth 20000 in
theorem gX2_seemsFull_X2_pointerOf : GoodIn wsX2_seemsFull (wsV RX2 64 RX2 yX2_pointerOf wsX2_pointerOf) := goodIn_app (goodIn_of _ (by decide +kernel)) ggX2_seemsFull_X2_pointerOf
set_option maxRecDepth 20000 in
theorem ggX2_seemsFull_X2_depth : GoodIn wsX2_seemsFull wsX2_depth := goodIn_r _ [11, 12, 17, 18, 19, 20, 21, 22, 23, 24, 25, 26, 27, 28, 29, 30, 31] (by decide +kernel) (by decide +kernel)
set_option maxRecDepth 20000 in
theorem gX2_seemsFull_X2_depth : GoodIn wsX2_seemsFull (wsV RX2 54 RX2 yX2_depth wsX2_depth) := goodIn_app (goodIn_of _ (by decide +kernel)) ggX2_seemsFull_X2_depth
set_option maxRecDepth 20000 in
theorem ggX2_seemsFull_X2_around : GoodIn wsX2_seemsFull wsX2_around := goodIn_r _ [16, 8, 9, 10, 5, 11, 12, 17, 18, 19, 20, 21, 22, 23, 24, 25, 26, 27, 28, 29, 30, 31] (by decide +kernel) (by decide +kernel)
set_option maxRecDepth 20000 in
theorem gX2_seemsFull_X2_around : GoodIn wsX2_seemsFull (wsV RX2 68 RX2 yX2_around wsX2_around) := goodIn_app (goodIn_of _ (by decide +kernel)) ggX2_seemsFull_X2_around
set_option maxRecDepth 20000 in
theorem ggX2_seemsEmpty_X2_pointerOf : GoodIn wsX2_seemsEmpty wsX2_pointerOf := goodIn_r _ [6, 7, 8, 9, 10, 11, 12, 13, 14, 15, 16, 17, 18, 19, 20, 21, 22] (by decide +kernel) (by decide +kernel)
set_option maxRecDepth 20000 in
theorem gX2_seemsEmpty_X2_pointerOf : GoodIn wsX2_seemsEmpty (wsV RX2 64 RX2 yX2_pointerOf wsX2_pointerOf) := goodIn_app (goodIn_of _ (by decide +kernel)) ggX2_seemsEmpty_X2_pointerOf
set_option maxRecDepth 20000 in
theorem ggX2_seemsNearFull_X2_fillToWriter : GoodIn wsX2_seemsNearFull wsX2_fillToWriter := goodIn_r _ [6, 7, 8, 9, 10, 5, 11, 12, 13, 14, 15, 16, 17, 18, 19, 20, 21, 22, 23, 24, 25, 26, 27, 28, 29, 30, 31, 32, 33, 34, 35, 36, 37, 38, 39, 40, 41, 42, 43, 44] (by decide +kernel) (by decide +kernel)
set_option maxRecDepth 20000 in
theorem gX2_seemsNearFull_X2_fillToWriter : GoodIn wsX2_seemsNearFull (wsV RX2 71 RX2 yX2_fillToWriter wsX2_fillToWriter) := goodIn_app (goodIn_of _ (by decide +kernel)) ggX2_seemsNearFull_X2_fillToWriter
set_option maxRecDepth 20000 in
theorem ggX2_seemsNearFull_X2_depth : GoodIn wsX2_seemsNearFull wsX2_depth := goodIn_r _ [20, 21, 22, 23, 24, 25, 26, 27, 28, 29, 30, 31, 32, 33, 34, 35, 36] (by decide +kernel) (by decide +kernel)
set_option maxRecDepth 20000 in
theorem gX2_seemsNearFull_X2_depth : GoodIn wsX2_seemsNearFull (wsV RX2 54 RX2 yX2_depth wsX2_depth) := goodIn_app (goodIn_of _ (by decide +kernel)) ggX2_seemsNearFull_X2_depth
set_option maxRecDepth 20000 in
theorem ggX2_seemsNearEmpty_X2_fillToReader : GoodIn wsX2_seemsNearEmpty wsX2_fillToReader := goodIn_r _ [6, 7, 8, 9, 10, 5, 11, 12, 13, 14, 15, 16, 17, 18, 19, 20, 21, 22, 23, 24, 25, 26, 27, 28, 29, 30, 31, 32, 33, 34, 35, 36, 37, 38, 39, 40, 41, 42, 43, 44] (by decide +kernel) (by decide +kernel)
set_option maxRecDepth 20000 in
theorem gX2_seemsNearEmpty_X2_fillToReader : GoodIn wsX2_seemsNearEmpty (wsV RX2 74 RX2 yX2_fillToReader wsX2_fillToReader) := goodIn_app (goodIn_of _ (by decide +kernel)) ggX2_seemsNearEmpty_X2_fillToReader
set_option maxRecDepth 20000 in
theorem ggX2_emptyRing_X1_clearPointers : GoodIn wsX2_emptyRing wsX1_clearPointers := goodIn_r _ [14, 15, 16, 17, 36, 37, 38, 39, 40, 41, 42, 43] (by decide +kernel) (by decide +kernel)
set_option maxRecDepth 20000 in
theorem gX2_emptyRing_X1_clearPointers : GoodIn wsX2_emptyRing (wsV RX2 77 RX1 yX1_clearPointers wsX1_clearPointers) := goodIn_app (goodIn_of _ (by decide +kernel)) ggX2_emptyRing_X1_clearPointers
set_option maxRecDepth 20000 in
theorem ggX2_emptyRing_X4_fillRow : GoodIn wsX2_emptyRing wsX4_fillRow := goodIn_r _ [20] (by decide +kernel) (by decide +kernel)
set_option maxRecDepth 20000 in
theorem gX2_emptyRing_X4_fillRow_n50 : GoodIn wsX2_emptyRing (wsX4_fillRow) := ggX2_emptyRing_X4_fillRow
set_option maxRecDepth 20000 in
theorem ggX2_letWait_X4_setAt : GoodIn wsX2_letWait wsX4_setAt := goodIn_r _ [5] (by decide +kernel) (by decide +kernel)
set_option maxRecDepth 20000 in
theorem gX2_letWait_X4_setAt_n92 : GoodIn wsX2_letWait (wsX4_setAt) := ggX2_letWait_X4_setAt
set_option maxRecDepth 20000 in
theorem ggX2_letPass_X2_step : GoodIn wsX2_letPass wsX2_step := goodIn_r _ [5, 6, 7, 8, 9, 10, 11, 12, 13, 14, 15, 16, 17, 18, 19, 20, 21, 22, 23, 4, 24, 25, 26, 27, 28, 29, 30, 31, 32, 33, 34, 35, 36, 37, 38, 39, 40, 41, 42, 43, 44, 45, 46, 47, 48, 49, 50, 51, 52, 53, 54, 55, 56, 57, 58, 59, 60, 61, 62, 63, 64, 65, 66, 67, 68, 69, 70, 71, 72, 73, 74, 75, 76, 77, 78, 79, 80, 81, 82, 83, 84, 85, 86, 87, 88, 89, 90, 91, 92, 93, 94, 95, 96, 97, 98, 99, 100] (by decide +kernel) (by decide +kernel)
set_option maxRecDepth 20000 in
theorem gX2_letPass_X2_step : GoodIn wsX2_letPass (wsV RX2 100 RX2 yX2_step wsX2_step) := goodIn_app (goodIn_of _ (by decide +kernel)) ggX2_letPass_X2_step
set_option maxRecDepth 20000 in
theorem ggX2_follow_X4_valueAt : GoodIn wsX2_follow wsX4_valueAt := goodIn_r _ [3] (by decide +kernel) (by decide +kernel)
set_option maxRecDepth 20000 in
theorem gX2_follow_X4_valueAt_n111 : GoodIn wsX2_follow (wsX4_valueAt) := ggX2_follow_X4_valueAt
set_option maxRecDepth 20000 in
theorem ggX2_follow_X2_letWait : GoodIn wsX2_follow wsX2_letWait := goodIn_r _ [8, 9, 10, 11, 2, 12, 97, 98, 99, 100, 101, 102, 103, 104, 105, 106, 107, 108, 109, 110, 111] (by decide +kernel) (by decide +kernel)
set_option maxRecDepth 20000 in
theorem gX2_follow_X2_letWait : GoodIn wsX2_follow (wsV RX2 118 RX2 yX2_letWait wsX2_letWait) := goodIn_app (goodIn_of _ (by decide +kernel)) ggX2_follow_X2_letWait
set_option maxRecDepth 20000 in
theorem ggX2_follow_X2_hasTimeFor : GoodIn wsX2_follow wsX2_hasTimeFor := goodIn_r _ [16, 17, 18, 97, 98, 99, 100, 101, 102, 103, 104, 105, 106, 107, 108, 109, 110, 111] (by decide +kernel) (by decide +kernel)
set_option maxRecDepth 20000 in
theorem gX2_follow_X2_hasTimeFor : GoodIn wsX2_follow (wsV RX2 122 RX2 yX2_hasTimeFor wsX2_hasTimeFor) := goodIn_app (goodIn_of _ (by decide +kernel)) ggX2_follow_X2_hasTimeFor
set_option maxRecDepth 20000 in
theorem ggX2_follow_X2_letPass : GoodIn wsX2_follow wsX2_letPass := goodIn_r _ [22, 23, 24, 25, 7, 26, 17, 27, 28, 9, 29, 30, 31, 32, 33, 34, 35, 36, 37, 2, 38, 39, 40, 41, 42, 43, 44, 45, 46, 47, 48, 49, 50, 51, 52, 53, 54, 55, 56, 57, 58, 59, 60, 61, 62, 63, 64, 65, 66, 67, 68, 69, 70, 71, 72, 73, 74, 75, 76, 77, 78, 79, 80, 81, 82, 83, 84, 85, 1, 3, 11, 12, 86, 87, 88, 89, 10, 90, 97, 98, 99, 100, 101, 102, 103, 104, 105, 106, 107, 108, 109, 110, 111, 112, 113, 114, 115, 116, 117, 118, 119] (by decide +kernel) (by decide +kernel)
set_option maxRecDepth 20000 in
theorem gX2_follow_X2_letPass : GoodIn wsX2_follow (wsV RX2 126 RX2 yX2_letPass wsX2_letPass) := goodIn_app (goodIn_of _ (by decide +kernel)) ggX2_follow_X2_letPass
set_option maxRecDepth 20000 in
theorem ggX2_stallsWithin_X1_ticksAt : GoodIn wsX2_stallsWithin wsX1_ticksAt := goodIn_r _ [8, 9, 10, 11, 12, 13, 14, 93, 94, 95, 96, 97, 98, 99, 100] (by decide +kernel) (by decide +kernel)
set_option maxRecDepth 20000 in
theorem gX2_stallsWithin_X1_ticksAt : GoodIn wsX2_stallsWithin (wsV RX2 129 RX1 yX1_ticksAt wsX1_ticksAt) := goodIn_app (goodIn_of _ (by decide +kernel)) ggX2_stallsWithin_X1_ticksAt
set_option maxRecDepth 20000 in
theorem ggX2_stallsWithin_X2_seemsFull : GoodIn wsX2_stallsWithin wsX2_seemsFull := goodIn_r _ [19, 1, 20, 21, 22, 18, 23, 24, 25, 26, 27, 28, 29, 30, 31, 32, 33, 78, 79, 80, 81, 82, 83, 84, 85, 86, 87, 88, 89, 90, 91, 92, 93, 94, 95, 96, 97, 98, 99, 100] (by decide +kernel) (by decide +kernel)
set_option maxRecDepth 20000 in
theorem gX2_stallsWithin_X2_seemsFull : GoodIn wsX2_stallsWithin (wsV RX2 132 RX2 yX2_seemsFull wsX2_seemsFull) := goodIn_app (goodIn_of _ (by decide +kernel)) ggX2_stallsWithin_X2_seemsFull
set_option maxRecDepth 20000 in
theorem ggX2_stallsWithin_X2_step : GoodIn wsX2_stallsWithin wsX2_step := goodIn_r _ [37, 2, 1, 38, 3, 4, 5, 6, 7, 8, 9, 10, 11, 12, 13, 14, 15, 16, 17, 18, 19, 20, 21, 22, 23, 24, 25, 26, 27, 28, 29, 30, 31, 32, 33, 39, 40, 41, 42, 43, 44, 45, 46, 47, 48, 49, 50, 51, 52, 53, 54, 55, 56, 57, 58, 59, 60, 61, 62, 63, 64, 65, 66, 67, 68, 69, 70, 71, 72, 73, 74, 75, 76, 77, 78, 79, 80, 81, 82, 83, 84, 85, 86, 87, 88, 89, 90, 91, 92, 93, 94, 95, 96, 97, 98, 99, 100] (by decide +kernel) (by decide +kernel)
set_option maxRecDepth 20000 in
theorem gX2_stallsWithin_X2_step : GoodIn wsX2_stallsWithin (wsV RX2 100 RX2 yX2_step wsX2_step) := goodIn_app (goodIn_of _ (by decide +kernel)) ggX2_stallsWithin_X2_step
set_option maxRecDepth 20000 in
theorem ggX2_step_X1_ticksAt : GoodIn wsX2_step wsX1_ticksAt := goodIn_r _ [9, 10, 11, 12, 13, 14, 15, 89, 90, 91, 92, 93, 94, 95, 96] (by decide +kernel) (by decide +kernel)
set_option maxRecDepth 20000 in
theorem gX2_step_X1_ticksAt : GoodIn wsX2_step (wsV RX2 129 RX1 yX1_ticksAt wsX1_ticksAt) := goodIn_app (goodIn_of _ (by decide +kernel)) ggX2_step_X1_ticksAt
set_option maxRecDepth 20000 in
theorem ggX2_step_X2_seemsFull : GoodIn wsX2_step wsX2_seemsFull := goodIn_r _ [20, 2, 21, 22, 23, 19, 24, 25, 26, 27, 28, 29, 30, 31, 32, 33, 34, 74, 75, 76, 77, 78, 79, 80, 81, 82, 83, 84, 85, 86, 87, 88, 89, 90, 91, 92, 93, 94, 95, 96] (by decide +kernel) (by decide +kernel)
set_option maxRecDepth 20000 in
theorem gX2_step_X2_seemsFull : GoodIn wsX2_step (wsV RX2 132 RX2 yX2_seemsFull wsX2_seemsFull) := goodIn_app (goodIn_of _ (by decide +kernel)) ggX2_step_X2_seemsFull
set_option maxRecDepth 20000 in
theorem ggX2_step_X2_seemsEmpty : GoodIn wsX2_step wsX2_seemsEmpty := goodIn_r _ [38, 3, 21, 22, 23, 19, 24, 25, 74, 75, 76, 77, 78, 79, 80, 81, 82, 83, 84, 85, 86, 87, 88, 89, 90, 91, 92, 93, 94, 95, 96] (by decide +kernel) (by decide +kernel)
set_option maxRecDepth 20000 in
theorem gX2_step_X2_seemsEmpty : GoodIn wsX2_step (wsV RX2 136 RX2 yX2_seemsEmpty wsX2_seemsEmpty) := goodIn_app (goodIn_of _ (by decide +kernel)) ggX2_step_X2_seemsEmpty
set_option maxRecDepth 20000 in
theorem ggX2_step_X2_codeOf : GoodIn wsX2_step wsX2_codeOf := goodIn_r _ [42, 25, 74, 75, 76, 77, 78, 79, 80, 81, 82, 83, 84, 85, 86, 87, 88] (by decide +kernel) (by decide +kernel)
set_option maxRecDepth 20000 in
theorem gX2_step_X2_codeOf : GoodIn wsX2_step (wsV RX2 139 RX2 yX2_codeOf wsX2_codeOf) := goodIn_app (goodIn_of _ (by decide +kernel)) ggX2_step_X2_codeOf
set_option maxRecDepth 20000 in
theorem ggX2_step_X2_around : GoodIn wsX2_step wsX2_around := goodIn_r _ [34, 26, 27, 28, 19, 29, 30, 74, 75, 76, 77, 78, 79, 80, 81, 82, 83, 84, 85, 86, 87, 88] (by decide +kernel) (by decide +kernel)
set_option maxRecDepth 20000 in
theorem gX2_step_X2_around : GoodIn wsX2_step (wsV RX2 68 RX2 yX2_around wsX2_around) := goodIn_app (goodIn_of _ (by decide +kernel)) ggX2_step_X2_around
set_option maxRecDepth 20000 in
theorem ggX2_step_X1_tick : GoodIn wsX2_step wsX1_tick := goodIn_r _ [46, 47, 48, 49, 50, 89, 90, 91, 92, 93, 94, 95, 96] (by decide +kernel) (by decide +kernel)
set_option maxRecDepth 20000 in
theorem gX2_step_X1_tick : GoodIn wsX2_step (wsV RX2 142 RX1 yX1_tick wsX1_tick) := goodIn_app (goodIn_of _ (by decide +kernel)) ggX2_step_X1_tick
set_option maxRecDepth 20000 in
theorem ggX2_step_X2_takeWord : GoodIn wsX2_step wsX2_takeWord := goodIn_r _ [54, 3, 55, 56, 57, 58, 59, 60, 61, 62, 19, 63, 26, 27, 28, 29, 30, 64, 14, 65, 66, 67, 31, 32, 33, 34, 74, 75, 76, 77, 78, 79, 80, 81, 82, 83, 84, 85, 86, 87, 88, 89, 90, 91, 92, 93, 94, 95, 96] (by decide +kernel) (by decide +kernel)
set_option maxRecDepth 20000 in
theorem gX2_step_X2_takeWord : GoodIn wsX2_step (wsV RX2 146 RX2 yX2_takeWord wsX2_takeWord) := goodIn_app (goodIn_of _ (by decide +kernel)) ggX2_step_X2_takeWord
set_option maxRecDepth 20000 in
theorem ggX2_step_X2_putWord : GoodIn wsX2_step wsX2_putWord := goodIn_r _ [71, 2, 55, 72, 56, 73, 4, 60, 61, 62, 19, 63, 26, 27, 28, 29, 30, 64, 14, 65, 66, 67, 31, 32, 33, 34, 74, 75, 76, 77, 78, 79, 80, 81, 82, 83, 84, 85, 86, 87, 88, 89, 90, 91, 92, 93, 94, 95, 96] (by decide +kernel) (by decide +kernel)
set_option maxRecDepth 20000 in
theorem gX2_step_X2_putWord : GoodIn wsX2_step (wsV RX2 149 RX2 yX2_putWord wsX2_putWord) := goodIn_app (goodIn_of _ (by decide +kernel)) ggX2_step_X2_putWord
set_option maxRecDepth 20000 in
theorem ggX2_takeWord_X2_placeOf : GoodIn wsX2_takeWord wsX2_placeOf := goodIn_r _ [11, 12, 13, 14, 10, 15, 16, 26, 27, 28, 29, 30, 31, 32, 33, 34, 35, 36, 37, 38, 39, 40] (by decide +kernel) (by decide +kernel)
set_option maxRecDepth 20000 in
theorem gX2_takeWord_X2_placeOf : GoodIn wsX2_takeWord (wsV RX2 152 RX2 yX2_placeOf wsX2_placeOf) := goodIn_app (goodIn_of _ (by decide +kernel)) ggX2_takeWord_X2_placeOf
set_option maxRecDepth 20000 in
theorem ggX2_takeWord_X4_valueAt : GoodIn wsX2_takeWord wsX4_valueAt := goodIn_r _ [19] (by decide +kernel) (by decide +kernel)
set_option maxRecDepth 20000 in
theorem gX2_takeWord_X4_valueAt_n111 : GoodIn wsX2_takeWord (wsX4_valueAt) := ggX2_takeWord_X4_valueAt
set_option maxRecDepth 20000 in
theorem ggX2_takeWord_X4_setAt : GoodIn wsX2_takeWord wsX4_setAt := goodIn_r _ [21] (by decide +kernel) (by decide +kernel)
set_option maxRecDepth 20000 in
theorem gX2_takeWord_X4_setAt_n92 : GoodIn wsX2_takeWord (wsX4_setAt) := ggX2_takeWord_X4_setAt
set_option maxRecDepth 20000 in
theorem ggX2_takeWord_X2_around : GoodIn wsX2_takeWord wsX2_around := goodIn_r _ [25, 12, 13, 14, 10, 15, 16, 26, 27, 28, 29, 30, 31, 32, 33, 34, 35, 36, 37, 38, 39, 40] (by decide +kernel) (by decide +kernel)
set_option maxRecDepth 20000 in
theorem gX2_takeWord_X2_around : GoodIn wsX2_takeWord (wsV RX2 68 RX2 yX2_around wsX2_around) := goodIn_app (goodIn_of _ (by decide +kernel)) ggX2_takeWord_X2_around
set_option maxRecDepth 20000 in
theorem ggX2_putWord_X2_placeOf : GoodIn wsX2_putWord wsX2_placeOf := goodIn_r _ [11, 12, 13, 14, 10, 15, 16, 26, 27, 28, 29, 30, 31, 32, 33, 34, 35, 36, 37, 38, 39, 40] (by decide +kernel) (by decide +kernel)
set_option maxRecDepth 20000 in
theorem gX2_putWord_X2_placeOf : GoodIn wsX2_putWord (wsV RX2 152 RX2 yX2_placeOf wsX2_placeOf) := goodIn_app (goodIn_of _ (by decide +kernel)) ggX2_putWord_X2_placeOf
set_option maxRecDepth 20000 in
theorem ggX2_putWord_X4_valueAt : GoodIn wsX2_putWord wsX4_valueAt := goodIn_r _ [19] (by decide +kernel) (by decide +kernel)
set_option maxRecDepth 20000 in
theorem gX2_putWord_X4_valueAt_n111 : GoodIn wsX2_putWord (wsX4_valueAt) := ggX2_putWord_X4_valueAt
set_option maxRecDepth 20000 in
theorem ggX2_putWord_X4_setAt : GoodIn wsX2_putWord wsX4_setAt := goodIn_r _ [21] (by decide +kernel) (by decide +kernel)
set_option maxRecDepth 20000 in
theorem gX2_putWord_X4_setAt_n92 : GoodIn wsX2_putWord (wsX4_setAt) := ggX2_putWord_X4_setAt
set_option maxRecDepth 20000 in
theorem ggX2_putWord_X2_around : GoodIn wsX2_putWord wsX2_around := goodIn_r _ [25, 12, 13, 14, 10, 15, 16, 26, 27, 28, 29, 30, 31, 32, 33, 34, 35, 36, 37, 38, 39, 40] (by decide +kernel) (by decide +kernel)
set_option maxRecDepth 20000 in
theorem gX2_putWord_X2_around : GoodIn wsX2_putWord (wsV RX2 68 RX2 yX2_around wsX2_around) := goodIn_app (goodIn_of _ (by decide +kernel)) ggX2_putWord_X2_around
set_option maxRecDepth 20000 in
theorem ggX2_latestCame_X4_valueAt : GoodIn wsX2_latestCame wsX4_valueAt := goodIn_r _ [5] (by decide +kernel) (by decide +kernel)
set_option maxRecDepth 20000 in
theorem gX2_latestCame_X4_valueAt_n111 : GoodIn wsX2_latestCame (wsX4_valueAt) := ggX2_latestCame_X4_valueAt
set_option maxRecDepth 20000 in
theorem ggX2_copy_X1_copy : GoodIn wsX2_copy wsX1_copy := goodIn_r _ [20, 21, 22, 23, 24, 25, 26, 27, 28, 47, 48, 49, 50, 51, 52, 53, 54] (by decide +kernel) (by decide +kernel)
set_option maxRecDepth 20000 in
theorem gX2_copy_X1_copy : GoodIn wsX2_copy (wsV RX2 155 RX1 yX1_copy wsX1_copy) := goodIn_app (goodIn_of _ (by decide +kernel)) ggX2_copy_X1_copy
set_option maxRecDepth 20000 in
theorem ggX2_copy_X4_copyRow : GoodIn wsX2_copy wsX4_copyRow := goodIn_r _ [31] (by decide +kernel) (by decide +kernel)
set_option maxRecDepth 20000 in
theorem gX2_copy_X4_copyRow_n159 : GoodIn wsX2_copy (wsX4_copyRow) := ggX2_copy_X4_copyRow
set_option maxRecDepth 20000 in
theorem ggX3_read_X3_readPart : GoodIn wsX3_read wsX3_readPart := goodIn_r _ [8, 2, 9, 10, 11, 7, 12, 13, 14, 15, 16, 17, 3, 18, 19, 20, 21, 22, 23, 24, 25, 26, 27, 28, 29, 1, 30, 31, 32, 33, 34, 35, 36, 37, 38, 39, 40] (by decide +kernel) (by decide +kernel)
set_option maxRecDepth 20000 in
theorem gX3_read_X3_readPart : GoodIn wsX3_read (wsV RX3 32 RX3 yX3_readPart wsX3_readPart) := goodIn_app (goodIn_of _ (by decide +kernel)) ggX3_read_X3_readPart
set_option maxRecDepth 20000 in
theorem ggX3_read_X3_readSign : GoodIn wsX3_read wsX3_readSign := goodIn_r _ [12, 13, 2, 14, 15, 16, 7, 17, 3, 35, 36, 37, 38, 39, 40] (by decide +kernel) (by decide +kernel)
set_option maxRecDepth 20000 in
theorem gX3_read_X3_readSign : GoodIn wsX3_read (wsV RX3 36 RX3 yX3_readSign wsX3_readSign) := goodIn_app (goodIn_of _ (by decide +kernel)) ggX3_read_X3_readSign
set_option maxRecDepth 20000 in
theorem ggX3_wordsInParts_X4_valueAt : GoodIn wsX3_wordsInParts wsX4_valueAt := goodIn_r _ [6] (by decide +kernel) (by decide +kernel)
set_option maxRecDepth 20000 in
theorem gX3_wordsInParts_X4_valueAt_n40 : GoodIn wsX3_wordsInParts (wsX4_valueAt) := ggX3_wordsInParts_X4_valueAt
set_option maxRecDepth 20000 in
theorem ggX3_readPart_X3_readSign : GoodIn wsX3_readPart wsX3_readSign := goodIn_r _ [6, 7, 1, 8, 9, 10, 5, 11, 12, 31, 32, 33, 34, 35, 36] (by decide +kernel) (by decide +kernel)
set_option maxRecDepth 20000 in
theorem gX3_readPart_X3_readSign : GoodIn wsX3_readPart (wsV RX3 36 RX3 yX3_readSign wsX3_readSign) := goodIn_app (goodIn_of _ (by decide +kernel)) ggX3_readPart_X3_readSign
set_option maxRecDepth 20000 in
theorem ggX3_readPart_X3_readNumber : GoodIn wsX3_readPart wsX3_readNumber := goodIn_r _ [16, 1, 17, 18, 19, 5, 20, 7, 8, 9, 10, 11, 12, 31, 32, 33, 34, 35, 36] (by decide +kernel) (by decide +kernel)
set_option maxRecDepth 20000 in
theorem gX3_readPart_X3_readNumber : GoodIn wsX3_readPart (wsV RX3 44 RX3 yX3_readNumber wsX3_readNumber) := goodIn_app (goodIn_of _ (by decide +kernel)) ggX3_readPart_X3_readNumber
set_option maxRecDepth 20000 in
theorem ggX3_readPart_X3_addPart : GoodIn wsX3_readPart wsX3_addPart := goodIn_r _ [24, 25, 26, 27, 28, 29, 30, 31, 32, 33, 34, 35, 36] (by decide +kernel) (by decide +kernel)
set_option maxRecDepth 20000 in
theorem gX3_readPart_X3_addPart : GoodIn wsX3_readPart (wsV RX3 48 RX3 yX3_addPart wsX3_addPart) := goodIn_app (goodIn_of _ (by decide +kernel)) ggX3_readPart_X3_addPart
set_option maxRecDepth 20000 in
theorem ggX3_readPart_X3_digitAtCursor : GoodIn wsX3_readPart wsX3_digitAtCursor := goodIn_r _ [20, 7, 1, 8, 9, 10, 5, 11, 12, 31, 32, 33, 34, 35, 36] (by decide +kernel) (by decide +kernel)
set_option maxRecDepth 20000 in
theorem gX3_readPart_X3_digitAtCursor : GoodIn wsX3_readPart (wsV RX3 52 RX3 yX3_digitAtCursor wsX3_digitAtCursor) := goodIn_app (goodIn_of _ (by decide +kernel)) ggX3_readPart_X3_digitAtCursor
set_option maxRecDepth 20000 in
theorem ggX3_readNumber_X3_digitAtCursor : GoodIn wsX3_readNumber wsX3_digitAtCursor := goodIn_r _ [6, 7, 1, 8, 9, 10, 5, 11, 12, 13, 14, 15, 16, 17, 18] (by decide +kernel) (by decide +kernel)
set_option maxRecDepth 20000 in
theorem gX3_readNumber_X3_digitAtCursor : GoodIn wsX3_readNumber (wsV RX3 52 RX3 yX3_digitAtCursor wsX3_digitAtCursor) := goodIn_app (goodIn_of _ (by decide +kernel)) ggX3_readNumber_X3_digitAtCursor
set_option maxRecDepth 20000 in
theorem ggX3_readSign_X3_hasSign : GoodIn wsX3_readSign wsX3_hasSign := goodIn_r _ [7, 2, 8, 1, 9, 10, 11, 12, 13, 14] (by decide +kernel) (by decide +kernel)
set_option maxRecDepth 20000 in
theorem gX3_readSign_X3_hasSign : GoodIn wsX3_readSign (wsV RX3 56 RX3 yX3_hasSign wsX3_hasSign) := goodIn_app (goodIn_of _ (by decide +kernel)) ggX3_readSign_X3_hasSign
set_option maxRecDepth 20000 in
theorem ggX3_digitAtCursor_X3_hasSign : GoodIn wsX3_digitAtCursor wsX3_hasSign := goodIn_r _ [7, 2, 8, 1, 9, 10, 11, 12, 13, 14] (by decide +kernel) (by decide +kernel)
set_option maxRecDepth 20000 in
theorem gX3_digitAtCursor_X3_hasSign : GoodIn wsX3_digitAtCursor (wsV RX3 56 RX3 yX3_hasSign wsX3_hasSign) := goodIn_app (goodIn_of _ (by decide +kernel)) ggX3_digitAtCursor_X3_hasSign
set_option maxRecDepth 20000 in
theorem ggX3_addPart_X4_setAt : GoodIn wsX3_addPart wsX4_setAt := goodIn_r _ [6] (by decide +kernel) (by decide +kernel)
set_option maxRecDepth 20000 in
theorem gX3_addPart_X4_setAt_n59 : GoodIn wsX3_addPart (wsX4_setAt) := ggX3_addPart_X4_setAt
set_option maxRecDepth 20000 in
theorem ggX4_init_X2_init : GoodIn wsX4_init wsX2_init := goodIn_r _ [20, 21, 2, 3, 22, 23, 24, 25, 26, 27, 28, 29, 30, 31, 32, 33, 34, 35, 36, 37, 38, 39, 40, 41, 42, 43, 44, 59, 60, 61, 62, 63, 64, 65, 66, 67, 68, 69, 70, 71, 72, 73, 89, 90, 91, 92, 93, 94, 95, 96] (by decide +kernel) (by decide +kernel)
set_option maxRecDepth 20000 in
theorem gX4_init_X2_init : GoodIn wsX4_init (wsX2_init) := ggX4_init_X2_init
set_option maxRecDepth 20000 in
theorem ggX4_init_X0_init : GoodIn wsX4_init wsX0_init := goodIn_r _ [47, 48, 2, 3, 49, 50, 5, 6, 51, 19, 20, 21, 22, 23, 24, 25, 26, 27, 28, 29, 30, 31, 32, 33, 34, 35, 36, 37, 38, 39, 40, 41, 42, 43, 44, 80, 81, 82, 59, 60, 61, 62, 63, 64, 65, 66, 67, 68, 69, 70, 71, 72, 73, 89, 90, 91, 92, 93, 94, 95, 96] (by decide +kernel) (by decide +kernel)
set_option maxRecDepth 20000 in
theorem gX4_init_X0_init : GoodIn wsX4_init (wsX0_init) := ggX4_init_X0_init
set_option maxRecDepth 20000 in
theorem ggX4_init_X3_init : GoodIn wsX4_init wsX3_init := goodIn_r _ [53, 54, 2, 3, 55, 56, 31, 57, 58, 83, 84, 85, 86, 87, 88] (by decide +kernel) (by decide +kernel)
set_option maxRecDepth 20000 in
theorem gX4_init_X3_init_n31 : GoodIn wsX4_init (wsX3_init) := ggX4_init_X3_init
set_option maxRecDepth 20000 in
theorem ggX4_build_X4_isWithin : GoodIn wsX4_build wsX4_isWithin := goodIn_r _ [6] (by decide +kernel) (by decide +kernel)
set_option maxRecDepth 20000 in
theorem gX4_build_X4_isWithin : GoodIn wsX4_build (va_wsS RX4 36 yX4_isWithin wsX4_isWithin) := goodIn_app (goodIn_of _ (by decide +kernel)) ggX4_build_X4_isWithin
set_option maxRecDepth 20000 in
theorem ggX4_build_X0_add : GoodIn wsX4_build wsX0_add := goodIn_r _ [11, 12, 13, 14, 5, 15, 16, 17, 18, 10, 19, 20, 21, 22, 23, 24, 25, 26, 27, 28, 29, 30, 31, 32, 33, 34, 35, 36, 37, 38, 39, 40, 41, 42, 43, 44, 45, 46, 47, 48, 49, 50, 51, 52, 53, 54, 55, 91, 92, 93, 76, 77, 78, 79, 80, 81, 82, 83, 84, 85, 86, 87, 88, 89, 90, 94, 95, 96, 97, 98, 99, 100, 101] (by decide +kernel) (by decide +kernel)
set_option maxRecDepth 20000 in
theorem gX4_build_X0_add : GoodIn wsX4_build (wsV RX4 40 RX0 yX0_add wsX0_add) := goodIn_app (goodIn_of _ (by decide +kernel)) ggX4_build_X0_add
set_option maxRecDepth 20000 in
theorem ggX4_build_X2_emptyRing : GoodIn wsX4_build wsX2_emptyRing := goodIn_r _ [59, 26, 27, 31, 32, 33, 34, 38, 39, 40, 60, 61, 62, 44, 63, 49, 50, 51, 64, 5, 65, 76, 77, 78, 79, 80, 81, 82, 83, 84, 85, 86, 87, 88, 89, 90, 94, 95, 96, 97, 98, 99, 100, 101] (by decide +kernel) (by decide +kernel)
set_option maxRecDepth 20000 in
theorem gX4_build_X2_emptyRing : GoodIn wsX4_build (wsV RX4 44 RX2 yX2_emptyRing wsX2_emptyRing) := goodIn_app (goodIn_of _ (by decide +kernel)) ggX4_build_X2_emptyRing
set_option maxRecDepth 20000 in
theorem ggX4_build_X2_depth : GoodIn wsX4_build wsX2_depth := goodIn_r _ [69, 26, 76, 77, 78, 79, 80, 81, 82, 83, 84, 85, 86, 87, 88, 89, 90] (by decide +kernel) (by decide +kernel)
set_option maxRecDepth 20000 in
theorem gX4_build_X2_depth : GoodIn wsX4_build (wsV RX4 52 RX2 yX2_depth wsX2_depth) := goodIn_app (goodIn_of _ (by decide +kernel)) ggX4_build_X2_depth
set_option maxRecDepth 20000 in
theorem ggX4_setClock_X4_isSide : GoodIn wsX4_setClock wsX4_isSide := goodIn_r _ [6] (by decide +kernel) (by decide +kernel)
set_option maxRecDepth 20000 in
theorem gX4_setClock_X4_isSide : GoodIn wsX4_setClock (va_wsS RX4 56 yX4_isSide wsX4_isSide) := goodIn_app (goodIn_of _ (by decide +kernel)) ggX4_setClock_X4_isSide
set_option maxRecDepth 20000 in
theorem ggX4_setClock_X4_isWithin : GoodIn wsX4_setClock wsX4_isWithin := goodIn_r _ [9] (by decide +kernel) (by decide +kernel)
set_option maxRecDepth 20000 in
theorem gX4_setClock_X4_isWithin : GoodIn wsX4_setClock (va_wsS RX4 36 yX4_isWithin wsX4_isWithin) := goodIn_app (goodIn_of _ (by decide +kernel)) ggX4_setClock_X4_isWithin
set_option maxRecDepth 20000 in
theorem ggX4_setClock_X2_sideOf : GoodIn wsX4_setClock wsX2_sideOf := goodIn_r _ [14, 15, 16, 77, 78, 79, 80, 81, 82, 83, 84, 85, 86, 87, 88, 89, 90, 91] (by decide +kernel) (by decide +kernel)
set_option maxRecDepth 20000 in
theorem gX4_setClock_X2_sideOf : GoodIn wsX4_setClock (wsV RX4 60 RX2 yX2_sideOf wsX2_sideOf) := goodIn_app (goodIn_of _ (by decide +kernel)) ggX4_setClock_X2_sideOf
set_option maxRecDepth 20000 in
theorem ggX4_setClock_X0_add : GoodIn wsX4_setClock wsX0_add := goodIn_r _ [21, 22, 23, 24, 5, 25, 26, 27, 28, 20, 29, 30, 31, 32, 33, 13, 34, 35, 36, 37, 38, 39, 15, 16, 40, 41, 42, 43, 44, 45, 46, 47, 48, 49, 50, 51, 52, 53, 54, 55, 56, 57, 58, 59, 60, 61, 62, 92, 93, 94, 77, 78, 79, 80, 81, 82, 83, 84, 85, 86, 87, 88, 89, 90, 91, 69, 70, 71, 72, 73, 74, 75, 76] (by decide +kernel) (by decide +kernel)
set_option maxRecDepth 20000 in
theorem gX4_setClock_X0_add : GoodIn wsX4_setClock (wsV RX4 40 RX0 yX0_add wsX0_add) := goodIn_app (goodIn_of _ (by decide +kernel)) ggX4_setClock_X0_add
set_option maxRecDepth 20000 in
theorem ggX4_start_X4_isSide : GoodIn wsX4_start wsX4_isSide := goodIn_r _ [6] (by decide +kernel) (by decide +kernel)
set_option maxRecDepth 20000 in
theorem gX4_start_X4_isSide : GoodIn wsX4_start (va_wsS RX4 56 yX4_isSide wsX4_isSide) := goodIn_app (goodIn_of _ (by decide +kernel)) ggX4_start_X4_isSide
set_option maxRecDepth 20000 in
theorem ggX4_start_X2_sideOf : GoodIn wsX4_start wsX2_sideOf := goodIn_r _ [11, 12, 13, 74, 75, 76, 77, 78, 79, 80, 81, 82, 83, 84, 85, 86, 87, 88] (by decide +kernel) (by decide +kernel)
set_option maxRecDepth 20000 in
theorem gX4_start_X2_sideOf : GoodIn wsX4_start (wsV RX4 60 RX2 yX2_sideOf wsX2_sideOf) := goodIn_app (goodIn_of _ (by decide +kernel)) ggX4_start_X2_sideOf
set_option maxRecDepth 20000 in
theorem ggX4_start_X0_add : GoodIn wsX4_start wsX0_add := goodIn_r _ [18, 19, 20, 21, 5, 22, 23, 24, 25, 17, 26, 27, 28, 29, 30, 10, 31, 32, 33, 34, 35, 36, 12, 13, 37, 38, 39, 40, 41, 42, 43, 44, 45, 46, 47, 48, 49, 50, 51, 52, 53, 54, 55, 56, 57, 58, 59, 89, 90, 91, 74, 75, 76, 77, 78, 79, 80, 81, 82, 83, 84, 85, 86, 87, 88, 66, 67, 68, 69, 70, 71, 72, 73] (by decide +kernel) (by decide +kernel)
set_option maxRecDepth 20000 in
theorem gX4_start_X0_add : GoodIn wsX4_start (wsV RX4 40 RX0 yX0_add wsX0_add) := goodIn_app (goodIn_of _ (by decide +kernel)) ggX4_start_X0_add
set_option maxRecDepth 20000 in
theorem ggX4_set_X4_isWithin : GoodIn wsX4_set wsX4_isWithin := goodIn_r _ [6] (by decide +kernel) (by decide +kernel)
set_option maxRecDepth 20000 in
theorem gX4_set_X4_isWithin : GoodIn wsX4_set (va_wsS RX4 36 yX4_isWithin wsX4_isWithin) := goodIn_app (goodIn_of _ (by decide +kernel)) ggX4_set_X4_isWithin
set_option maxRecDepth 20000 in
theorem ggX4_set_X0_add : GoodIn wsX4_set wsX0_add := goodIn_r _ [11, 12, 13, 14, 5, 15, 16, 17, 18, 10, 19, 20, 21, 22, 23, 24, 25, 26, 27, 28, 29, 30, 31, 32, 33, 34, 35, 36, 37, 38, 39, 40, 41, 42, 43, 44, 45, 46, 47, 48, 49, 50, 51, 52, 53, 54, 55, 77, 78, 79, 62, 63, 64, 65, 66, 67, 68, 69, 70, 71, 72, 73, 74, 75, 76, 80, 81, 82, 83, 84, 85, 86, 87] (by decide +kernel) (by decide +kernel)
set_option maxRecDepth 20000 in
theorem gX4_set_X0_add : GoodIn wsX4_set (wsV RX4 40 RX0 yX0_add wsX0_add) := goodIn_app (goodIn_of _ (by decide +kernel)) ggX4_set_X0_add
set_option maxRecDepth 20000 in
theorem ggX4_push_X4_isWithin : GoodIn wsX4_push wsX4_isWithin := goodIn_r _ [6] (by decide +kernel) (by decide +kernel)
set_option maxRecDepth 20000 in
theorem gX4_push_X4_isWithin : GoodIn wsX4_push (va_wsS RX4 36 yX4_isWithin wsX4_isWithin) := goodIn_app (goodIn_of _ (by decide +kernel)) ggX4_push_X4_isWithin
set_option maxRecDepth 20000 in
theorem ggX4_push_X0_add : GoodIn wsX4_push wsX0_add := goodIn_r _ [11, 12, 13, 14, 5, 15, 16, 17, 18, 10, 19, 20, 21, 22, 23, 24, 25, 26, 27, 28, 29, 30, 31, 32, 33, 34, 35, 36, 37, 38, 39, 40, 41, 42, 43, 44, 45, 46, 47, 48, 49, 50, 51, 52, 53, 54, 55, 83, 84, 85, 68, 69, 70, 71, 72, 73, 74, 75, 76, 77, 78, 79, 80, 81, 82, 86, 87, 88, 89, 90, 91, 92, 93] (by decide +kernel) (by decide +kernel)
set_option maxRecDepth 20000 in
theorem gX4_push_X0_add : GoodIn wsX4_push (wsV RX4 40 RX0 yX0_add wsX0_add) := goodIn_app (goodIn_of _ (by decide +kernel)) ggX4_push_X0_add
set_option maxRecDepth 20000 in
theorem ggX4_push_X2_letWait : GoodIn wsX4_push wsX2_letWait := goodIn_r _ [59, 36, 35, 60, 5, 61, 68, 69, 70, 71, 72, 73, 74, 75, 76, 77, 78, 79, 80, 81, 82] (by decide +kernel) (by decide +kernel)
set_option maxRecDepth 20000 in
theorem gX4_push_X2_letWait : GoodIn wsX4_push (wsV RX4 85 RX2 yX2_letWait wsX2_letWait) := goodIn_app (goodIn_of _ (by decide +kernel)) ggX4_push_X2_letWait
set_option maxRecDepth 20000 in
theorem ggX4_pushAll_X3_read : GoodIn wsX4_pushAll wsX3_read := goodIn_r _ [9, 10, 11, 12, 13, 14, 15, 8, 16, 17, 18, 19, 20, 21, 22, 23, 24, 25, 26, 27, 28, 29, 30, 31, 32, 33, 34, 35, 36, 37, 38, 39, 40, 41, 42, 170, 171, 172, 173, 174, 175] (by decide +kernel) (by decide +kernel)
set_option maxRecDepth 20000 in
theorem gX4_pushAll_X3_read : GoodIn wsX4_pushAll (wsV RX4 89 RX3 yX3_read wsX3_read) := goodIn_app (goodIn_of _ (by decide +kernel)) ggX4_pushAll_X3_read
set_option maxRecDepth 20000 in
theorem ggX4_pushAll_X2_copy : GoodIn wsX4_pushAll wsX2_copy := goodIn_r _ [47, 48, 49, 50, 51, 52, 53, 54, 55, 56, 57, 58, 59, 60, 61, 62, 63, 64, 65, 66, 67, 68, 69, 70, 71, 72, 73, 74, 75, 76, 41, 77, 176, 177, 178, 179, 180, 181, 182, 183, 184, 185, 186, 187, 188, 189, 190, 191, 192, 193, 194, 195, 196, 197, 198] (by decide +kernel) (by decide +kernel)
set_option maxRecDepth 20000 in
theorem gX4_pushAll_X2_copy : GoodIn wsX4_pushAll (wsV RX4 92 RX2 yX2_copy wsX2_copy) := goodIn_app (goodIn_of _ (by decide +kernel)) ggX4_pushAll_X2_copy
set_option maxRecDepth 20000 in
theorem ggX4_pushAll_X2_follow : GoodIn wsX4_pushAll wsX2_follow := goodIn_r _ [81, 82, 41, 83, 84, 85, 86, 46, 87, 58, 57, 40, 42, 88, 89, 90, 91, 50, 92, 93, 94, 95, 96, 97, 98, 99, 100, 53, 54, 101, 102, 103, 66, 104, 70, 69, 68, 105, 106, 107, 108, 109, 110, 111, 112, 113, 114, 49, 115, 116, 117, 118, 48, 119, 120, 121, 122, 123, 124, 125, 126, 127, 128, 129, 130, 131, 132, 133, 134, 74, 75, 72, 73, 135, 136, 137, 138, 55, 56, 61, 59, 62, 139, 140, 141, 142, 143, 144, 145, 146, 60, 170, 171, 172, 173, 174, 175, 176, 177, 178, 179, 180, 181, 182, 183, 184, 185, 186, 187, 188, 189, 190, 191, 192, 193, 194, 195, 196, 197, 198] (by decide +kernel) (by decide +kernel)
set_option maxRecDepth 20000 in
theorem gX4_pushAll_X2_follow : GoodIn wsX4_pushAll (wsV RX4 95 RX2 yX2_follow wsX2_follow) := goodIn_app (goodIn_of _ (by decide +kernel)) ggX4_pushAll_X2_follow
set_option maxRecDepth 20000 in
theorem ggX4_pushAll_X0_add : GoodIn wsX4_pushAll wsX0_add := goodIn_r _ [151, 152, 153, 105, 41, 106, 154, 155, 156, 150, 157, 158, 159, 44, 45, 46, 47, 48, 49, 50, 51, 52, 53, 54, 55, 56, 57, 58, 59, 60, 61, 62, 63, 64, 65, 66, 67, 68, 69, 70, 71, 72, 73, 74, 75, 76, 77, 199, 200, 201, 176, 177, 178, 179, 180, 181, 182, 183, 184, 185, 186, 187, 188, 189, 190, 191, 192, 193, 194, 195, 196, 197, 198] (by decide +kernel) (by decide +kernel)
set_option maxRecDepth 20000 in
theorem gX4_pushAll_X0_add : GoodIn wsX4_pushAll (wsV RX4 40 RX0 yX0_add wsX0_add) := goodIn_app (goodIn_of _ (by decide +kernel)) ggX4_pushAll_X0_add
set_option maxRecDepth 20000 in
theorem ggX4_pushAll_X3_wordsInParts : GoodIn wsX4_pushAll wsX3_wordsInParts := goodIn_r _ [163, 10, 38, 39, 82, 41, 83, 170, 171, 172, 173, 174, 175] (by decide +kernel) (by decide +kernel)
set_option maxRecDepth 20000 in
theorem gX4_pushAll_X3_wordsInParts : GoodIn wsX4_pushAll (wsV RX4 99 RX3 yX3_wordsInParts wsX3_wordsInParts) := goodIn_app (goodIn_of _ (by decide +kernel)) ggX4_pushAll_X3_wordsInParts
set_option maxRecDepth 20000 in
theorem ggX4_pass_X4_isWithin : GoodIn wsX4_pass wsX4_isWithin := goodIn_r _ [6] (by decide +kernel) (by decide +kernel)
set_option maxRecDepth 20000 in
theorem gX4_pass_X4_isWithin : GoodIn wsX4_pass (va_wsS RX4 36 yX4_isWithin wsX4_isWithin) := goodIn_app (goodIn_of _ (by decide +kernel)) ggX4_pass_X4_isWithin
set_option maxRecDepth 20000 in
theorem ggX4_pass_X2_hasTimeFor : GoodIn wsX4_pass wsX2_hasTimeFor := goodIn_r _ [11, 12, 13, 123, 124, 125, 126, 127, 128, 129, 130, 131, 132, 133, 134, 135, 136, 137] (by decide +kernel) (by decide +kernel)
set_option maxRecDepth 20000 in
theorem gX4_pass_X2_hasTimeFor : GoodIn wsX4_pass (wsV RX4 102 RX2 yX2_hasTimeFor wsX2_hasTimeFor) := goodIn_app (goodIn_of _ (by decide +kernel)) ggX4_pass_X2_hasTimeFor
set_option maxRecDepth 20000 in
theorem ggX4_pass_X0_add : GoodIn wsX4_pass wsX0_add := goodIn_r _ [18, 19, 20, 21, 5, 22, 23, 24, 25, 17, 26, 27, 28, 29, 30, 10, 31, 32, 33, 12, 34, 35, 36, 37, 38, 39, 40, 41, 42, 43, 44, 45, 46, 47, 48, 49, 50, 51, 52, 53, 54, 55, 56, 57, 58, 59, 60, 138, 139, 140, 123, 124, 125, 126, 127, 128, 129, 130, 131, 132, 133, 134, 135, 136, 137, 141, 142, 143, 144, 145, 146, 147, 148] (by decide +kernel) (by decide +kernel)
set_option maxRecDepth 20000 in
theorem gX4_pass_X0_add : GoodIn wsX4_pass (wsV RX4 40 RX0 yX0_add wsX0_add) := goodIn_app (goodIn_of _ (by decide +kernel)) ggX4_pass_X0_add
set_option maxRecDepth 20000 in
theorem ggX4_pass_X2_letPass : GoodIn wsX4_pass wsX2_letPass := goodIn_r _ [64, 65, 66, 67, 10, 68, 12, 36, 37, 41, 69, 70, 71, 49, 72, 53, 52, 51, 21, 5, 22, 73, 74, 75, 76, 77, 78, 79, 80, 33, 81, 82, 83, 84, 32, 85, 86, 87, 88, 89, 90, 91, 92, 93, 94, 95, 96, 97, 98, 99, 100, 57, 58, 55, 56, 101, 102, 103, 104, 38, 39, 44, 42, 45, 105, 106, 107, 108, 109, 110, 111, 112, 113, 114, 115, 116, 40, 43, 123, 124, 125, 126, 127, 128, 129, 130, 131, 132, 133, 134, 135, 136, 137, 141, 142, 143, 144, 145, 146, 147, 148] (by decide +kernel) (by decide +kernel)
set_option maxRecDepth 20000 in
theorem gX4_pass_X2_letPass : GoodIn wsX4_pass (wsV RX4 108 RX2 yX2_letPass wsX2_letPass) := goodIn_app (goodIn_of _ (by decide +kernel)) ggX4_pass_X2_letPass
set_option maxRecDepth 20000 in
theorem ggX4_type_X3_append : GoodIn wsX4_type wsX3_append := goodIn_r _ [6, 7, 8, 15, 16, 17, 18, 19, 20] (by decide +kernel) (by decide +kernel)
set_option maxRecDepth 20000 in
theorem gX4_type_X3_append : GoodIn wsX4_type (wsV RX4 112 RX3 yX3_append wsX3_append) := goodIn_app (goodIn_of _ (by decide +kernel)) ggX4_type_X3_append
set_option maxRecDepth 20000 in
theorem ggX4_side_X4_isSide : GoodIn wsX4_side wsX4_isSide := goodIn_r _ [5] (by decide +kernel) (by decide +kernel)
set_option maxRecDepth 20000 in
theorem gX4_side_X4_isSide : GoodIn wsX4_side (va_wsS RX4 56 yX4_isSide wsX4_isSide) := goodIn_app (goodIn_of _ (by decide +kernel)) ggX4_side_X4_isSide
set_option maxRecDepth 20000 in
theorem ggX4_side_X2_sideOf : GoodIn wsX4_side wsX2_sideOf := goodIn_r _ [10, 11, 12, 87, 88, 89, 90, 91, 92, 93, 94, 95, 96, 97, 98, 99, 100, 101] (by decide +kernel) (by decide +kernel)
set_option maxRecDepth 20000 in
theorem gX4_side_X2_sideOf : GoodIn wsX4_side (wsV RX4 60 RX2 yX2_sideOf wsX2_sideOf) := goodIn_app (goodIn_of _ (by decide +kernel)) ggX4_side_X2_sideOf
set_option maxRecDepth 20000 in
theorem ggX4_side_X4_asNumber : GoodIn wsX4_side wsX4_asNumber := goodIn_r _ [15] (by decide +kernel) (by decide +kernel)
set_option maxRecDepth 20000 in
theorem gX4_side_X4_asNumber : GoodIn wsX4_side (va_wsS RX4 129 yX4_asNumber wsX4_asNumber) := goodIn_app (goodIn_of _ (by decide +kernel)) ggX4_side_X4_asNumber
set_option maxRecDepth 20000 in
theorem ggX4_side_X2_codeOf : GoodIn wsX4_side wsX2_codeOf := goodIn_r _ [19, 20, 87, 88, 89, 90, 91, 92, 93, 94, 95, 96, 97, 98, 99, 100, 101] (by decide +kernel) (by decide +kernel)
set_option maxRecDepth 20000 in
theorem gX4_side_X2_codeOf : GoodIn wsX4_side (wsV RX4 136 RX2 yX2_codeOf wsX2_codeOf) := goodIn_app (goodIn_of _ (by decide +kernel)) ggX4_side_X2_codeOf
set_option maxRecDepth 20000 in
theorem ggX4_side_X2_pointerOf : GoodIn wsX4_side wsX2_pointerOf := goodIn_r _ [24, 20, 87, 88, 89, 90, 91, 92, 93, 94, 95, 96, 97, 98, 99, 100, 101] (by decide +kernel) (by decide +kernel)
set_option maxRecDepth 20000 in
theorem gX4_side_X2_pointerOf : GoodIn wsX4_side (wsV RX4 146 RX2 yX2_pointerOf wsX2_pointerOf) := goodIn_app (goodIn_of _ (by decide +kernel)) ggX4_side_X2_pointerOf
set_option maxRecDepth 20000 in
theorem ggX4_side_X2_fillToWriter : GoodIn wsX4_side wsX2_fillToWriter := goodIn_r _ [28, 11, 29, 22, 23, 9, 24, 20, 30, 31, 32, 33, 34, 35, 36, 37, 38, 87, 88, 89, 90, 91, 92, 93, 94, 95, 96, 97, 98, 99, 100, 101, 79, 80, 81, 82, 83, 84, 85, 86] (by decide +kernel) (by decide +kernel)
set_option maxRecDepth 20000 in
theorem gX4_side_X2_fillToWriter : GoodIn wsX4_side (wsV RX4 149 RX2 yX2_fillToWriter wsX2_fillToWriter) := goodIn_app (goodIn_of _ (by decide +kernel)) ggX4_side_X2_fillToWriter
set_option maxRecDepth 20000 in
theorem ggX4_side_X2_fillToReader : GoodIn wsX4_side wsX2_fillToReader := goodIn_r _ [42, 12, 29, 22, 23, 9, 24, 20, 30, 31, 32, 33, 34, 35, 36, 37, 38, 87, 88, 89, 90, 91, 92, 93, 94, 95, 96, 97, 98, 99, 100, 101, 79, 80, 81, 82, 83, 84, 85, 86] (by decide +kernel) (by decide +kernel)
set_option maxRecDepth 20000 in
theorem gX4_side_X2_fillToReader : GoodIn wsX4_side (wsV RX4 152 RX2 yX2_fillToReader wsX2_fillToReader) := goodIn_app (goodIn_of _ (by decide +kernel)) ggX4_side_X2_fillToReader
set_option maxRecDepth 20000 in
theorem ggX4_side_X2_seemsFull : GoodIn wsX4_side wsX2_seemsFull := goodIn_r _ [46, 11, 29, 22, 23, 9, 24, 20, 34, 35, 36, 37, 38, 30, 31, 32, 33, 87, 88, 89, 90, 91, 92, 93, 94, 95, 96, 97, 98, 99, 100, 101, 79, 80, 81, 82, 83, 84, 85, 86] (by decide +kernel) (by decide +kernel)
set_option maxRecDepth 20000 in
theorem gX4_side_X2_seemsFull : GoodIn wsX4_side (wsV RX4 155 RX2 yX2_seemsFull wsX2_seemsFull) := goodIn_app (goodIn_of _ (by decide +kernel)) ggX4_side_X2_seemsFull
set_option maxRecDepth 20000 in
theorem ggX4_side_X2_seemsEmpty : GoodIn wsX4_side wsX2_seemsEmpty := goodIn_r _ [50, 12, 29, 22, 23, 9, 24, 20, 87, 88, 89, 90, 91, 92, 93, 94, 95, 96, 97, 98, 99, 100, 101, 79, 80, 81, 82, 83, 84, 85, 86] (by decide +kernel) (by decide +kernel)
set_option maxRecDepth 20000 in
theorem gX4_side_X2_seemsEmpty : GoodIn wsX4_side (wsV RX4 159 RX2 yX2_seemsEmpty wsX2_seemsEmpty) := goodIn_app (goodIn_of _ (by decide +kernel)) ggX4_side_X2_seemsEmpty
set_option maxRecDepth 20000 in
theorem ggX4_side_X2_seemsNearFull : GoodIn wsX4_side wsX2_seemsNearFull := goodIn_r _ [54, 55, 56, 26, 27, 9, 28, 11, 29, 22, 23, 24, 20, 30, 31, 32, 33, 34, 35, 36, 37, 38, 87, 88, 89, 90, 91, 92, 93, 94, 95, 96, 97, 98, 99, 100, 101, 79, 80, 81, 82, 83, 84, 85, 86] (by decide +kernel) (by decide +kernel)
set_option maxRecDepth 20000 in
theorem gX4_side_X2_seemsNearFull : GoodIn wsX4_side (wsV RX4 162 RX2 yX2_seemsNearFull wsX2_seemsNearFull) := goodIn_app (goodIn_of _ (by decide +kernel)) ggX4_side_X2_seemsNearFull
set_option maxRecDepth 20000 in
theorem ggX4_side_X2_seemsNearEmpty : GoodIn wsX4_side wsX2_seemsNearEmpty := goodIn_r _ [60, 61, 62, 40, 41, 9, 42, 12, 29, 22, 23, 24, 20, 30, 31, 32, 33, 34, 35, 36, 37, 38, 87, 88, 89, 90, 91, 92, 93, 94, 95, 96, 97, 98, 99, 100, 101, 79, 80, 81, 82, 83, 84, 85, 86] (by decide +kernel) (by decide +kernel)
set_option maxRecDepth 20000 in
theorem gX4_side_X2_seemsNearEmpty : GoodIn wsX4_side (wsV RX4 165 RX2 yX2_seemsNearEmpty wsX2_seemsNearEmpty) := goodIn_app (goodIn_of _ (by decide +kernel)) ggX4_side_X2_seemsNearEmpty
set_option maxRecDepth 20000 in
theorem ggX4_side_X1_timesToTick : GoodIn wsX4_side wsX1_timesToTick := goodIn_r _ [67, 68, 69, 70, 71, 4, 72, 79, 80, 81, 82, 83, 84, 85, 86] (by decide +kernel) (by decide +kernel)
set_option maxRecDepth 20000 in
theorem gX4_side_X1_timesToTick : GoodIn wsX4_side (wsV RX4 168 RX1 yX1_timesToTick wsX1_timesToTick) := goodIn_app (goodIn_of _ (by decide +kernel)) ggX4_side_X1_timesToTick
set_option maxRecDepth 20000 in
theorem ggX4_place_X2_depth : GoodIn wsX4_place wsX2_depth := goodIn_r _ [6, 7, 21, 22, 23, 24, 25, 26, 27, 28, 29, 30, 31, 32, 33, 34, 35] (by decide +kernel) (by decide +kernel)
set_option maxRecDepth 20000 in
theorem gX4_place_X2_depth : GoodIn wsX4_place (wsV RX4 52 RX2 yX2_depth wsX2_depth) := goodIn_app (goodIn_of _ (by decide +kernel)) ggX4_place_X2_depth
set_option maxRecDepth 20000 in
theorem ggX4_place_X4_isWithin : GoodIn wsX4_place wsX4_isWithin := goodIn_r _ [11] (by decide +kernel) (by decide +kernel)
set_option maxRecDepth 20000 in
theorem gX4_place_X4_isWithin : GoodIn wsX4_place (va_wsS RX4 36 yX4_isWithin wsX4_isWithin) := goodIn_app (goodIn_of _ (by decide +kernel)) ggX4_place_X4_isWithin
set_option maxRecDepth 20000 in
theorem ggX4_place_X4_valueAt : GoodIn wsX4_place wsX4_valueAt := goodIn_r _ [14] (by decide +kernel) (by decide +kernel)
set_option maxRecDepth 20000 in
theorem gX4_place_X4_valueAt : GoodIn wsX4_place (va_wsS RX4 181 yX4_valueAt wsX4_valueAt) := goodIn_app (goodIn_of _ (by decide +kernel)) ggX4_place_X4_valueAt
set_option maxRecDepth 20000 in
theorem ggX4_waiting_X4_valueAt : GoodIn wsX4_waiting wsX4_valueAt := goodIn_r _ [5] (by decide +kernel) (by decide +kernel)
set_option maxRecDepth 20000 in
theorem gX4_waiting_X4_valueAt : GoodIn wsX4_waiting (va_wsS RX4 181 yX4_valueAt wsX4_valueAt) := goodIn_app (goodIn_of _ (by decide +kernel)) ggX4_waiting_X4_valueAt
set_option maxRecDepth 20000 in
theorem ggX4_taken_X2_latestCame : GoodIn wsX4_taken wsX2_latestCame := goodIn_r _ [6, 7, 8, 9, 10, 11, 18, 19, 20, 21, 22, 23, 24, 25, 26, 27, 28, 29, 30, 31, 32] (by decide +kernel) (by decide +kernel)
set_option maxRecDepth 20000 in
theorem gX4_taken_X2_latestCame : GoodIn wsX4_taken (wsV RX4 191 RX2 yX2_latestCame wsX2_latestCame) := goodIn_app (goodIn_of _ (by decide +kernel)) ggX4_taken_X2_latestCame
set_option maxRecDepth 20000 in
theorem ggX4_doneIn_X2_copy : GoodIn wsX4_doneIn wsX2_copy := goodIn_r _ [7, 8, 9, 10, 11, 12, 13, 14, 15, 16, 17, 18, 19, 20, 21, 22, 23, 24, 25, 26, 27, 28, 29, 30, 31, 32, 33, 34, 35, 36, 37, 38, 103, 104, 105, 106, 107, 108, 109, 110, 111, 112, 113, 114, 115, 116, 117, 118, 119, 120, 121, 122, 123, 124, 125] (by decide +kernel) (by decide +kernel)
set_option maxRecDepth 20000 in
theorem gX4_doneIn_X2_copy : GoodIn wsX4_doneIn (wsV RX4 92 RX2 yX2_copy wsX2_copy) := goodIn_app (goodIn_of _ (by decide +kernel)) ggX4_doneIn_X2_copy
set_option maxRecDepth 20000 in
theorem ggX4_doneIn_X2_isDone : GoodIn wsX4_doneIn wsX2_isDone := goodIn_r _ [42, 18, 21, 20, 103, 104, 105, 106, 107, 108, 109, 110, 111, 112, 113, 114, 115, 116, 117] (by decide +kernel) (by decide +kernel)
set_option maxRecDepth 20000 in
theorem gX4_doneIn_X2_isDone : GoodIn wsX4_doneIn (wsV RX4 194 RX2 yX2_isDone wsX2_isDone) := goodIn_app (goodIn_of _ (by decide +kernel)) ggX4_doneIn_X2_isDone
set_option maxRecDepth 20000 in
theorem ggX4_doneIn_X2_step : GoodIn wsX4_doneIn wsX2_step := goodIn_r _ [46, 10, 13, 14, 18, 47, 48, 49, 26, 50, 30, 29, 28, 51, 37, 52, 53, 54, 55, 6, 56, 57, 58, 59, 60, 9, 61, 62, 63, 64, 8, 65, 66, 67, 68, 69, 70, 71, 72, 73, 74, 75, 76, 77, 78, 79, 80, 34, 35, 32, 33, 81, 82, 83, 84, 15, 16, 21, 19, 22, 85, 86, 87, 88, 89, 90, 91, 92, 93, 94, 95, 96, 17, 20, 103, 104, 105, 106, 107, 108, 109, 110, 111, 112, 113, 114, 115, 116, 117, 118, 119, 120, 121, 122, 123, 124, 125] (by decide +kernel) (by decide +kernel)
set_option maxRecDepth 20000 in
theorem gX4_doneIn_X2_step : GoodIn wsX4_doneIn (wsV RX4 197 RX2 yX2_step wsX2_step) := goodIn_app (goodIn_of _ (by decide +kernel)) ggX4_doneIn_X2_step
set_option maxRecDepth 20000 in
theorem ggX4_leastDepth_X4_isWithin : GoodIn wsX4_leastDepth wsX4_isWithin := goodIn_r _ [6] (by decide +kernel) (by decide +kernel)
set_option maxRecDepth 20000 in
theorem gX4_leastDepth_X4_isWithin : GoodIn wsX4_leastDepth (va_wsS RX4 36 yX4_isWithin wsX4_isWithin) := goodIn_app (goodIn_of _ (by decide +kernel)) ggX4_leastDepth_X4_isWithin
set_option maxRecDepth 20000 in
theorem ggX4_leastDepth_X2_copy : GoodIn wsX4_leastDepth wsX2_copy := goodIn_r _ [11, 12, 13, 14, 15, 16, 17, 18, 19, 20, 21, 22, 23, 24, 25, 26, 27, 28, 29, 30, 31, 32, 33, 34, 35, 36, 37, 38, 39, 40, 5, 41, 116, 117, 118, 119, 120, 121, 122, 123, 124, 125, 126, 127, 128, 129, 130, 131, 132, 133, 134, 135, 136, 137, 138] (by decide +kernel) (by decide +kernel)
set_option maxRecDepth 20000 in
theorem gX4_leastDepth_X2_copy : GoodIn wsX4_leastDepth (wsV RX4 92 RX2 yX2_copy wsX2_copy) := goodIn_app (goodIn_of _ (by decide +kernel)) ggX4_leastDepth_X2_copy
set_option maxRecDepth 20000 in
theorem ggX4_leastDepth_X2_emptyRing : GoodIn wsX4_leastDepth wsX2_emptyRing := goodIn_r _ [45, 12, 13, 17, 18, 19, 20, 24, 25, 26, 46, 47, 48, 30, 49, 35, 36, 37, 50, 5, 51, 116, 117, 118, 119, 120, 121, 122, 123, 124, 125, 126, 127, 128, 129, 130, 131, 132, 133, 134, 135, 136, 137, 138] (by decide +kernel) (by decide +kernel)
set_option maxRecDepth 20000 in
theorem gX4_leastDepth_X2_emptyRing : GoodIn wsX4_leastDepth (wsV RX4 44 RX2 yX2_emptyRing wsX2_emptyRing) := goodIn_app (goodIn_of _ (by decide +kernel)) ggX4_leastDepth_X2_emptyRing
set_option maxRecDepth 20000 in
theorem ggX4_leastDepth_X2_stallsWithin : GoodIn wsX4_leastDepth wsX2_stallsWithin := goodIn_r _ [55, 17, 14, 22, 56, 57, 58, 30, 59, 34, 33, 32, 60, 5, 61, 62, 63, 64, 10, 65, 66, 67, 68, 69, 13, 70, 71, 72, 73, 12, 74, 75, 76, 77, 78, 79, 80, 81, 18, 82, 83, 84, 85, 86, 87, 88, 89, 90, 91, 92, 93, 38, 39, 36, 37, 94, 95, 96, 97, 19, 20, 25, 23, 26, 98, 99, 100, 101, 102, 103, 104, 105, 106, 107, 108, 109, 21, 24, 116, 117, 118, 119, 120, 121, 122, 123, 124, 125, 126, 127, 128, 129, 130, 131, 132, 133, 134, 135, 136, 137, 138] (by decide +kernel) (by decide +kernel)
set_option maxRecDepth 20000 in
theorem gX4_leastDepth_X2_stallsWithin : GoodIn wsX4_leastDepth (wsV RX4 203 RX2 yX2_stallsWithin wsX2_stallsWithin) := goodIn_app (goodIn_of _ (by decide +kernel)) ggX4_leastDepth_X2_stallsWithin
set_option maxRecDepth 20000 in
theorem ggX4_count_X2_depth : GoodIn wsX4_count wsX2_depth := goodIn_r _ [8, 9, 25, 26, 27, 28, 29, 30, 31, 32, 33, 34, 35, 36, 37, 38, 39] (by decide +kernel) (by decide +kernel)
set_option maxRecDepth 20000 in
theorem gX4_count_X2_depth : GoodIn wsX4_count (wsV RX4 52 RX2 yX2_depth wsX2_depth) := goodIn_app (goodIn_of _ (by decide +kernel)) ggX4_count_X2_depth
set_option maxRecDepth 20000 in
theorem ggX4_count_X4_asNumber : GoodIn wsX4_count wsX4_asNumber := goodIn_r _ [13] (by decide +kernel) (by decide +kernel)
set_option maxRecDepth 20000 in
theorem gX4_count_X4_asNumber : GoodIn wsX4_count (va_wsS RX4 129 yX4_asNumber wsX4_asNumber) := goodIn_app (goodIn_of _ (by decide +kernel)) ggX4_count_X4_asNumber
set_option maxRecDepth 20000 in
theorem ggX4_count_X2_around : GoodIn wsX4_count wsX2_around := goodIn_r _ [17, 18, 5, 6, 7, 8, 9, 25, 26, 27, 28, 29, 30, 31, 32, 33, 34, 35, 36, 37, 38, 39] (by decide +kernel) (by decide +kernel)
set_option maxRecDepth 20000 in
theorem gX4_count_X2_around : GoodIn wsX4_count (wsV RX4 216 RX2 yX2_around wsX2_around) := goodIn_app (goodIn_of _ (by decide +kernel)) ggX4_count_X2_around

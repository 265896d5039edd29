set_option maxRecDepth 20000 in
theorem ggX0_init_X9_init : GoodIn wsX0_init wsX9_init := goodIn_r _ [14, 15, 2, 3, 6, 16, 17, 27, 28] (by decide +kernel) (by decide +kernel)
set_option maxRecDepth 20000 in
theorem gX0_init_X9_init : GoodIn wsX0_init (wsX9_init) := ggX0_init_X9_init
set_option maxRecDepth 20000 in
theorem ggX0_assign_X5_cellAt : GoodIn wsX0_assign wsX5_cellAt := goodIn_r _ [17, 18, 19, 20, 21, 16, 22, 23, 110, 111] (by decide +kernel) (by decide +kernel)
set_option maxRecDepth 20000 in
theorem gX0_assign_X5_cellAt : GoodIn wsX0_assign (wsV RX0 56 RX5 yX5_cellAt wsX5_cellAt) := goodIn_app (goodIn_of _ (by decide +kernel)) ggX0_assign_X5_cellAt
set_option maxRecDepth 20000 in
theorem ggX0_assign_X9_measure : GoodIn wsX0_assign wsX9_measure := goodIn_r _ [28, 29, 30, 31, 32, 33, 34, 7, 35, 36, 37, 38, 39, 40, 41, 42, 43, 44, 45, 27, 46, 47, 48, 49, 50, 51, 52, 53, 54, 55, 56, 57, 58, 59, 60, 61, 112, 113, 114, 115, 105, 106, 107, 108, 109] (by decide +kernel) (by decide +kernel)
set_option maxRecDepth 20000 in
theorem gX0_assign_X9_measure : GoodIn wsX0_assign (wsV RX0 60 RX9 yX9_measure wsX9_measure) := goodIn_app (goodIn_of _ (by decide +kernel)) ggX0_assign_X9_measure
set_option maxRecDepth 20000 in
theorem ggX0_assign_X0_weigh : GoodIn wsX0_assign wsX0_weigh := goodIn_r _ [66, 9, 12, 67, 34, 7, 35, 10, 68, 69, 70, 71, 72, 73, 65, 74, 11, 1, 2, 13, 14, 15, 16, 17, 18, 19, 20, 21, 22, 23, 75, 76, 77, 27, 78, 29, 40, 41, 42, 79, 80, 81, 82, 83, 84, 85, 86, 87, 96, 97, 98, 99, 100, 101, 102, 103, 104, 105, 106, 107, 108, 109, 110, 111, 112, 113] (by decide +kernel) (by decide +kernel)
set_option maxRecDepth 20000 in
theorem gX0_assign_X0_weigh : GoodIn wsX0_assign (wsV RX0 64 RX0 yX0_weigh wsX0_weigh) := goodIn_app (goodIn_of _ (by decide +kernel)) ggX0_assign_X0_weigh
set_option maxRecDepth 20000 in
theorem ggX0_assign_X0_nextTrial : GoodIn wsX0_assign wsX0_nextTrial := goodIn_r _ [91, 9, 5, 6, 7, 8, 12, 92, 93, 94, 65, 95, 96, 97, 98, 99, 100, 101, 102, 103, 104] (by decide +kernel) (by decide +kernel)
set_option maxRecDepth 20000 in
theorem gX0_assign_X0_nextTrial : GoodIn wsX0_assign (wsV RX0 67 RX0 yX0_nextTrial wsX0_nextTrial) := goodIn_app (goodIn_of _ (by decide +kernel)) ggX0_assign_X0_nextTrial
set_option maxRecDepth 20000 in
theorem ggX0_timeOf_X0_slotOf : GoodIn wsX0_timeOf wsX0_slotOf := goodIn_r _ [5, 6, 34, 35, 36, 37, 38, 39, 40, 41, 42] (by decide +kernel) (by decide +kernel)
set_option maxRecDepth 20000 in
theorem gX0_timeOf_X0_slotOf : GoodIn wsX0_timeOf (wsV RX0 71 RX0 yX0_slotOf wsX0_slotOf) := goodIn_app (goodIn_of _ (by decide +kernel)) ggX0_timeOf_X0_slotOf
set_option maxRecDepth 20000 in
theorem ggX0_timeOf_X0_time : GoodIn wsX0_timeOf wsX0_time := goodIn_r _ [10, 11, 12, 13, 14, 15, 16, 17, 18, 19, 20, 21, 22, 23, 24, 25, 26, 27, 28, 29, 30, 31, 32, 33, 34, 35, 36, 37, 38, 39, 40, 41, 42, 43, 44, 45, 46, 47, 48, 49, 50, 51] (by decide +kernel) (by decide +kernel)
set_option maxRecDepth 20000 in
theorem gX0_timeOf_X0_time : GoodIn wsX0_timeOf (wsV RX0 74 RX0 yX0_time wsX0_time) := goodIn_app (goodIn_of _ (by decide +kernel)) ggX0_timeOf_X0_time
set_option maxRecDepth 20000 in
theorem ggX0_time_X5_cellAt : GoodIn wsX0_time wsX5_cellAt := goodIn_r _ [8, 9, 10, 11, 12, 7, 13, 14, 38, 39] (by decide +kernel) (by decide +kernel)
set_option maxRecDepth 20000 in
theorem gX0_time_X5_cellAt : GoodIn wsX0_time (wsV RX0 56 RX5 yX5_cellAt wsX5_cellAt) := goodIn_app (goodIn_of _ (by decide +kernel)) ggX0_time_X5_cellAt
set_option maxRecDepth 20000 in
theorem ggX0_time_X9_timeFrom : GoodIn wsX0_time wsX9_timeFrom := goodIn_r _ [19, 20, 21, 22, 23, 40, 41] (by decide +kernel) (by decide +kernel)
set_option maxRecDepth 20000 in
theorem gX0_time_X9_timeFrom : GoodIn wsX0_time (wsV RX0 77 RX9 yX9_timeFrom wsX9_timeFrom) := goodIn_app (goodIn_of _ (by decide +kernel)) ggX0_time_X9_timeFrom
set_option maxRecDepth 20000 in
theorem ggX0_weigh_X0_time : GoodIn wsX0_weigh wsX0_time := goodIn_r _ [15, 16, 17, 18, 19, 20, 21, 22, 23, 24, 25, 26, 27, 28, 29, 30, 31, 32, 33, 34, 35, 36, 37, 38, 48, 49, 50, 51, 52, 53, 54, 55, 56, 57, 58, 59, 60, 61, 62, 63, 64, 65] (by decide +kernel) (by decide +kernel)
set_option maxRecDepth 20000 in
theorem gX0_weigh_X0_time : GoodIn wsX0_weigh (wsV RX0 74 RX0 yX0_time wsX0_time) := goodIn_app (goodIn_of _ (by decide +kernel)) ggX0_weigh_X0_time
set_option maxRecDepth 20000 in
theorem ggX0_weigh_X0_take : GoodIn wsX0_weigh wsX0_take := goodIn_r _ [42, 8, 10, 2, 43, 44, 45, 46, 47, 48, 49, 50, 51, 52, 53, 54, 55, 56] (by decide +kernel) (by decide +kernel)
set_option maxRecDepth 20000 in
theorem gX0_weigh_X0_take : GoodIn wsX0_weigh (wsV RX0 89 RX0 yX0_take wsX0_take) := goodIn_app (goodIn_of _ (by decide +kernel)) ggX0_weigh_X0_take
set_option maxRecDepth 20000 in
theorem ggX0_nextTrial_X0_swap : GoodIn wsX0_nextTrial wsX0_swap := goodIn_r _ [11, 6, 12, 13, 14, 15, 16, 17, 18, 19, 20] (by decide +kernel) (by decide +kernel)
set_option maxRecDepth 20000 in
theorem gX0_nextTrial_X0_swap : GoodIn wsX0_nextTrial (wsV RX0 102 RX0 yX0_swap wsX0_swap) := goodIn_app (goodIn_of _ (by decide +kernel)) ggX0_nextTrial_X0_swap
set_option maxRecDepth 20000 in
theorem ggX1_begin_J7_fill_53178 : GoodIn wsX1_begin wsJ7_fill_53178 := goodIn_r _ [7] (by decide +kernel) (by decide +kernel)
set_option maxRecDepth 20000 in
theorem gX1_begin_J7_fill_53178 : GoodIn wsX1_begin (va_wsS RX1 22 yJ7_fill_53178 wsJ7_fill_53178) := goodIn_app (goodIn_of _ (by decide +kernel)) ggX1_begin_J7_fill_53178
set_option maxRecDepth 20000 in
theorem ggX1_meets_X1_cellAt : GoodIn wsX1_meets wsX1_cellAt := goodIn_r _ [5, 6, 7, 8, 9, 10, 11, 12, 13, 14, 15, 16, 17, 18] (by decide +kernel) (by decide +kernel)
set_option maxRecDepth 20000 in
theorem gX1_meets_X1_cellAt : GoodIn wsX1_meets (wsV RX1 37 RX1 yX1_cellAt wsX1_cellAt) := goodIn_app (goodIn_of _ (by decide +kernel)) ggX1_meets_X1_cellAt
set_option maxRecDepth 20000 in
theorem ggX2_init_X5_init : GoodIn wsX2_init wsX5_init := goodIn_r _ [11, 12, 2, 3, 4, 13, 19, 20] (by decide +kernel) (by decide +kernel)
set_option maxRecDepth 20000 in
theorem gX2_init_X5_init_n17 : GoodIn wsX2_init (wsX5_init) := ggX2_init_X5_init
set_option maxRecDepth 20000 in
theorem ggX2_read_X5_clear : GoodIn wsX2_read wsX5_clear := goodIn_r _ [9, 10, 43, 44] (by decide +kernel) (by decide +kernel)
set_option maxRecDepth 20000 in
theorem gX2_read_X5_clear : GoodIn wsX2_read (wsV RX2 33 RX5 yX5_clear wsX5_clear) := goodIn_app (goodIn_of _ (by decide +kernel)) ggX2_read_X5_clear
set_option maxRecDepth 20000 in
theorem ggX2_read_X2_readPositions : GoodIn wsX2_read wsX2_readPositions := goodIn_r _ [15, 1, 4, 16, 17, 18, 14, 19, 20, 21, 22, 23, 24, 25, 26, 27, 28, 3, 2, 29, 30, 31, 8, 32, 10, 33, 34, 35, 36, 37, 38, 39, 40, 41, 42, 43, 44] (by decide +kernel) (by decide +kernel)
set_option maxRecDepth 20000 in
theorem gX2_read_X2_readPositions : GoodIn wsX2_read (wsV RX2 36 RX2 yX2_readPositions wsX2_readPositions) := goodIn_app (goodIn_of _ (by decide +kernel)) ggX2_read_X2_readPositions
set_option maxRecDepth 20000 in
theorem ggX2_readPositions_X2_readPosition : GoodIn wsX2_readPositions wsX2_readPosition := goodIn_r _ [7, 1, 8, 9, 10, 6, 11, 2, 12, 13, 14, 15, 16, 17, 18, 19, 20, 21, 22, 23, 24, 25, 26, 27, 28, 29, 30, 31, 32, 33, 34, 35, 36] (by decide +kernel) (by decide +kernel)
set_option maxRecDepth 20000 in
theorem gX2_readPositions_X2_readPosition : GoodIn wsX2_readPositions (wsV RX2 40 RX2 yX2_readPosition wsX2_readPosition) := goodIn_app (goodIn_of _ (by decide +kernel)) ggX2_readPositions_X2_readPosition
set_option maxRecDepth 20000 in
theorem ggX2_readPositions_X2_signHere : GoodIn wsX2_readPositions wsX2_signHere := goodIn_r _ [11, 1, 2, 12, 30, 31, 32, 33, 34] (by decide +kernel) (by decide +kernel)
set_option maxRecDepth 20000 in
theorem gX2_readPositions_X2_signHere : GoodIn wsX2_readPositions (wsV RX2 44 RX2 yX2_signHere wsX2_signHere) := goodIn_app (goodIn_of _ (by decide +kernel)) ggX2_readPositions_X2_signHere
set_option maxRecDepth 20000 in
theorem ggX2_readPosition_X2_signHere : GoodIn wsX2_readPosition wsX2_signHere := goodIn_r _ [6, 1, 7, 8, 26, 27, 28, 29, 30] (by decide +kernel) (by decide +kernel)
set_option maxRecDepth 20000 in
theorem gX2_readPosition_X2_signHere : GoodIn wsX2_readPosition (wsV RX2 44 RX2 yX2_signHere wsX2_signHere) := goodIn_app (goodIn_of _ (by decide +kernel)) ggX2_readPosition_X2_signHere
set_option maxRecDepth 20000 in
theorem ggX2_readPosition_X2_note : GoodIn wsX2_readPosition wsX2_note := goodIn_r _ [12, 13, 14, 15, 16, 17, 18, 19, 20, 21, 22, 23, 24, 25, 26, 27, 28, 29, 30, 31, 32] (by decide +kernel) (by decide +kernel)
set_option maxRecDepth 20000 in
theorem gX2_readPosition_X2_note : GoodIn wsX2_readPosition (wsV RX2 47 RX2 yX2_note wsX2_note) := goodIn_app (goodIn_of _ (by decide +kernel)) ggX2_readPosition_X2_note
set_option maxRecDepth 20000 in
theorem ggX2_note_X5_find : GoodIn wsX2_note wsX5_find := goodIn_r _ [7, 8, 9, 19, 20] (by decide +kernel) (by decide +kernel)
set_option maxRecDepth 20000 in
theorem gX2_note_X5_find : GoodIn wsX2_note (wsV RX2 51 RX5 yX5_find wsX5_find) := goodIn_app (goodIn_of _ (by decide +kernel)) ggX2_note_X5_find
set_option maxRecDepth 20000 in
theorem ggX2_note_X5_add : GoodIn wsX2_note wsX5_add := goodIn_r _ [13, 8, 9, 19, 20] (by decide +kernel) (by decide +kernel)
set_option maxRecDepth 20000 in
theorem gX2_note_X5_add : GoodIn wsX2_note (wsV RX2 55 RX5 yX5_add wsX5_add) := goodIn_app (goodIn_of _ (by decide +kernel)) ggX2_note_X5_add
set_option maxRecDepth 20000 in
theorem ggX3_init_X8_init : GoodIn wsX3_init wsX8_init := goodIn_r _ [9, 10, 2, 3, 11, 12, 13, 14, 15, 16, 17, 18, 19, 20, 21, 22, 26, 27, 28, 29, 30, 31, 32] (by decide +kernel) (by decide +kernel)
set_option maxRecDepth 20000 in
theorem gX3_init_X8_init_n17 : GoodIn wsX3_init (wsX8_init) := ggX3_init_X8_init
set_option maxRecDepth 20000 in
theorem ggX3_keep_J9_floorMod_7cf53 : GoodIn wsX3_keep wsJ9_floorMod_7cf53 := goodIn_r _ [11] (by decide +kernel) (by decide +kernel)
set_option maxRecDepth 20000 in
theorem gX3_keep_J9_floorMod_7cf53 : GoodIn wsX3_keep (va_wsS RX3 22 yJ9_floorMod_7cf53 wsJ9_floorMod_7cf53) := goodIn_app (goodIn_of _ (by decide +kernel)) ggX3_keep_J9_floorMod_7cf53
set_option maxRecDepth 20000 in
theorem ggX3_keep_X8_copyFrom : GoodIn wsX3_keep wsX8_copyFrom := goodIn_r _ [16, 17, 18, 19, 20, 21, 22, 23, 24, 25, 26, 27, 28, 29, 30, 31, 32, 33, 37, 38, 39, 40, 41, 42, 43] (by decide +kernel) (by decide +kernel)
set_option maxRecDepth 20000 in
theorem gX3_keep_X8_copyFrom : GoodIn wsX3_keep (wsV RX3 28 RX8 yX8_copyFrom wsX8_copyFrom) := goodIn_app (goodIn_of _ (by decide +kernel)) ggX3_keep_X8_copyFrom
set_option maxRecDepth 20000 in
theorem ggX3_bringBack_J9_floorMod_7cf53 : GoodIn wsX3_bringBack wsJ9_floorMod_7cf53 := goodIn_r _ [7] (by decide +kernel) (by decide +kernel)
set_option maxRecDepth 20000 in
theorem gX3_bringBack_J9_floorMod_7cf53 : GoodIn wsX3_bringBack (va_wsS RX3 22 yJ9_floorMod_7cf53 wsJ9_floorMod_7cf53) := goodIn_app (goodIn_of _ (by decide +kernel)) ggX3_bringBack_J9_floorMod_7cf53
set_option maxRecDepth 20000 in
theorem ggX3_bringBack_X8_copyFrom : GoodIn wsX3_bringBack wsX8_copyFrom := goodIn_r _ [12, 13, 14, 15, 16, 17, 18, 19, 20, 21, 22, 23, 24, 25, 26, 27, 28, 29, 33, 34, 35, 36, 37, 38, 39] (by decide +kernel) (by decide +kernel)
set_option maxRecDepth 20000 in
theorem gX3_bringBack_X8_copyFrom : GoodIn wsX3_bringBack (wsV RX3 28 RX8 yX8_copyFrom wsX8_copyFrom) := goodIn_app (goodIn_of _ (by decide +kernel)) ggX3_bringBack_X8_copyFrom
set_option maxRecDepth 20000 in
theorem ggX4_init_X4_neighbour : GoodIn wsX4_init wsX4_neighbour := goodIn_r _ [10, 11, 12, 13, 14, 15] (by decide +kernel) (by decide +kernel)
set_option maxRecDepth 20000 in
theorem gX4_init_X4_neighbour : GoodIn wsX4_init (va_wsS RX4 19 yX4_neighbour wsX4_neighbour) := goodIn_app (goodIn_of _ (by decide +kernel)) ggX4_init_X4_neighbour
set_option maxRecDepth 20000 in
theorem ggX4_next_X10_isCell : GoodIn wsX4_next wsX10_isCell := goodIn_r _ [6] (by decide +kernel) (by decide +kernel)
set_option maxRecDepth 20000 in
theorem gX4_next_X10_isCell_n23 : GoodIn wsX4_next (wsX10_isCell) := ggX4_next_X10_isCell
set_option maxRecDepth 20000 in
theorem ggX4_next_X10_isAction : GoodIn wsX4_next wsX10_isAction := goodIn_r _ [8] (by decide +kernel) (by decide +kernel)
set_option maxRecDepth 20000 in
theorem gX4_next_X10_isAction_n27 : GoodIn wsX4_next (wsX10_isAction) := ggX4_next_X10_isAction
set_option maxRecDepth 20000 in
theorem ggX4_ticks_X10_isCell : GoodIn wsX4_ticks wsX10_isCell := goodIn_r _ [5] (by decide +kernel) (by decide +kernel)
set_option maxRecDepth 20000 in
theorem gX4_ticks_X10_isCell_n23 : GoodIn wsX4_ticks (wsX10_isCell) := ggX4_ticks_X10_isCell
set_option maxRecDepth 20000 in
theorem ggX4_ticks_X10_isAction : GoodIn wsX4_ticks wsX10_isAction := goodIn_r _ [7] (by decide +kernel) (by decide +kernel)
set_option maxRecDepth 20000 in
theorem gX4_ticks_X10_isAction_n27 : GoodIn wsX4_ticks (wsX10_isAction) := ggX4_ticks_X10_isAction
set_option maxRecDepth 20000 in
theorem ggX4_neighbour_X10_isAction : GoodIn wsX4_neighbour wsX10_isAction := goodIn_r _ [3] (by decide +kernel) (by decide +kernel)
set_option maxRecDepth 20000 in
theorem gX4_neighbour_X10_isAction_n27 : GoodIn wsX4_neighbour (wsX10_isAction) := ggX4_neighbour_X10_isAction
set_option maxRecDepth 20000 in
theorem ggX4_neighbour_X10_isLayer : GoodIn wsX4_neighbour wsX10_isLayer := goodIn_r _ [5] (by decide +kernel) (by decide +kernel)
set_option maxRecDepth 20000 in
theorem gX4_neighbour_X10_isLayer_n50 : GoodIn wsX4_neighbour (wsX10_isLayer) := ggX4_neighbour_X10_isLayer
set_option maxRecDepth 20000 in
theorem ggX5_cellAt_X5_has : GoodIn wsX5_cellAt wsX5_has := goodIn_r _ [6, 7, 8, 9] (by decide +kernel) (by decide +kernel)
set_option maxRecDepth 20000 in
theorem gX5_cellAt_X5_has : GoodIn wsX5_cellAt (wsV RX5 19 RX5 yX5_has wsX5_has) := goodIn_app (goodIn_of _ (by decide +kernel)) ggX5_cellAt_X5_has
set_option maxRecDepth 20000 in
theorem ggX5_remove_X5_has : GoodIn wsX5_remove wsX5_has := goodIn_r _ [7, 1, 8, 9] (by decide +kernel) (by decide +kernel)
set_option maxRecDepth 20000 in
theorem gX5_remove_X5_has : GoodIn wsX5_remove (wsV RX5 19 RX5 yX5_has wsX5_has) := goodIn_app (goodIn_of _ (by decide +kernel)) ggX5_remove_X5_has
set_option maxRecDepth 20000 in
theorem ggX5_move_X5_has : GoodIn wsX5_move wsX5_has := goodIn_r _ [6, 7, 8, 9] (by decide +kernel) (by decide +kernel)
set_option maxRecDepth 20000 in
theorem gX5_move_X5_has : GoodIn wsX5_move (wsV RX5 19 RX5 yX5_has wsX5_has) := goodIn_app (goodIn_of _ (by decide +kernel)) ggX5_move_X5_has
set_option maxRecDepth 20000 in
theorem ggX6_init_X9_init : GoodIn wsX6_init wsX9_init := goodIn_r _ [24, 25, 2, 3, 7, 26, 27, 51, 52] (by decide +kernel) (by decide +kernel)
set_option maxRecDepth 20000 in
theorem gX6_init_X9_init : GoodIn wsX6_init (wsX9_init) := ggX6_init_X9_init
set_option maxRecDepth 20000 in
theorem ggX6_init_X7_init : GoodIn wsX6_init wsX7_init := goodIn_r _ [30, 31, 2, 3, 7, 32, 33, 34, 53, 54, 55] (by decide +kernel) (by decide +kernel)
set_option maxRecDepth 20000 in
theorem gX6_init_X7_init : GoodIn wsX6_init (wsX7_init) := ggX6_init_X7_init
set_option maxRecDepth 20000 in
theorem ggX6_init_X1_init : GoodIn wsX6_init wsX1_init := goodIn_r _ [36, 37, 2, 3, 7, 38, 39, 56, 57, 58, 59, 60] (by decide +kernel) (by decide +kernel)
set_option maxRecDepth 20000 in
theorem gX6_init_X1_init_n52 : GoodIn wsX6_init (wsX1_init) := ggX6_init_X1_init
set_option maxRecDepth 20000 in
theorem ggX6_make_X6_discard : GoodIn wsX6_make wsX6_discard := goodIn_r _ [21, 16, 12, 171, 172, 173, 174, 175, 176, 177, 178, 179, 180, 181] (by decide +kernel) (by decide +kernel)
set_option maxRecDepth 20000 in
theorem gX6_make_X6_discard : GoodIn wsX6_make (wsV RX6 57 RX6 yX6_discard wsX6_discard) := goodIn_app (goodIn_of _ (by decide +kernel)) ggX6_make_X6_discard
set_option maxRecDepth 20000 in
theorem ggX6_make_X6_takeOrder : GoodIn wsX6_make wsX6_takeOrder := goodIn_r _ [25, 7, 26, 27, 9, 28, 29, 30, 31, 32, 33, 34, 35, 36, 37, 38, 39, 40, 41, 42, 43, 44, 45, 46, 47, 48, 49, 50, 51, 52, 53, 54, 55, 56, 57, 58, 59, 60, 61, 62, 63, 64, 65, 66, 67, 20, 68, 69, 3, 4, 5, 6, 13, 14, 15, 70, 171, 172, 173, 174, 175, 176, 177, 178, 179, 180, 181, 196, 197, 198, 199, 200, 182, 183, 184, 185, 186, 187, 188, 189, 190, 191, 192, 193, 194, 195, 201, 202, 203, 204] (by decide +kernel) (by decide +kernel)
set_option maxRecDepth 20000 in
theorem gX6_make_X6_takeOrder : GoodIn wsX6_make (wsV RX6 75 RX6 yX6_takeOrder wsX6_takeOrder) := goodIn_app (goodIn_of _ (by decide +kernel)) ggX6_make_X6_takeOrder
set_option maxRecDepth 20000 in
theorem ggX6_make_X7_free : GoodIn wsX6_make wsX7_free := goodIn_r _ [75, 76, 77, 78, 79, 80, 205, 206, 207] (by decide +kernel) (by decide +kernel)
set_option maxRecDepth 20000 in
theorem gX6_make_X7_free : GoodIn wsX6_make (wsV RX6 79 RX7 yX7_free wsX7_free) := goodIn_app (goodIn_of _ (by decide +kernel)) ggX6_make_X7_free
set_option maxRecDepth 20000 in
theorem ggX6_make_X5_cellAt : GoodIn wsX6_make wsX5_cellAt := goodIn_r _ [49, 50, 51, 52, 53, 48, 54, 55, 201, 202] (by decide +kernel) (by decide +kernel)
set_option maxRecDepth 20000 in
theorem gX6_make_X5_cellAt : GoodIn wsX6_make (wsV RX6 88 RX5 yX5_cellAt wsX5_cellAt) := goodIn_app (goodIn_of _ (by decide +kernel)) ggX6_make_X5_cellAt
set_option maxRecDepth 20000 in
theorem ggX6_make_X6_goalOf : GoodIn wsX6_make wsX6_goalOf := goodIn_r _ [85, 10, 86, 27, 65, 66, 67, 20, 68, 69, 3, 4, 5, 6, 13, 14, 15, 81, 46, 47, 48, 49, 50, 51, 52, 53, 54, 55, 171, 172, 173, 174, 175, 176, 177, 178, 179, 180, 181, 191, 192, 193, 194, 195, 196, 197, 198, 199, 200, 201, 202] (by decide +kernel) (by decide +kernel)
set_option maxRecDepth 20000 in
theorem gX6_make_X6_goalOf : GoodIn wsX6_make (wsV RX6 94 RX6 yX6_goalOf wsX6_goalOf) := goodIn_app (goodIn_of _ (by decide +kernel)) ggX6_make_X6_goalOf
set_option maxRecDepth 20000 in
theorem ggX6_make_X7_earliestArrival : GoodIn wsX6_make wsX7_earliestArrival := goodIn_r _ [90, 91, 77, 78, 79, 80, 92, 93, 74, 94, 62, 63, 64, 95, 96, 97, 98, 99, 100, 101, 102, 76, 103, 104, 105, 106, 107, 108, 109, 110, 111, 112, 113, 114, 115, 116, 117, 118, 119, 120, 121, 122, 123, 124, 125, 126, 127, 128, 129, 130, 131, 132, 133, 134, 205, 206, 207, 208, 209, 191, 192, 193, 194, 195] (by decide +kernel) (by decide +kernel)
set_option maxRecDepth 20000 in
theorem gX6_make_X7_earliestArrival : GoodIn wsX6_make (wsV RX6 97 RX7 yX7_earliestArrival wsX7_earliestArrival) := goodIn_app (goodIn_of _ (by decide +kernel)) ggX6_make_X7_earliestArrival
set_option maxRecDepth 20000 in
theorem ggX6_make_X7_prune : GoodIn wsX6_make wsX7_prune := goodIn_r _ [138, 92, 93, 74, 94, 62, 63, 64, 103, 104, 105, 106, 91, 139, 140, 141, 142, 111, 112, 113, 114, 115, 116, 117, 118, 119, 120, 121, 122, 123, 124, 125, 126, 127, 128, 129, 130, 131, 132, 133, 134, 76, 95, 96, 97, 98, 205, 206, 207, 208, 209, 191, 192, 193, 194, 195] (by decide +kernel) (by decide +kernel)
set_option maxRecDepth 20000 in
theorem gX6_make_X7_prune : GoodIn wsX6_make (wsV RX6 100 RX7 yX7_prune wsX7_prune) := goodIn_app (goodIn_of _ (by decide +kernel)) ggX6_make_X7_prune
set_option maxRecDepth 20000 in
theorem ggX6_make_X6_flightOf : GoodIn wsX6_make wsX6_flightOf := goodIn_r _ [68, 69, 3, 4, 5, 6, 13, 14, 15, 171, 172, 173, 174, 175, 176, 177, 178, 179, 180, 181] (by decide +kernel) (by decide +kernel)
set_option maxRecDepth 20000 in
theorem gX6_make_X6_flightOf : GoodIn wsX6_make (wsV RX6 104 RX6 yX6_flightOf wsX6_flightOf) := goodIn_app (goodIn_of _ (by decide +kernel)) ggX6_make_X6_flightOf
set_option maxRecDepth 20000 in
theorem ggX6_make_X7_follow : GoodIn wsX6_make wsX7_follow := goodIn_r _ [146, 147, 115, 148, 149, 150, 151, 152, 153, 154, 155, 156, 78, 79, 80, 139, 140, 141, 74, 142, 111, 112, 113, 114, 116, 117, 118, 119, 120, 121, 122, 123, 62, 63, 64, 124, 125, 126, 127, 128, 129, 130, 131, 132, 133, 134, 76, 92, 93, 94, 103, 104, 105, 106, 91, 157, 158, 159, 160, 161, 14, 5, 15, 196, 197, 198, 199, 200, 205, 206, 207, 208, 209, 191, 192, 193, 194, 195] (by decide +kernel) (by decide +kernel)
set_option maxRecDepth 20000 in
theorem gX6_make_X7_follow : GoodIn wsX6_make (wsV RX6 108 RX7 yX7_follow wsX7_follow) := goodIn_app (goodIn_of _ (by decide +kernel)) ggX6_make_X7_follow
set_option maxRecDepth 20000 in
theorem ggX6_make_X7_hold : GoodIn wsX6_make wsX7_hold := goodIn_r _ [165, 76, 166, 167, 168, 151, 169, 154, 170, 4, 5, 6, 161, 14, 15, 92, 93, 74, 94, 62, 63, 64, 205, 206, 207, 196, 197, 198, 199, 200] (by decide +kernel) (by decide +kernel)
set_option maxRecDepth 20000 in
theorem gX6_make_X7_hold : GoodIn wsX6_make (wsV RX6 112 RX7 yX7_hold wsX7_hold) := goodIn_app (goodIn_of _ (by decide +kernel)) ggX6_make_X7_hold
set_option maxRecDepth 20000 in
theorem ggX6_cellOfDrone_X6_flightOf : GoodIn wsX6_cellOfDrone wsX6_flightOf := goodIn_r _ [6, 7, 8, 9, 10, 11, 12, 13, 14, 23, 24, 25, 26, 27, 28, 29, 30, 31, 32, 33] (by decide +kernel) (by decide +kernel)
set_option maxRecDepth 20000 in
theorem gX6_cellOfDrone_X6_flightOf : GoodIn wsX6_cellOfDrone (wsV RX6 104 RX6 yX6_flightOf wsX6_flightOf) := goodIn_app (goodIn_of _ (by decide +kernel)) ggX6_cellOfDrone_X6_flightOf
set_option maxRecDepth 20000 in
theorem ggX6_cellOfDrone_X1_cellAt : GoodIn wsX6_cellOfDrone wsX1_cellAt := goodIn_r _ [19, 20, 21, 9, 10, 11, 22, 13, 14, 34, 35, 36, 37, 38] (by decide +kernel) (by decide +kernel)
set_option maxRecDepth 20000 in
theorem gX6_cellOfDrone_X1_cellAt : GoodIn wsX6_cellOfDrone (wsV RX6 119 RX1 yX1_cellAt wsX1_cellAt) := goodIn_app (goodIn_of _ (by decide +kernel)) ggX6_cellOfDrone_X1_cellAt
set_option maxRecDepth 20000 in
theorem ggX6_actionOfDrone_X6_flightOf : GoodIn wsX6_actionOfDrone wsX6_flightOf := goodIn_r _ [6, 7, 8, 9, 10, 11, 12, 13, 14, 22, 23, 24, 25, 26, 27, 28, 29, 30, 31, 32] (by decide +kernel) (by decide +kernel)
set_option maxRecDepth 20000 in
theorem gX6_actionOfDrone_X6_flightOf : GoodIn wsX6_actionOfDrone (wsV RX6 104 RX6 yX6_flightOf wsX6_flightOf) := goodIn_app (goodIn_of _ (by decide +kernel)) ggX6_actionOfDrone_X6_flightOf
set_option maxRecDepth 20000 in
theorem ggX6_actionOfDrone_X1_actionAt : GoodIn wsX6_actionOfDrone wsX1_actionAt := goodIn_r _ [19, 20, 21, 33, 34, 35, 36, 37] (by decide +kernel) (by decide +kernel)
set_option maxRecDepth 20000 in
theorem gX6_actionOfDrone_X1_actionAt : GoodIn wsX6_actionOfDrone (wsV RX6 120 RX1 yX1_actionAt wsX1_actionAt) := goodIn_app (goodIn_of _ (by decide +kernel)) ggX6_actionOfDrone_X1_actionAt
set_option maxRecDepth 20000 in
theorem ggX6_positionOf_X6_flightOf : GoodIn wsX6_positionOf wsX6_flightOf := goodIn_r _ [6, 7, 8, 9, 10, 11, 12, 13, 14, 20, 21, 22, 23, 24, 25, 26, 27, 28, 29, 30] (by decide +kernel) (by decide +kernel)
set_option maxRecDepth 20000 in
theorem gX6_positionOf_X6_flightOf : GoodIn wsX6_positionOf (wsV RX6 104 RX6 yX6_flightOf wsX6_flightOf) := goodIn_app (goodIn_of _ (by decide +kernel)) ggX6_positionOf_X6_flightOf
set_option maxRecDepth 20000 in
theorem ggX6_slotOf_X6_flightOf : GoodIn wsX6_slotOf wsX6_flightOf := goodIn_r _ [6, 7, 8, 9, 10, 11, 12, 13, 14, 20, 21, 22, 23, 24, 25, 26, 27, 28, 29, 30] (by decide +kernel) (by decide +kernel)
set_option maxRecDepth 20000 in
theorem gX6_slotOf_X6_flightOf : GoodIn wsX6_slotOf (wsV RX6 104 RX6 yX6_flightOf wsX6_flightOf) := goodIn_app (goodIn_of _ (by decide +kernel)) ggX6_slotOf_X6_flightOf
set_option maxRecDepth 20000 in
theorem ggX6_ticksLeft_X6_flightOf : GoodIn wsX6_ticksLeft wsX6_flightOf := goodIn_r _ [11, 12, 13, 14, 5, 15, 3, 4, 6, 21, 22, 23, 24, 25, 26, 27, 28, 29, 30, 31] (by decide +kernel) (by decide +kernel)
set_option maxRecDepth 20000 in
theorem gX6_ticksLeft_X6_flightOf : GoodIn wsX6_ticksLeft (wsV RX6 104 RX6 yX6_flightOf wsX6_flightOf) := goodIn_app (goodIn_of _ (by decide +kernel)) ggX6_ticksLeft_X6_flightOf
set_option maxRecDepth 20000 in
theorem ggX6_waitsLeft_X6_flightOf : GoodIn wsX6_waitsLeft wsX6_flightOf := goodIn_r _ [7, 8, 9, 10, 11, 12, 13, 14, 15, 23, 24, 25, 26, 27, 28, 29, 30, 31, 32, 33] (by decide +kernel) (by decide +kernel)
set_option maxRecDepth 20000 in
theorem gX6_waitsLeft_X6_flightOf : GoodIn wsX6_waitsLeft (wsV RX6 104 RX6 yX6_flightOf wsX6_flightOf) := goodIn_app (goodIn_of _ (by decide +kernel)) ggX6_waitsLeft_X6_flightOf
set_option maxRecDepth 20000 in
theorem ggX6_waitsLeft_X1_actionAt : GoodIn wsX6_waitsLeft wsX1_actionAt := goodIn_r _ [20, 21, 22, 34, 35, 36, 37, 38] (by decide +kernel) (by decide +kernel)
set_option maxRecDepth 20000 in
theorem gX6_waitsLeft_X1_actionAt : GoodIn wsX6_waitsLeft (wsV RX6 120 RX1 yX1_actionAt wsX1_actionAt) := goodIn_app (goodIn_of _ (by decide +kernel)) ggX6_waitsLeft_X1_actionAt
set_option maxRecDepth 20000 in
theorem ggX6_timeWithoutOthers_X6_goalOf : GoodIn wsX6_timeWithoutOthers wsX6_goalOf := goodIn_r _ [8, 2, 9, 10, 11, 12, 13, 7, 14, 15, 16, 17, 18, 19, 20, 21, 22, 23, 24, 25, 26, 27, 28, 29, 30, 31, 32, 33, 74, 75, 76, 77, 78, 79, 80, 81, 82, 83, 84, 85, 86, 87, 88, 89, 90, 91, 92, 93, 94, 95, 96] (by decide +kernel) (by decide +kernel)
set_option maxRecDepth 20000 in
theorem gX6_timeWithoutOthers_X6_goalOf : GoodIn wsX6_timeWithoutOthers (wsV RX6 94 RX6 yX6_goalOf wsX6_goalOf) := goodIn_app (goodIn_of _ (by decide +kernel)) ggX6_timeWithoutOthers_X6_goalOf
set_option maxRecDepth 20000 in
theorem ggX6_timeWithoutOthers_X9_measure : GoodIn wsX6_timeWithoutOthers wsX9_measure := goodIn_r _ [38, 39, 40, 41, 42, 43, 21, 18, 22, 44, 45, 46, 47, 48, 49, 50, 51, 52, 53, 37, 54, 55, 56, 57, 58, 59, 60, 61, 62, 63, 64, 65, 66, 67, 68, 69, 97, 98, 99, 100, 85, 86, 87, 88, 89] (by decide +kernel) (by decide +kernel)
set_option maxRecDepth 20000 in
theorem gX6_timeWithoutOthers_X9_measure : GoodIn wsX6_timeWithoutOthers (wsV RX6 132 RX9 yX9_measure wsX9_measure) := goodIn_app (goodIn_of _ (by decide +kernel)) ggX6_timeWithoutOthers_X9_measure
set_option maxRecDepth 20000 in
theorem ggX6_timeWithoutOthers_X5_cellAt : GoodIn wsX6_timeWithoutOthers wsX5_cellAt := goodIn_r _ [27, 28, 29, 30, 31, 26, 32, 33, 95, 96] (by decide +kernel) (by decide +kernel)
set_option maxRecDepth 20000 in
theorem gX6_timeWithoutOthers_X5_cellAt : GoodIn wsX6_timeWithoutOthers (wsV RX6 88 RX5 yX5_cellAt wsX5_cellAt) := goodIn_app (goodIn_of _ (by decide +kernel)) ggX6_timeWithoutOthers_X5_cellAt
set_option maxRecDepth 20000 in
theorem ggX6_timeWithoutOthers_X9_timeFrom : GoodIn wsX6_timeWithoutOthers wsX9_timeFrom := goodIn_r _ [73, 39, 48, 49, 50, 97, 98] (by decide +kernel) (by decide +kernel)
set_option maxRecDepth 20000 in
theorem gX6_timeWithoutOthers_X9_timeFrom : GoodIn wsX6_timeWithoutOthers (wsV RX6 136 RX9 yX9_timeFrom wsX9_timeFrom) := goodIn_app (goodIn_of _ (by decide +kernel)) ggX6_timeWithoutOthers_X9_timeFrom
set_option maxRecDepth 20000 in
theorem ggX6_hinderer_X6_flightOf : GoodIn wsX6_hinderer wsX6_flightOf := goodIn_r _ [11, 5, 12, 13, 14, 15, 16, 17, 18, 102, 103, 104, 105, 106, 107, 108, 109, 110, 111, 112] (by decide +kernel) (by decide +kernel)
set_option maxRecDepth 20000 in
theorem gX6_hinderer_X6_flightOf : GoodIn wsX6_hinderer (wsV RX6 104 RX6 yX6_flightOf wsX6_flightOf) := goodIn_app (goodIn_of _ (by decide +kernel)) ggX6_hinderer_X6_flightOf
set_option maxRecDepth 20000 in
theorem ggX6_hinderer_X1_actionAt : GoodIn wsX6_hinderer wsX1_actionAt := goodIn_r _ [23, 24, 25, 113, 114, 115, 116, 117] (by decide +kernel) (by decide +kernel)
set_option maxRecDepth 20000 in
theorem gX6_hinderer_X1_actionAt : GoodIn wsX6_hinderer (wsV RX6 120 RX1 yX1_actionAt wsX1_actionAt) := goodIn_app (goodIn_of _ (by decide +kernel)) ggX6_hinderer_X1_actionAt
set_option maxRecDepth 20000 in
theorem ggX6_hinderer_X6_goalOf : GoodIn wsX6_hinderer wsX6_goalOf := goodIn_r _ [29, 30, 31, 32, 7, 8, 9, 10, 11, 5, 12, 13, 14, 15, 16, 17, 18, 33, 34, 35, 36, 37, 38, 39, 40, 41, 42, 43, 102, 103, 104, 105, 106, 107, 108, 109, 110, 111, 112, 118, 119, 120, 121, 122, 113, 114, 115, 116, 117, 123, 124] (by decide +kernel) (by decide +kernel)
set_option maxRecDepth 20000 in
theorem gX6_hinderer_X6_goalOf : GoodIn wsX6_hinderer (wsV RX6 94 RX6 yX6_goalOf wsX6_goalOf) := goodIn_app (goodIn_of _ (by decide +kernel)) ggX6_hinderer_X6_goalOf
set_option maxRecDepth 20000 in
theorem ggX6_hinderer_X9_measure : GoodIn wsX6_hinderer wsX9_measure := goodIn_r _ [48, 49, 50, 51, 52, 53, 17, 14, 18, 54, 55, 56, 57, 58, 59, 60, 61, 62, 63, 47, 64, 65, 66, 67, 68, 69, 70, 71, 72, 73, 74, 75, 76, 77, 78, 79, 125, 126, 127, 128, 118, 119, 120, 121, 122] (by decide +kernel) (by decide +kernel)
set_option maxRecDepth 20000 in
theorem gX6_hinderer_X9_measure : GoodIn wsX6_hinderer (wsV RX6 132 RX9 yX9_measure wsX9_measure) := goodIn_app (goodIn_of _ (by decide +kernel)) ggX6_hinderer_X9_measure
set_option maxRecDepth 20000 in
theorem ggX6_hinderer_X1_cellAt : GoodIn wsX6_hinderer wsX1_cellAt := goodIn_r _ [83, 84, 85, 13, 14, 15, 86, 17, 18, 113, 114, 115, 116, 117] (by decide +kernel) (by decide +kernel)
set_option maxRecDepth 20000 in
theorem gX6_hinderer_X1_cellAt : GoodIn wsX6_hinderer (wsV RX6 119 RX1 yX1_cellAt wsX1_cellAt) := goodIn_app (goodIn_of _ (by decide +kernel)) ggX6_hinderer_X1_cellAt
set_option maxRecDepth 20000 in
theorem ggX6_hinderer_X9_firstAction : GoodIn wsX6_hinderer wsX9_firstAction := goodIn_r _ [90, 50, 65, 66, 67, 68, 69, 70, 71, 72, 58, 59, 60, 73, 74, 91, 92, 93, 47, 94, 49, 75, 76, 77, 78, 79, 125, 126, 127, 128, 118, 119, 120, 121, 122] (by decide +kernel) (by decide +kernel)
set_option maxRecDepth 20000 in
theorem gX6_hinderer_X9_firstAction : GoodIn wsX6_hinderer (wsV RX6 139 RX9 yX9_firstAction wsX9_firstAction) := goodIn_app (goodIn_of _ (by decide +kernel)) ggX6_hinderer_X9_firstAction
set_option maxRecDepth 20000 in
theorem ggX6_hinderer_X6_isMet : GoodIn wsX6_hinderer wsX6_isMet := goodIn_r _ [98, 99, 100, 66, 67, 68, 69, 70, 71, 72, 58, 59, 60, 73, 74, 101, 76, 77, 78, 79, 80, 81, 82, 22, 83, 84, 85, 13, 14, 15, 86, 17, 18, 102, 103, 104, 105, 106, 107, 108, 109, 110, 111, 112, 127, 128, 118, 119, 120, 121, 122, 113, 114, 115, 116, 117] (by decide +kernel) (by decide +kernel)
set_option maxRecDepth 20000 in
theorem gX6_hinderer_X6_isMet : GoodIn wsX6_hinderer (wsV RX6 142 RX6 yX6_isMet wsX6_isMet) := goodIn_app (goodIn_of _ (by decide +kernel)) ggX6_hinderer_X6_isMet
set_option maxRecDepth 20000 in
theorem ggX6_pairsInConflict_X6_layWay : GoodIn wsX6_pairsInConflict wsX6_layWay := goodIn_r _ [7, 8, 9, 10, 2, 11, 12, 13, 14, 6, 15, 16, 17, 18, 19, 20, 21, 22, 23, 24, 25, 26, 27, 28, 29, 30, 31, 32, 33, 34, 35, 36, 37, 38, 39, 40, 41, 42, 43, 44, 45, 46, 47, 48, 49, 50, 51, 52, 53, 54, 55, 56, 57, 58, 59, 60, 61, 62, 63, 64, 65, 66, 67, 68, 69, 70, 71, 72, 73, 74, 75, 76, 77, 78, 79, 80, 81, 82, 83, 84, 85, 86, 87, 88, 89, 90, 91, 92, 93, 94, 95, 96, 97, 98, 99, 100, 110, 111, 112, 113, 114, 115, 116, 117, 118, 119, 120, 121, 122, 123, 124, 125, 126, 127, 128, 129, 130, 131, 132, 133, 134, 135, 136] (by decide +kernel) (by decide +kernel)
set_option maxRecDepth 20000 in
theorem gX6_pairsInConflict_X6_layWay : GoodIn wsX6_pairsInConflict (wsV RX6 146 RX6 yX6_layWay wsX6_layWay) := goodIn_app (goodIn_of _ (by decide +kernel)) ggX6_pairsInConflict_X6_layWay
set_option maxRecDepth 20000 in
theorem ggX6_pairsInConflict_X1_meets : GoodIn wsX6_pairsInConflict wsX1_meets := goodIn_r _ [104, 105, 106, 107, 80, 108, 83, 109, 24, 25, 26, 100, 28, 29, 126, 127, 128, 129, 130] (by decide +kernel) (by decide +kernel)
set_option maxRecDepth 20000 in
theorem gX6_pairsInConflict_X1_meets : GoodIn wsX6_pairsInConflict (wsV RX6 149 RX1 yX1_meets wsX1_meets) := goodIn_app (goodIn_of _ (by decide +kernel)) ggX6_pairsInConflict_X1_meets
set_option maxRecDepth 20000 in
theorem ggX6_advance_X6_cellOfDrone : GoodIn wsX6_advance wsX6_cellOfDrone := goodIn_r _ [13, 1, 14, 15, 16, 12, 17, 18, 2, 3, 4, 5, 19, 20, 21, 22, 23, 24, 25, 26, 27, 28, 29, 46, 47, 48, 49, 50, 51, 52, 53, 54, 55, 56, 62, 63, 64, 65, 66] (by decide +kernel) (by decide +kernel)
set_option maxRecDepth 20000 in
theorem gX6_advance_X6_cellOfDrone : GoodIn wsX6_advance (wsV RX6 153 RX6 yX6_cellOfDrone wsX6_cellOfDrone) := goodIn_app (goodIn_of _ (by decide +kernel)) ggX6_advance_X6_cellOfDrone
set_option maxRecDepth 20000 in
theorem ggX6_advance_X5_move : GoodIn wsX6_advance wsX5_move := goodIn_r _ [34, 35, 36, 37, 38, 33, 39, 40, 67, 68] (by decide +kernel) (by decide +kernel)
set_option maxRecDepth 20000 in
theorem gX6_advance_X5_move : GoodIn wsX6_advance (wsV RX6 156 RX5 yX5_move wsX5_move) := goodIn_app (goodIn_of _ (by decide +kernel)) ggX6_advance_X5_move
set_option maxRecDepth 20000 in
theorem ggX6_advance_X6_ticksLeft : GoodIn wsX6_advance wsX6_ticksLeft := goodIn_r _ [44, 45, 1, 19, 20, 4, 21, 14, 15, 16, 12, 17, 18, 2, 3, 5, 62, 63, 64, 65, 66, 46, 47, 48, 49, 50, 51, 52, 53, 54, 55, 56] (by decide +kernel) (by decide +kernel)
set_option maxRecDepth 20000 in
theorem gX6_advance_X6_ticksLeft : GoodIn wsX6_advance (wsV RX6 159 RX6 yX6_ticksLeft wsX6_ticksLeft) := goodIn_app (goodIn_of _ (by decide +kernel)) ggX6_advance_X6_ticksLeft
set_option maxRecDepth 20000 in
theorem ggX6_takeOrder_X0_timeOf : GoodIn wsX6_takeOrder wsX0_timeOf := goodIn_r _ [9, 10, 11, 12, 8, 13, 14, 15, 16, 17, 18, 19, 20, 21, 22, 23, 24, 25, 26, 27, 28, 29, 30, 31, 32, 33, 34, 35, 36, 37, 38, 39, 40, 41, 72, 73, 74, 75, 76, 77, 78, 79, 80, 81, 82, 83, 84, 85, 86, 87, 88, 89] (by decide +kernel) (by decide +kernel)
set_option maxRecDepth 20000 in
theorem gX6_takeOrder_X0_timeOf : GoodIn wsX6_takeOrder (wsV RX6 162 RX0 yX0_timeOf wsX0_timeOf) := goodIn_app (goodIn_of _ (by decide +kernel)) ggX6_takeOrder_X0_timeOf
set_option maxRecDepth 20000 in
theorem ggX6_takeOrder_X6_flightOf : GoodIn wsX6_takeOrder wsX6_flightOf := goodIn_r _ [46, 47, 48, 49, 50, 51, 52, 53, 54, 56, 57, 58, 59, 60, 61, 62, 63, 64, 65, 66] (by decide +kernel) (by decide +kernel)
set_option maxRecDepth 20000 in
theorem gX6_takeOrder_X6_flightOf : GoodIn wsX6_takeOrder (wsV RX6 104 RX6 yX6_flightOf wsX6_flightOf) := goodIn_app (goodIn_of _ (by decide +kernel)) ggX6_takeOrder_X6_flightOf
set_option maxRecDepth 20000 in
theorem ggX6_takeOrder_X0_slotOf : GoodIn wsX6_takeOrder wsX0_slotOf := goodIn_r _ [13, 14, 72, 73, 74, 75, 76, 77, 78, 79, 80] (by decide +kernel) (by decide +kernel)
set_option maxRecDepth 20000 in
theorem gX6_takeOrder_X0_slotOf : GoodIn wsX6_takeOrder (wsV RX6 165 RX0 yX0_slotOf wsX0_slotOf) := goodIn_app (goodIn_of _ (by decide +kernel)) ggX6_takeOrder_X0_slotOf
set_option maxRecDepth 20000 in
theorem ggX6_goalOf_X6_flightOf : GoodIn wsX6_goalOf wsX6_flightOf := goodIn_r _ [8, 9, 10, 11, 12, 13, 14, 15, 16, 28, 29, 30, 31, 32, 33, 34, 35, 36, 37, 38] (by decide +kernel) (by decide +kernel)
set_option maxRecDepth 20000 in
theorem gX6_goalOf_X6_flightOf : GoodIn wsX6_goalOf (wsV RX6 104 RX6 yX6_flightOf wsX6_flightOf) := goodIn_app (goodIn_of _ (by decide +kernel)) ggX6_goalOf_X6_flightOf
set_option maxRecDepth 20000 in
theorem ggX6_goalOf_X5_cellAt : GoodIn wsX6_goalOf wsX5_cellAt := goodIn_r _ [21, 22, 23, 24, 25, 20, 26, 27, 49, 50] (by decide +kernel) (by decide +kernel)
set_option maxRecDepth 20000 in
theorem gX6_goalOf_X5_cellAt : GoodIn wsX6_goalOf (wsV RX6 88 RX5 yX5_cellAt wsX5_cellAt) := goodIn_app (goodIn_of _ (by decide +kernel)) ggX6_goalOf_X5_cellAt
set_option maxRecDepth 20000 in
theorem ggX6_isMet_X4_next : GoodIn wsX6_isMet wsX4_next := goodIn_r _ [6, 7, 8, 9, 10, 11, 12, 13, 14, 44, 45, 46, 47, 48, 49, 50] (by decide +kernel) (by decide +kernel)
set_option maxRecDepth 20000 in
theorem gX6_isMet_X4_next : GoodIn wsX6_isMet (wsV RX6 171 RX4 yX4_next wsX4_next) := goodIn_app (goodIn_of _ (by decide +kernel)) ggX6_isMet_X4_next
set_option maxRecDepth 20000 in
theorem ggX6_isMet_X4_ticks : GoodIn wsX6_isMet wsX4_ticks := goodIn_r _ [18, 8, 19, 10, 11, 12, 13, 14, 44, 45, 46, 47, 48, 49, 50] (by decide +kernel) (by decide +kernel)
set_option maxRecDepth 20000 in
theorem gX6_isMet_X4_ticks : GoodIn wsX6_isMet (wsV RX6 176 RX4 yX4_ticks wsX4_ticks) := goodIn_app (goodIn_of _ (by decide +kernel)) ggX6_isMet_X4_ticks
set_option maxRecDepth 20000 in
theorem ggX6_isMet_X1_cellAt : GoodIn wsX6_isMet wsX1_cellAt := goodIn_r _ [24, 25, 26, 27, 28, 29, 30, 31, 32, 51, 52, 53, 54, 55] (by decide +kernel) (by decide +kernel)
set_option maxRecDepth 20000 in
theorem gX6_isMet_X1_cellAt : GoodIn wsX6_isMet (wsV RX6 119 RX1 yX1_cellAt wsX1_cellAt) := goodIn_app (goodIn_of _ (by decide +kernel)) ggX6_isMet_X1_cellAt
set_option maxRecDepth 20000 in
theorem ggX6_layWay_X6_goalOf : GoodIn wsX6_layWay wsX6_goalOf := goodIn_r _ [10, 2, 11, 12, 13, 14, 15, 9, 16, 17, 18, 19, 20, 21, 22, 23, 24, 25, 26, 27, 28, 29, 30, 31, 32, 33, 34, 35, 96, 97, 98, 99, 100, 101, 102, 103, 104, 105, 106, 107, 108, 109, 110, 111, 112, 113, 114, 115, 116, 117, 118] (by decide +kernel) (by decide +kernel)
set_option maxRecDepth 20000 in
theorem gX6_layWay_X6_goalOf : GoodIn wsX6_layWay (wsV RX6 94 RX6 yX6_goalOf wsX6_goalOf) := goodIn_app (goodIn_of _ (by decide +kernel)) ggX6_layWay_X6_goalOf
set_option maxRecDepth 20000 in
theorem ggX6_layWay_X9_measure : GoodIn wsX6_layWay wsX9_measure := goodIn_r _ [40, 41, 42, 43, 44, 45, 23, 20, 24, 46, 47, 48, 49, 50, 51, 52, 53, 54, 55, 39, 56, 57, 58, 59, 60, 61, 62, 63, 64, 65, 66, 67, 68, 69, 70, 71, 119, 120, 121, 122, 107, 108, 109, 110, 111] (by decide +kernel) (by decide +kernel)
set_option maxRecDepth 20000 in
theorem gX6_layWay_X9_measure : GoodIn wsX6_layWay (wsV RX6 132 RX9 yX9_measure wsX9_measure) := goodIn_app (goodIn_of _ (by decide +kernel)) ggX6_layWay_X9_measure
set_option maxRecDepth 20000 in
theorem ggX6_layWay_X5_cellAt : GoodIn wsX6_layWay wsX5_cellAt := goodIn_r _ [29, 30, 31, 32, 33, 28, 34, 35, 117, 118] (by decide +kernel) (by decide +kernel)
set_option maxRecDepth 20000 in
theorem gX6_layWay_X5_cellAt : GoodIn wsX6_layWay (wsV RX6 88 RX5 yX5_cellAt wsX5_cellAt) := goodIn_app (goodIn_of _ (by decide +kernel)) ggX6_layWay_X5_cellAt
set_option maxRecDepth 20000 in
theorem ggX6_layWay_X1_begin : GoodIn wsX6_layWay wsX1_begin := goodIn_r _ [76, 77, 78, 79, 80, 47, 48, 49, 112, 113, 114, 115, 116] (by decide +kernel) (by decide +kernel)
set_option maxRecDepth 20000 in
theorem gX6_layWay_X1_begin : GoodIn wsX6_layWay (wsV RX6 179 RX1 yX1_begin wsX1_begin) := goodIn_app (goodIn_of _ (by decide +kernel)) ggX6_layWay_X1_begin
set_option maxRecDepth 20000 in
theorem ggX6_layWay_X9_firstAction : GoodIn wsX6_layWay wsX9_firstAction := goodIn_r _ [84, 42, 57, 58, 59, 60, 61, 62, 63, 64, 50, 51, 52, 65, 66, 85, 86, 87, 39, 88, 41, 67, 68, 69, 70, 71, 119, 120, 121, 122, 107, 108, 109, 110, 111] (by decide +kernel) (by decide +kernel)
set_option maxRecDepth 20000 in
theorem gX6_layWay_X9_firstAction : GoodIn wsX6_layWay (wsV RX6 139 RX9 yX9_firstAction wsX9_firstAction) := goodIn_app (goodIn_of _ (by decide +kernel)) ggX6_layWay_X9_firstAction
set_option maxRecDepth 20000 in
theorem ggX6_layWay_X4_next : GoodIn wsX6_layWay wsX4_next := goodIn_r _ [61, 62, 63, 64, 50, 51, 52, 65, 66, 121, 122, 107, 108, 109, 110, 111] (by decide +kernel) (by decide +kernel)
set_option maxRecDepth 20000 in
theorem gX6_layWay_X4_next : GoodIn wsX6_layWay (wsV RX6 171 RX4 yX4_next wsX4_next) := goodIn_app (goodIn_of _ (by decide +kernel)) ggX6_layWay_X4_next
set_option maxRecDepth 20000 in
theorem ggX6_layWay_X4_ticks : GoodIn wsX6_layWay wsX4_ticks := goodIn_r _ [70, 63, 71, 50, 51, 52, 65, 66, 121, 122, 107, 108, 109, 110, 111] (by decide +kernel) (by decide +kernel)
set_option maxRecDepth 20000 in
theorem gX6_layWay_X4_ticks : GoodIn wsX6_layWay (wsV RX6 176 RX4 yX4_ticks wsX4_ticks) := goodIn_app (goodIn_of _ (by decide +kernel)) ggX6_layWay_X4_ticks
set_option maxRecDepth 20000 in
theorem ggX6_layWay_X1_add : GoodIn wsX6_layWay wsX1_add := goodIn_r _ [94, 77, 79, 95, 23, 20, 24, 78, 112, 113, 114, 115, 116] (by decide +kernel) (by decide +kernel)
set_option maxRecDepth 20000 in
theorem gX6_layWay_X1_add : GoodIn wsX6_layWay (wsV RX6 182 RX1 yX1_add wsX1_add) := goodIn_app (goodIn_of _ (by decide +kernel)) ggX6_layWay_X1_add
set_option maxRecDepth 20000 in
theorem ggX7_free_J7_fill_53178 : GoodIn wsX7_free wsJ7_fill_53178 := goodIn_r _ [5] (by decide +kernel) (by decide +kernel)
set_option maxRecDepth 20000 in
theorem gX7_free_J7_fill_53178 : GoodIn wsX7_free (va_wsS RX7 22 yJ7_fill_53178 wsJ7_fill_53178) := goodIn_app (goodIn_of _ (by decide +kernel)) ggX7_free_J7_fill_53178
set_option maxRecDepth 20000 in
theorem ggX7_hold_X1_cellAt : GoodIn wsX7_hold wsX1_cellAt := goodIn_r _ [6, 7, 8, 9, 10, 11, 12, 13, 14, 25, 26, 27, 28, 29] (by decide +kernel) (by decide +kernel)
set_option maxRecDepth 20000 in
theorem gX7_hold_X1_cellAt : GoodIn wsX7_hold (wsV RX7 28 RX1 yX1_cellAt wsX1_cellAt) := goodIn_app (goodIn_of _ (by decide +kernel)) ggX7_hold_X1_cellAt
set_option maxRecDepth 20000 in
theorem ggX7_hold_X7_spot : GoodIn wsX7_hold wsX7_spot := goodIn_r _ [18, 19, 20, 21] (by decide +kernel) (by decide +kernel)
set_option maxRecDepth 20000 in
theorem gX7_hold_X7_spot : GoodIn wsX7_hold (va_wsS RX7 34 yX7_spot wsX7_spot) := goodIn_app (goodIn_of _ (by decide +kernel)) ggX7_hold_X7_spot
set_option maxRecDepth 20000 in
theorem ggX7_earliestArrival_J7_fill_53178 : GoodIn wsX7_earliestArrival wsJ7_fill_53178 := goodIn_r _ [5] (by decide +kernel) (by decide +kernel)
set_option maxRecDepth 20000 in
theorem gX7_earliestArrival_J7_fill_53178 : GoodIn wsX7_earliestArrival (va_wsS RX7 22 yJ7_fill_53178 wsJ7_fill_53178) := goodIn_app (goodIn_of _ (by decide +kernel)) ggX7_earliestArrival_J7_fill_53178
set_option maxRecDepth 20000 in
theorem ggX7_earliestArrival_X7_spot : GoodIn wsX7_earliestArrival wsX7_spot := goodIn_r _ [9, 10, 11, 12] (by decide +kernel) (by decide +kernel)
set_option maxRecDepth 20000 in
theorem gX7_earliestArrival_X7_spot : GoodIn wsX7_earliestArrival (va_wsS RX7 34 yX7_spot wsX7_spot) := goodIn_app (goodIn_of _ (by decide +kernel)) ggX7_earliestArrival_X7_spot
set_option maxRecDepth 20000 in
theorem ggX7_earliestArrival_X7_mark : GoodIn wsX7_earliestArrival wsX7_mark := goodIn_r _ [16, 1, 54, 55, 56] (by decide +kernel) (by decide +kernel)
set_option maxRecDepth 20000 in
theorem gX7_earliestArrival_X7_mark : GoodIn wsX7_earliestArrival (wsV RX7 38 RX7 yX7_mark wsX7_mark) := goodIn_app (goodIn_of _ (by decide +kernel)) ggX7_earliestArrival_X7_mark
set_option maxRecDepth 20000 in
theorem ggX7_earliestArrival_X7_freeFrom : GoodIn wsX7_earliestArrival wsX7_freeFrom := goodIn_r _ [20, 21, 6, 7, 8, 9, 10, 11, 12, 54, 55, 56] (by decide +kernel) (by decide +kernel)
set_option maxRecDepth 20000 in
theorem gX7_earliestArrival_X7_freeFrom : GoodIn wsX7_earliestArrival (wsV RX7 42 RX7 yX7_freeFrom wsX7_freeFrom) := goodIn_app (goodIn_of _ (by decide +kernel)) ggX7_earliestArrival_X7_freeFrom
set_option maxRecDepth 20000 in
theorem ggX7_earliestArrival_X7_isUsable : GoodIn wsX7_earliestArrival wsX7_isUsable := goodIn_r _ [25, 1, 54, 55, 56] (by decide +kernel) (by decide +kernel)
set_option maxRecDepth 20000 in
theorem gX7_earliestArrival_X7_isUsable : GoodIn wsX7_earliestArrival (wsV RX7 45 RX7 yX7_isUsable wsX7_isUsable) := goodIn_app (goodIn_of _ (by decide +kernel)) ggX7_earliestArrival_X7_isUsable
set_option maxRecDepth 20000 in
theorem ggX7_earliestArrival_X7_spread : GoodIn wsX7_earliestArrival wsX7_spread := goodIn_r _ [29, 30, 31, 32, 8, 33, 34, 35, 36, 37, 38, 39, 40, 41, 42, 10, 11, 12, 43, 44, 45, 46, 47, 48, 49, 50, 51, 52, 53, 21, 6, 7, 9, 13, 14, 15, 16, 1, 54, 55, 56, 57, 58, 59, 60, 61, 62, 63] (by decide +kernel) (by decide +kernel)
set_option maxRecDepth 20000 in
theorem gX7_earliestArrival_X7_spread : GoodIn wsX7_earliestArrival (wsV RX7 49 RX7 yX7_spread wsX7_spread) := goodIn_app (goodIn_of _ (by decide +kernel)) ggX7_earliestArrival_X7_spread
set_option maxRecDepth 20000 in
theorem ggX7_prune_X7_spot : GoodIn wsX7_prune wsX7_spot := goodIn_r _ [4, 5, 6, 7] (by decide +kernel) (by decide +kernel)
set_option maxRecDepth 20000 in
theorem gX7_prune_X7_spot : GoodIn wsX7_prune (va_wsS RX7 34 yX7_spot wsX7_spot) := goodIn_app (goodIn_of _ (by decide +kernel)) ggX7_prune_X7_spot
set_option maxRecDepth 20000 in
theorem ggX7_prune_X7_isUsable : GoodIn wsX7_prune wsX7_isUsable := goodIn_r _ [11, 12, 46, 47, 48] (by decide +kernel) (by decide +kernel)
set_option maxRecDepth 20000 in
theorem gX7_prune_X7_isUsable : GoodIn wsX7_prune (wsV RX7 45 RX7 yX7_isUsable wsX7_isUsable) := goodIn_app (goodIn_of _ (by decide +kernel)) ggX7_prune_X7_isUsable
set_option maxRecDepth 20000 in
theorem ggX7_prune_X7_leastAction : GoodIn wsX7_prune wsX7_leastAction := goodIn_r _ [16, 17, 18, 19, 3, 20, 21, 22, 23, 24, 25, 26, 27, 28, 29, 5, 6, 7, 30, 31, 32, 33, 34, 35, 36, 37, 38, 39, 40, 41, 1, 2, 4, 8, 9, 10, 11, 12, 46, 47, 48, 49, 50, 51, 52, 53, 54, 55] (by decide +kernel) (by decide +kernel)
set_option maxRecDepth 20000 in
theorem gX7_prune_X7_leastAction : GoodIn wsX7_prune (wsV RX7 52 RX7 yX7_leastAction wsX7_leastAction) := goodIn_app (goodIn_of _ (by decide +kernel)) ggX7_prune_X7_leastAction
set_option maxRecDepth 20000 in
theorem ggX7_prune_X7_mark : GoodIn wsX7_prune wsX7_mark := goodIn_r _ [45, 12, 46, 47, 48] (by decide +kernel) (by decide +kernel)
set_option maxRecDepth 20000 in
theorem gX7_prune_X7_mark : GoodIn wsX7_prune (wsV RX7 38 RX7 yX7_mark wsX7_mark) := goodIn_app (goodIn_of _ (by decide +kernel)) ggX7_prune_X7_mark
set_option maxRecDepth 20000 in
theorem ggX7_follow_X1_begin : GoodIn wsX7_follow wsX1_begin := goodIn_r _ [7, 8, 9, 10, 11, 12, 13, 14, 63, 64, 65, 66, 67] (by decide +kernel) (by decide +kernel)
set_option maxRecDepth 20000 in
theorem gX7_follow_X1_begin : GoodIn wsX7_follow (wsV RX7 55 RX1 yX1_begin wsX1_begin) := goodIn_app (goodIn_of _ (by decide +kernel)) ggX7_follow_X1_begin
set_option maxRecDepth 20000 in
theorem ggX7_follow_X7_leastAction : GoodIn wsX7_follow wsX7_leastAction := goodIn_r _ [19, 20, 21, 22, 18, 23, 2, 24, 25, 26, 27, 28, 29, 30, 31, 32, 33, 34, 35, 36, 37, 38, 39, 40, 41, 42, 43, 44, 45, 46, 47, 48, 49, 50, 51, 52, 53, 54, 68, 69, 70, 71, 72, 73, 74, 75, 76, 77] (by decide +kernel) (by decide +kernel)
set_option maxRecDepth 20000 in
theorem gX7_follow_X7_leastAction : GoodIn wsX7_follow (wsV RX7 52 RX7 yX7_leastAction wsX7_leastAction) := goodIn_app (goodIn_of _ (by decide +kernel)) ggX7_follow_X7_leastAction
set_option maxRecDepth 20000 in
theorem ggX7_follow_X4_next : GoodIn wsX7_follow wsX4_next := goodIn_r _ [28, 29, 30, 31, 32, 33, 34, 35, 36, 71, 72, 73, 74, 75, 76, 77] (by decide +kernel) (by decide +kernel)
set_option maxRecDepth 20000 in
theorem gX7_follow_X4_next : GoodIn wsX7_follow (wsV RX7 63 RX4 yX4_next wsX4_next) := goodIn_app (goodIn_of _ (by decide +kernel)) ggX7_follow_X4_next
set_option maxRecDepth 20000 in
theorem ggX7_follow_X4_ticks : GoodIn wsX7_follow wsX4_ticks := goodIn_r _ [40, 30, 41, 32, 33, 34, 35, 36, 71, 72, 73, 74, 75, 76, 77] (by decide +kernel) (by decide +kernel)
set_option maxRecDepth 20000 in
theorem gX7_follow_X4_ticks : GoodIn wsX7_follow (wsV RX7 68 RX4 yX4_ticks wsX4_ticks) := goodIn_app (goodIn_of _ (by decide +kernel)) ggX7_follow_X4_ticks
set_option maxRecDepth 20000 in
theorem ggX7_follow_X1_add : GoodIn wsX7_follow wsX1_add := goodIn_r _ [58, 8, 10, 59, 60, 61, 62, 9, 63, 64, 65, 66, 67] (by decide +kernel) (by decide +kernel)
set_option maxRecDepth 20000 in
theorem gX7_follow_X1_add : GoodIn wsX7_follow (wsV RX7 71 RX1 yX1_add wsX1_add) := goodIn_app (goodIn_of _ (by decide +kernel)) ggX7_follow_X1_add
set_option maxRecDepth 20000 in
theorem ggX7_freeFrom_X7_spot : GoodIn wsX7_freeFrom wsX7_spot := goodIn_r _ [5, 6, 7, 8] (by decide +kernel) (by decide +kernel)
set_option maxRecDepth 20000 in
theorem gX7_freeFrom_X7_spot : GoodIn wsX7_freeFrom (va_wsS RX7 34 yX7_spot wsX7_spot) := goodIn_app (goodIn_of _ (by decide +kernel)) ggX7_freeFrom_X7_spot
set_option maxRecDepth 20000 in
theorem ggX7_spread_X7_landing : GoodIn wsX7_spread wsX7_landing := goodIn_r _ [5, 6, 7, 8, 9, 10, 11, 12, 13, 14, 15, 16, 17, 18, 19, 20, 21, 22, 23, 24, 25, 26, 27, 4, 28, 29, 30, 31, 32, 38, 39, 40, 41, 42, 43, 44, 45, 46, 47] (by decide +kernel) (by decide +kernel)
set_option maxRecDepth 20000 in
theorem gX7_spread_X7_landing : GoodIn wsX7_spread (wsV RX7 75 RX7 yX7_landing wsX7_landing) := goodIn_app (goodIn_of _ (by decide +kernel)) ggX7_spread_X7_landing
set_option maxRecDepth 20000 in
theorem ggX7_spread_X7_mark : GoodIn wsX7_spread wsX7_mark := goodIn_r _ [36, 37, 38, 39, 40] (by decide +kernel) (by decide +kernel)
set_option maxRecDepth 20000 in
theorem gX7_spread_X7_mark : GoodIn wsX7_spread (wsV RX7 38 RX7 yX7_mark wsX7_mark) := goodIn_app (goodIn_of _ (by decide +kernel)) ggX7_spread_X7_mark
set_option maxRecDepth 20000 in
theorem ggX7_leastAction_X7_landing : GoodIn wsX7_leastAction wsX7_landing := goodIn_r _ [5, 6, 7, 8, 9, 10, 11, 12, 13, 14, 15, 16, 17, 18, 19, 20, 21, 22, 23, 24, 25, 26, 27, 4, 28, 29, 30, 31, 32, 38, 39, 40, 41, 42, 43, 44, 45, 46, 47] (by decide +kernel) (by decide +kernel)
set_option maxRecDepth 20000 in
theorem gX7_leastAction_X7_landing : GoodIn wsX7_leastAction (wsV RX7 75 RX7 yX7_landing wsX7_landing) := goodIn_app (goodIn_of _ (by decide +kernel)) ggX7_leastAction_X7_landing
set_option maxRecDepth 20000 in
theorem ggX7_leastAction_X7_isUsable : GoodIn wsX7_leastAction wsX7_isUsable := goodIn_r _ [36, 37, 38, 39, 40] (by decide +kernel) (by decide +kernel)
set_option maxRecDepth 20000 in
theorem gX7_leastAction_X7_isUsable : GoodIn wsX7_leastAction (wsV RX7 45 RX7 yX7_isUsable wsX7_isUsable) := goodIn_app (goodIn_of _ (by decide +kernel)) ggX7_leastAction_X7_isUsable
set_option maxRecDepth 20000 in
theorem ggX7_landing_X4_next : GoodIn wsX7_landing wsX4_next := goodIn_r _ [6, 7, 8, 9, 10, 11, 12, 13, 14, 32, 33, 34, 35, 36, 37, 38] (by decide +kernel) (by decide +kernel)
set_option maxRecDepth 20000 in
theorem gX7_landing_X4_next : GoodIn wsX7_landing (wsV RX7 63 RX4 yX4_next wsX4_next) := goodIn_app (goodIn_of _ (by decide +kernel)) ggX7_landing_X4_next
set_option maxRecDepth 20000 in
theorem ggX7_landing_X4_ticks : GoodIn wsX7_landing wsX4_ticks := goodIn_r _ [18, 8, 19, 10, 11, 12, 13, 14, 32, 33, 34, 35, 36, 37, 38] (by decide +kernel) (by decide +kernel)
set_option maxRecDepth 20000 in
theorem gX7_landing_X4_ticks : GoodIn wsX7_landing (wsV RX7 68 RX4 yX4_ticks wsX4_ticks) := goodIn_app (goodIn_of _ (by decide +kernel)) ggX7_landing_X4_ticks
set_option maxRecDepth 20000 in
theorem ggX7_landing_X7_canStep : GoodIn wsX7_landing wsX7_canStep := goodIn_r _ [24, 25, 10, 11, 12, 29, 30, 31] (by decide +kernel) (by decide +kernel)
set_option maxRecDepth 20000 in
theorem gX7_landing_X7_canStep : GoodIn wsX7_landing (wsV RX7 79 RX7 yX7_canStep wsX7_canStep) := goodIn_app (goodIn_of _ (by decide +kernel)) ggX7_landing_X7_canStep
set_option maxRecDepth 20000 in
theorem ggX7_landing_X7_spot : GoodIn wsX7_landing wsX7_spot := goodIn_r _ [28, 10, 11, 12] (by decide +kernel) (by decide +kernel)
set_option maxRecDepth 20000 in
theorem gX7_landing_X7_spot : GoodIn wsX7_landing (va_wsS RX7 34 yX7_spot wsX7_spot) := goodIn_app (goodIn_of _ (by decide +kernel)) ggX7_landing_X7_spot
set_option maxRecDepth 20000 in
theorem ggX7_canStep_X10_isCell : GoodIn wsX7_canStep wsX10_isCell := goodIn_r _ [4] (by decide +kernel) (by decide +kernel)
set_option maxRecDepth 20000 in
theorem gX7_canStep_X10_isCell_n83 : GoodIn wsX7_canStep (wsX10_isCell) := ggX7_canStep_X10_isCell
set_option maxRecDepth 20000 in
theorem ggX7_spot_X10_isCell : GoodIn wsX7_spot wsX10_isCell := goodIn_r _ [3] (by decide +kernel) (by decide +kernel)
set_option maxRecDepth 20000 in
theorem gX7_spot_X10_isCell_n83 : GoodIn wsX7_spot (wsX10_isCell) := ggX7_spot_X10_isCell
set_option maxRecDepth 20000 in
theorem ggX8_init_X5_init : GoodIn wsX8_init wsX5_init := goodIn_r _ [13, 14, 2, 3, 4, 15, 21, 22] (by decide +kernel) (by decide +kernel)
set_option maxRecDepth 20000 in
theorem gX8_init_X5_init_n20 : GoodIn wsX8_init (wsX5_init) := ggX8_init_X5_init
set_option maxRecDepth 20000 in
theorem ggX8_hasObstacleAt_X10_isCell : GoodIn wsX8_hasObstacleAt wsX10_isCell := goodIn_r _ [4] (by decide +kernel) (by decide +kernel)
set_option maxRecDepth 20000 in
theorem gX8_hasObstacleAt_X10_isCell_n28 : GoodIn wsX8_hasObstacleAt (wsX10_isCell) := ggX8_hasObstacleAt_X10_isCell
set_option maxRecDepth 20000 in
theorem ggX8_dronesAtSlots_X5_cellAt : GoodIn wsX8_dronesAtSlots wsX5_cellAt := goodIn_r _ [8, 9, 10, 11, 12, 7, 13, 14, 24, 25] (by decide +kernel) (by decide +kernel)
set_option maxRecDepth 20000 in
theorem gX8_dronesAtSlots_X5_cellAt : GoodIn wsX8_dronesAtSlots (wsV RX8 36 RX5 yX5_cellAt wsX5_cellAt) := goodIn_app (goodIn_of _ (by decide +kernel)) ggX8_dronesAtSlots_X5_cellAt
set_option maxRecDepth 20000 in
theorem ggX8_dronesAtSlots_X5_find : GoodIn wsX8_dronesAtSlots wsX5_find := goodIn_r _ [18, 14, 9, 24, 25] (by decide +kernel) (by decide +kernel)
set_option maxRecDepth 20000 in
theorem gX8_dronesAtSlots_X5_find : GoodIn wsX8_dronesAtSlots (wsV RX8 40 RX5 yX5_find wsX5_find) := goodIn_app (goodIn_of _ (by decide +kernel)) ggX8_dronesAtSlots_X5_find
set_option maxRecDepth 20000 in
theorem ggX8_copyFrom_X5_copyFrom : GoodIn wsX8_copyFrom wsX5_copyFrom := goodIn_r _ [14, 15, 16, 3, 4, 5, 17, 23, 24] (by decide +kernel) (by decide +kernel)
set_option maxRecDepth 20000 in
theorem gX8_copyFrom_X5_copyFrom : GoodIn wsX8_copyFrom (wsV RX8 49 RX5 yX5_copyFrom wsX5_copyFrom) := goodIn_app (goodIn_of _ (by decide +kernel)) ggX8_copyFrom_X5_copyFrom
set_option maxRecDepth 20000 in
theorem ggX9_measure_J7_fill_53178 : GoodIn wsX9_measure wsJ7_fill_53178 := goodIn_r _ [12] (by decide +kernel) (by decide +kernel)
set_option maxRecDepth 20000 in
theorem gX9_measure_J7_fill_53178 : GoodIn wsX9_measure (va_wsS RX9 19 yJ7_fill_53178 wsJ7_fill_53178) := goodIn_app (goodIn_of _ (by decide +kernel)) ggX9_measure_J7_fill_53178
set_option maxRecDepth 20000 in
theorem ggX9_measure_X10_isCell : GoodIn wsX9_measure wsX10_isCell := goodIn_r _ [15] (by decide +kernel) (by decide +kernel)
set_option maxRecDepth 20000 in
theorem gX9_measure_X10_isCell_n25 : GoodIn wsX9_measure (wsX10_isCell) := ggX9_measure_X10_isCell
set_option maxRecDepth 20000 in
theorem ggX9_measure_X9_spreadBack : GoodIn wsX9_measure wsX9_spreadBack := goodIn_r _ [20, 2, 1, 5, 6, 7, 8, 21, 22, 23, 24, 25, 26, 27, 28, 13, 14, 15, 29, 30, 31, 32, 33, 34, 35, 36, 37, 38, 39, 40, 41, 42, 43, 44] (by decide +kernel) (by decide +kernel)
set_option maxRecDepth 20000 in
theorem gX9_measure_X9_spreadBack : GoodIn wsX9_measure (wsV RX9 40 RX9 yX9_spreadBack wsX9_spreadBack) := goodIn_app (goodIn_of _ (by decide +kernel)) ggX9_measure_X9_spreadBack
set_option maxRecDepth 20000 in
theorem ggX9_timeFrom_X10_isCell : GoodIn wsX9_timeFrom wsX10_isCell := goodIn_r _ [4] (by decide +kernel) (by decide +kernel)
set_option maxRecDepth 20000 in
theorem gX9_timeFrom_X10_isCell_n25 : GoodIn wsX9_timeFrom (wsX10_isCell) := ggX9_timeFrom_X10_isCell
set_option maxRecDepth 20000 in
theorem ggX9_firstAction_X4_next : GoodIn wsX9_firstAction wsX4_next := goodIn_r _ [6, 7, 8, 9, 10, 11, 12, 13, 14, 28, 29, 30, 31, 32, 33, 34] (by decide +kernel) (by decide +kernel)
set_option maxRecDepth 20000 in
theorem gX9_firstAction_X4_next : GoodIn wsX9_firstAction (wsV RX9 49 RX4 yX4_next wsX4_next) := goodIn_app (goodIn_of _ (by decide +kernel)) ggX9_firstAction_X4_next
set_option maxRecDepth 20000 in
theorem ggX9_firstAction_X9_timeFrom : GoodIn wsX9_firstAction wsX9_timeFrom := goodIn_r _ [19, 20, 10, 11, 12, 26, 27] (by decide +kernel) (by decide +kernel)
set_option maxRecDepth 20000 in
theorem gX9_firstAction_X9_timeFrom : GoodIn wsX9_firstAction (wsV RX9 52 RX9 yX9_timeFrom wsX9_timeFrom) := goodIn_app (goodIn_of _ (by decide +kernel)) ggX9_firstAction_X9_timeFrom
set_option maxRecDepth 20000 in
theorem ggX9_firstAction_X4_ticks : GoodIn wsX9_firstAction wsX4_ticks := goodIn_r _ [24, 8, 25, 10, 11, 12, 13, 14, 28, 29, 30, 31, 32, 33, 34] (by decide +kernel) (by decide +kernel)
set_option maxRecDepth 20000 in
theorem gX9_firstAction_X4_ticks : GoodIn wsX9_firstAction (wsV RX9 56 RX4 yX4_ticks wsX4_ticks) := goodIn_app (goodIn_of _ (by decide +kernel)) ggX9_firstAction_X4_ticks
set_option maxRecDepth 20000 in
theorem ggX9_spreadBack_X4_next : GoodIn wsX9_spreadBack wsX4_next := goodIn_r _ [11, 12, 13, 14, 15, 16, 17, 18, 19, 27, 28, 29, 30, 31, 32, 33] (by decide +kernel) (by decide +kernel)
set_option maxRecDepth 20000 in
theorem gX9_spreadBack_X4_next : GoodIn wsX9_spreadBack (wsV RX9 49 RX4 yX4_next wsX4_next) := goodIn_app (goodIn_of _ (by decide +kernel)) ggX9_spreadBack_X4_next
set_option maxRecDepth 20000 in
theorem ggX9_spreadBack_X10_isCell : GoodIn wsX9_spreadBack wsX10_isCell := goodIn_r _ [17] (by decide +kernel) (by decide +kernel)
set_option maxRecDepth 20000 in
theorem gX9_spreadBack_X10_isCell_n25 : GoodIn wsX9_spreadBack (wsX10_isCell) := ggX9_spreadBack_X10_isCell
set_option maxRecDepth 20000 in
theorem ggX9_spreadBack_X4_ticks : GoodIn wsX9_spreadBack wsX4_ticks := goodIn_r _ [23, 13, 24, 15, 16, 17, 18, 19, 27, 28, 29, 30, 31, 32, 33] (by decide +kernel) (by decide +kernel)
set_option maxRecDepth 20000 in
theorem gX9_spreadBack_X4_ticks : GoodIn wsX9_spreadBack (wsV RX9 56 RX4 yX4_ticks wsX4_ticks) := goodIn_app (goodIn_of _ (by decide +kernel)) ggX9_spreadBack_X4_ticks
set_option maxRecDepth 20000 in
theorem ggX10_init_X8_init : GoodIn wsX10_init wsX8_init := goodIn_r _ [32, 33, 2, 3, 34, 35, 36, 37, 38, 39, 40, 41, 42, 43, 44, 45, 120, 121, 122, 123, 124, 163, 164] (by decide +kernel) (by decide +kernel)
set_option maxRecDepth 20000 in
theorem gX10_init_X8_init_n11 : GoodIn wsX10_init (wsX8_init) := ggX10_init_X8_init
set_option maxRecDepth 20000 in
theorem ggX10_init_X3_init : GoodIn wsX10_init wsX3_init := goodIn_r _ [48, 49, 2, 3, 50, 51, 5, 6, 31, 32, 33, 34, 35, 36, 37, 38, 39, 40, 41, 42, 43, 44, 45, 131, 132, 133, 120, 121, 122, 123, 124, 163, 164] (by decide +kernel) (by decide +kernel)
set_option maxRecDepth 20000 in
theorem gX10_init_X3_init : GoodIn wsX10_init (wsX3_init) := ggX10_init_X3_init
set_option maxRecDepth 20000 in
theorem ggX10_init_X2_init : GoodIn wsX10_init wsX2_init := goodIn_r _ [53, 54, 2, 3, 34, 55, 56, 38, 39, 57, 42, 43, 44, 45, 134, 135, 136, 137, 138, 163, 164] (by decide +kernel) (by decide +kernel)
set_option maxRecDepth 20000 in
theorem gX10_init_X2_init_n25 : GoodIn wsX10_init (wsX2_init) := ggX10_init_X2_init
set_option maxRecDepth 20000 in
theorem ggX10_init_X4_init : GoodIn wsX10_init wsX4_init := goodIn_r _ [60, 61, 2, 3, 34, 62, 63, 64, 65, 18, 66, 67, 68, 69, 70, 71, 139, 140] (by decide +kernel) (by decide +kernel)
set_option maxRecDepth 20000 in
theorem gX10_init_X4_init : GoodIn wsX10_init (wsX4_init) := ggX10_init_X4_init
set_option maxRecDepth 20000 in
theorem ggX10_init_X9_init : GoodIn wsX10_init wsX9_init := goodIn_r _ [74, 75, 2, 3, 34, 76, 77, 141, 142] (by decide +kernel) (by decide +kernel)
set_option maxRecDepth 20000 in
theorem gX10_init_X9_init : GoodIn wsX10_init (wsX9_init) := ggX10_init_X9_init
set_option maxRecDepth 20000 in
theorem ggX10_init_X0_init : GoodIn wsX10_init wsX0_init := goodIn_r _ [80, 81, 2, 3, 82, 83, 34, 84, 85, 86, 20, 21, 87, 73, 74, 75, 76, 77, 143, 144, 145, 146, 147, 148, 149, 150, 151, 141, 142] (by decide +kernel) (by decide +kernel)
set_option maxRecDepth 20000 in
theorem gX10_init_X0_init : GoodIn wsX10_init (wsX0_init) := ggX10_init_X0_init
set_option maxRecDepth 20000 in
theorem ggX10_init_X6_init : GoodIn wsX10_init wsX6_init := goodIn_r _ [90, 91, 2, 3, 92, 93, 94, 34, 95, 96, 97, 98, 99, 20, 21, 100, 101, 102, 103, 104, 105, 106, 107, 73, 74, 75, 76, 77, 108, 109, 110, 111, 112, 113, 114, 115, 116, 117, 118, 119, 152, 153, 154, 155, 156, 157, 158, 159, 160, 161, 162, 141, 142, 165, 166, 167, 168, 169, 170, 171, 172] (by decide +kernel) (by decide +kernel)
set_option maxRecDepth 20000 in
theorem gX10_init_X6_init : GoodIn wsX10_init (wsX6_init) := ggX10_init_X6_init
set_option maxRecDepth 20000 in
theorem ggX10_setWind_X10_isLayer : GoodIn wsX10_setWind wsX10_isLayer := goodIn_r _ [6] (by decide +kernel) (by decide +kernel)
set_option maxRecDepth 20000 in
theorem gX10_setWind_X10_isLayer : GoodIn wsX10_setWind (va_wsS RX10 60 yX10_isLayer wsX10_isLayer) := goodIn_app (goodIn_of _ (by decide +kernel)) ggX10_setWind_X10_isLayer
set_option maxRecDepth 20000 in
theorem ggX10_setWind_X10_isWind : GoodIn wsX10_setWind wsX10_isWind := goodIn_r _ [9] (by decide +kernel) (by decide +kernel)
set_option maxRecDepth 20000 in
theorem gX10_setWind_X10_isWind : GoodIn wsX10_setWind (va_wsS RX10 64 yX10_isWind wsX10_isWind) := goodIn_app (goodIn_of _ (by decide +kernel)) ggX10_setWind_X10_isWind
set_option maxRecDepth 20000 in
theorem ggX10_setWind_X10_beginChange : GoodIn wsX10_setWind wsX10_beginChange := goodIn_r _ [13, 14, 1, 15, 16, 17, 18, 19, 20, 21, 22, 23, 24, 25, 26, 27, 28, 29, 30, 31, 32, 33, 34, 35, 36, 37, 38, 39, 40, 41, 42, 43, 44, 45, 46, 47, 48, 49, 50, 51, 52, 53, 54, 55, 56, 57, 58, 59, 60, 61, 62, 63, 64, 65, 66, 72, 73, 74, 67, 68, 69, 70, 71, 75, 76, 77, 78, 79, 80, 81, 82, 83, 84, 85, 86, 87] (by decide +kernel) (by decide +kernel)
set_option maxRecDepth 20000 in
theorem gX10_setWind_X10_beginChange : GoodIn wsX10_setWind (wsV RX10 67 RX10 yX10_beginChange wsX10_beginChange) := goodIn_app (goodIn_of _ (by decide +kernel)) ggX10_setWind_X10_beginChange
set_option maxRecDepth 20000 in
theorem ggX10_setObstacle_X10_isCell : GoodIn wsX10_setObstacle wsX10_isCell := goodIn_r _ [8] (by decide +kernel) (by decide +kernel)
set_option maxRecDepth 20000 in
theorem gX10_setObstacle_X10_isCell : GoodIn wsX10_setObstacle (va_wsS RX10 74 yX10_isCell wsX10_isCell) := goodIn_app (goodIn_of _ (by decide +kernel)) ggX10_setObstacle_X10_isCell
set_option maxRecDepth 20000 in
theorem ggX10_setObstacle_X5_find : GoodIn wsX10_setObstacle wsX5_find := goodIn_r _ [13, 14, 15, 75, 76] (by decide +kernel) (by decide +kernel)
set_option maxRecDepth 20000 in
theorem gX10_setObstacle_X5_find : GoodIn wsX10_setObstacle (wsV RX10 81 RX5 yX5_find wsX5_find) := goodIn_app (goodIn_of _ (by decide +kernel)) ggX10_setObstacle_X5_find
set_option maxRecDepth 20000 in
theorem ggX10_setObstacle_X10_beginChange : GoodIn wsX10_setObstacle wsX10_beginChange := goodIn_r _ [19, 20, 1, 21, 22, 23, 24, 25, 26, 27, 28, 29, 30, 31, 32, 33, 34, 35, 36, 37, 38, 39, 40, 41, 42, 43, 44, 45, 46, 47, 48, 49, 50, 51, 52, 53, 54, 12, 55, 15, 56, 14, 57, 58, 59, 60, 61, 62, 63, 64, 65, 66, 67, 68, 69, 77, 78, 79, 70, 71, 72, 73, 74, 75, 76, 80, 81, 82, 83, 84, 85, 86, 87, 88, 89, 90] (by decide +kernel) (by decide +kernel)
set_option maxRecDepth 20000 in
theorem gX10_setObstacle_X10_beginChange : GoodIn wsX10_setObstacle (wsV RX10 67 RX10 yX10_beginChange wsX10_beginChange) := goodIn_app (goodIn_of _ (by decide +kernel)) ggX10_setObstacle_X10_beginChange
set_option maxRecDepth 20000 in
theorem ggX10_addDrone_X10_addPlace : GoodIn wsX10_addDrone wsX10_addPlace := goodIn_r _ [7, 8, 1, 9, 10, 11, 6, 12, 13, 14, 15, 16, 17, 18, 19, 20, 21, 22, 23, 24, 25, 26, 27, 28, 29, 30, 31, 32, 33, 34, 35, 36, 37, 38, 39, 40, 41, 42, 43, 44, 45, 46, 47, 48, 49, 50, 51, 52, 53, 54, 55, 56, 57, 58, 59, 60, 61, 62, 63, 64, 65, 66, 67, 68, 69, 70, 71, 83, 84, 72, 73, 74, 75, 76, 77, 78, 79, 80, 81, 82, 85, 86, 87, 88, 89, 90, 91, 92, 93, 94, 95, 96, 97, 98] (by decide +kernel) (by decide +kernel)
set_option maxRecDepth 20000 in
theorem gX10_addDrone_X10_addPlace : GoodIn wsX10_addDrone (wsV RX10 93 RX10 yX10_addPlace wsX10_addPlace) := goodIn_app (goodIn_of _ (by decide +kernel)) ggX10_addDrone_X10_addPlace
set_option maxRecDepth 20000 in
theorem ggX10_removeDrone_X10_beginChange : GoodIn wsX10_removeDrone wsX10_beginChange := goodIn_r _ [8, 9, 1, 10, 11, 12, 13, 14, 15, 16, 17, 18, 19, 20, 21, 22, 23, 24, 25, 26, 27, 28, 29, 30, 31, 32, 33, 34, 35, 36, 37, 38, 39, 40, 41, 42, 43, 44, 45, 46, 47, 48, 49, 50, 51, 52, 53, 54, 55, 64, 65, 66, 67, 68, 69, 77, 78, 79, 70, 71, 72, 73, 74, 75, 76, 80, 81, 82, 83, 84, 85, 86, 87, 88, 89, 90] (by decide +kernel) (by decide +kernel)
set_option maxRecDepth 20000 in
theorem gX10_removeDrone_X10_beginChange : GoodIn wsX10_removeDrone (wsV RX10 67 RX10 yX10_beginChange wsX10_beginChange) := goodIn_app (goodIn_of _ (by decide +kernel)) ggX10_removeDrone_X10_beginChange
set_option maxRecDepth 20000 in
theorem ggX10_removeDrone_X5_remove : GoodIn wsX10_removeDrone wsX5_remove := goodIn_r _ [59, 48, 46, 60, 61, 62, 44, 63, 75, 76] (by decide +kernel) (by decide +kernel)
set_option maxRecDepth 20000 in
theorem gX10_removeDrone_X5_remove : GoodIn wsX10_removeDrone (wsV RX10 97 RX5 yX5_remove wsX5_remove) := goodIn_app (goodIn_of _ (by decide +kernel)) ggX10_removeDrone_X5_remove
set_option maxRecDepth 20000 in
theorem ggX10_addSlot_X10_addPlace : GoodIn wsX10_addSlot wsX10_addPlace := goodIn_r _ [7, 8, 1, 9, 10, 11, 6, 12, 13, 14, 15, 16, 17, 18, 19, 20, 21, 22, 23, 24, 25, 26, 27, 28, 29, 30, 31, 32, 33, 34, 35, 36, 37, 38, 39, 40, 41, 42, 43, 44, 45, 46, 47, 48, 49, 50, 51, 52, 53, 54, 55, 56, 57, 58, 59, 60, 61, 62, 63, 64, 65, 66, 67, 68, 69, 70, 71, 83, 84, 72, 73, 74, 75, 76, 77, 78, 79, 80, 81, 82, 85, 86, 87, 88, 89, 90, 91, 92, 93, 94, 95, 96, 97, 98] (by decide +kernel) (by decide +kernel)
set_option maxRecDepth 20000 in
theorem gX10_addSlot_X10_addPlace : GoodIn wsX10_addSlot (wsV RX10 93 RX10 yX10_addPlace wsX10_addPlace) := goodIn_app (goodIn_of _ (by decide +kernel)) ggX10_addSlot_X10_addPlace
set_option maxRecDepth 20000 in
theorem ggX10_clearSlots_X10_beginChange : GoodIn wsX10_clearSlots wsX10_beginChange := goodIn_r _ [8, 9, 1, 10, 11, 12, 13, 14, 15, 16, 17, 18, 19, 20, 21, 22, 23, 24, 25, 26, 27, 28, 29, 30, 31, 32, 33, 34, 35, 36, 37, 38, 39, 40, 41, 42, 43, 44, 45, 46, 47, 48, 49, 50, 51, 52, 53, 54, 55, 60, 61, 62, 63, 64, 65, 73, 74, 75, 66, 67, 68, 69, 70, 71, 72, 76, 77, 78, 79, 80, 81, 82, 83, 84, 85, 86] (by decide +kernel) (by decide +kernel)
set_option maxRecDepth 20000 in
theorem gX10_clearSlots_X10_beginChange : GoodIn wsX10_clearSlots (wsV RX10 67 RX10 yX10_beginChange wsX10_beginChange) := goodIn_app (goodIn_of _ (by decide +kernel)) ggX10_clearSlots_X10_beginChange
set_option maxRecDepth 20000 in
theorem ggX10_clearSlots_X5_clear : GoodIn wsX10_clearSlots wsX5_clear := goodIn_r _ [59, 48, 71, 72] (by decide +kernel) (by decide +kernel)
set_option maxRecDepth 20000 in
theorem gX10_clearSlots_X5_clear : GoodIn wsX10_clearSlots (wsV RX10 104 RX5 yX5_clear wsX5_clear) := goodIn_app (goodIn_of _ (by decide +kernel)) ggX10_clearSlots_X5_clear
set_option maxRecDepth 20000 in
theorem ggX10_append_X2_lengthen : GoodIn wsX10_append wsX2_lengthen := goodIn_r _ [7, 8, 9, 16, 17, 18, 19, 20] (by decide +kernel) (by decide +kernel)
set_option maxRecDepth 20000 in
theorem gX10_append_X2_lengthen : GoodIn wsX10_append (wsV RX10 107 RX2 yX2_lengthen wsX2_lengthen) := goodIn_app (goodIn_of _ (by decide +kernel)) ggX10_append_X2_lengthen
set_option maxRecDepth 20000 in
theorem ggX10_readSlots_X2_read : GoodIn wsX10_readSlots wsX2_read := goodIn_r _ [10, 11, 12, 13, 14, 15, 16, 17, 18, 19, 20, 21, 22, 23, 9, 24, 25, 26, 27, 28, 29, 30, 31, 32, 33, 34, 35, 36, 37, 38, 39, 40, 41, 42, 43, 44, 45, 46, 122, 123, 124, 125, 126, 132, 133] (by decide +kernel) (by decide +kernel)
set_option maxRecDepth 20000 in
theorem gX10_readSlots_X2_read : GoodIn wsX10_readSlots (wsV RX10 114 RX2 yX2_read wsX2_read) := goodIn_app (goodIn_of _ (by decide +kernel)) ggX10_readSlots_X2_read
set_option maxRecDepth 20000 in
theorem ggX10_readSlots_X10_hasObstacle : GoodIn wsX10_readSlots wsX10_hasObstacle := goodIn_r _ [51, 52, 4, 53, 54, 55, 18, 56, 42, 57, 58, 59, 60, 20, 61, 62, 63, 64, 65, 66, 67, 50, 68, 132, 133, 116, 117, 118, 119, 120, 121, 127, 128, 129, 130, 131] (by decide +kernel) (by decide +kernel)
set_option maxRecDepth 20000 in
theorem gX10_readSlots_X10_hasObstacle : GoodIn wsX10_readSlots (wsV RX10 125 RX10 yX10_hasObstacle wsX10_hasObstacle) := goodIn_app (goodIn_of _ (by decide +kernel)) ggX10_readSlots_X10_hasObstacle
set_option maxRecDepth 20000 in
theorem ggX10_readSlots_X10_beginChange : GoodIn wsX10_readSlots wsX10_beginChange := goodIn_r _ [72, 73, 4, 74, 75, 76, 77, 78, 79, 80, 81, 82, 83, 84, 85, 86, 87, 88, 89, 90, 91, 92, 93, 64, 94, 95, 96, 97, 98, 99, 66, 100, 101, 102, 103, 104, 105, 18, 106, 42, 107, 20, 108, 109, 110, 111, 112, 113, 114, 116, 117, 118, 119, 120, 121, 134, 135, 136, 127, 128, 129, 130, 131, 132, 133, 137, 138, 139, 140, 141, 142, 143, 144, 145, 146, 147] (by decide +kernel) (by decide +kernel)
set_option maxRecDepth 20000 in
theorem gX10_readSlots_X10_beginChange : GoodIn wsX10_readSlots (wsV RX10 67 RX10 yX10_beginChange wsX10_beginChange) := goodIn_app (goodIn_of _ (by decide +kernel)) ggX10_readSlots_X10_beginChange
set_option maxRecDepth 20000 in
theorem ggX10_readSlots_X5_copyFrom : GoodIn wsX10_readSlots wsX5_copyFrom := goodIn_r _ [106, 42, 107, 97, 98, 99, 20, 132, 133] (by decide +kernel) (by decide +kernel)
set_option maxRecDepth 20000 in
theorem gX10_readSlots_X5_copyFrom : GoodIn wsX10_readSlots (wsV RX10 129 RX5 yX5_copyFrom wsX5_copyFrom) := goodIn_app (goodIn_of _ (by decide +kernel)) ggX10_readSlots_X5_copyFrom
set_option maxRecDepth 20000 in
theorem ggX10_flightTime_X10_isCell : GoodIn wsX10_flightTime wsX10_isCell := goodIn_r _ [5] (by decide +kernel) (by decide +kernel)
set_option maxRecDepth 20000 in
theorem gX10_flightTime_X10_isCell : GoodIn wsX10_flightTime (va_wsS RX10 74 yX10_isCell wsX10_isCell) := goodIn_app (goodIn_of _ (by decide +kernel)) ggX10_flightTime_X10_isCell
set_option maxRecDepth 20000 in
theorem ggX10_flightTime_X9_measure : GoodIn wsX10_flightTime wsX9_measure := goodIn_r _ [10, 11, 12, 13, 14, 15, 16, 17, 18, 19, 20, 21, 22, 3, 4, 5, 23, 24, 25, 9, 26, 27, 28, 29, 30, 31, 32, 33, 34, 35, 36, 37, 38, 39, 40, 41, 52, 53, 54, 55, 56, 57, 58, 59, 60] (by decide +kernel) (by decide +kernel)
set_option maxRecDepth 20000 in
theorem gX10_flightTime_X9_measure : GoodIn wsX10_flightTime (wsV RX10 133 RX9 yX9_measure wsX9_measure) := goodIn_app (goodIn_of _ (by decide +kernel)) ggX10_flightTime_X9_measure
set_option maxRecDepth 20000 in
theorem ggX10_flightTime_X9_timeFrom : GoodIn wsX10_flightTime wsX9_timeFrom := goodIn_r _ [45, 11, 3, 4, 5, 52, 53] (by decide +kernel) (by decide +kernel)
set_option maxRecDepth 20000 in
theorem gX10_flightTime_X9_timeFrom : GoodIn wsX10_flightTime (wsV RX10 137 RX9 yX9_timeFrom wsX9_timeFrom) := goodIn_app (goodIn_of _ (by decide +kernel)) ggX10_flightTime_X9_timeFrom
set_option maxRecDepth 20000 in
theorem ggX10_assigned_X5_has : GoodIn wsX10_assigned wsX5_has := goodIn_r _ [8, 9, 119, 120] (by decide +kernel) (by decide +kernel)
set_option maxRecDepth 20000 in
theorem gX10_assigned_X5_has : GoodIn wsX10_assigned (wsV RX10 140 RX5 yX5_has wsX5_has) := goodIn_app (goodIn_of _ (by decide +kernel)) ggX10_assigned_X5_has
set_option maxRecDepth 20000 in
theorem ggX10_assigned_X0_assign : GoodIn wsX10_assigned wsX0_assign := goodIn_r _ [14, 15, 16, 17, 18, 19, 20, 21, 22, 23, 24, 25, 26, 27, 28, 29, 7, 30, 31, 32, 5, 6, 8, 9, 33, 34, 35, 36, 37, 38, 39, 40, 41, 42, 43, 44, 45, 46, 47, 48, 49, 50, 51, 52, 53, 54, 55, 56, 57, 58, 59, 60, 61, 62, 63, 64, 65, 66, 67, 68, 69, 70, 71, 72, 73, 13, 74, 75, 76, 77, 78, 79, 80, 81, 82, 83, 84, 85, 86, 87, 88, 89, 90, 91, 92, 93, 94, 95, 96, 97, 98, 99, 100, 101, 102, 103, 121, 122, 123, 124, 125, 126, 127, 128, 129, 114, 115, 116, 117, 118, 119, 120, 130, 131, 132, 133] (by decide +kernel) (by decide +kernel)
set_option maxRecDepth 20000 in
theorem gX10_assigned_X0_assign : GoodIn wsX10_assigned (wsV RX10 143 RX0 yX0_assign wsX0_assign) := goodIn_app (goodIn_of _ (by decide +kernel)) ggX10_assigned_X0_assign
set_option maxRecDepth 20000 in
theorem ggX10_assigned_X0_slotOf : GoodIn wsX10_assigned wsX0_slotOf := goodIn_r _ [107, 91, 121, 122, 123, 124, 125, 126, 127, 128, 129] (by decide +kernel) (by decide +kernel)
set_option maxRecDepth 20000 in
theorem gX10_assigned_X0_slotOf : GoodIn wsX10_assigned (wsV RX10 146 RX0 yX0_slotOf wsX0_slotOf) := goodIn_app (goodIn_of _ (by decide +kernel)) ggX10_assigned_X0_slotOf
set_option maxRecDepth 20000 in
theorem ggX10_assignment_X0_assign : GoodIn wsX10_assignment wsX0_assign := goodIn_r _ [10, 11, 12, 13, 14, 15, 16, 17, 18, 19, 20, 21, 22, 23, 24, 25, 26, 27, 28, 29, 30, 31, 32, 33, 34, 35, 36, 37, 38, 39, 40, 41, 42, 43, 44, 45, 46, 47, 48, 49, 50, 51, 52, 53, 54, 55, 56, 57, 58, 59, 60, 61, 62, 63, 64, 65, 66, 67, 68, 69, 70, 71, 72, 73, 74, 9, 75, 76, 77, 78, 79, 80, 81, 82, 83, 84, 85, 86, 87, 88, 89, 90, 91, 92, 93, 94, 95, 96, 97, 98, 99, 100, 101, 102, 103, 104, 111, 112, 113, 114, 115, 116, 117, 118, 119, 120, 121, 122, 123, 124, 125, 126, 127, 128, 129, 130] (by decide +kernel) (by decide +kernel)
set_option maxRecDepth 20000 in
theorem gX10_assignment_X0_assign : GoodIn wsX10_assignment (wsV RX10 143 RX0 yX0_assign wsX0_assign) := goodIn_app (goodIn_of _ (by decide +kernel)) ggX10_assignment_X0_assign
set_option maxRecDepth 20000 in
theorem ggX10_plan_X0_assign : GoodIn wsX10_plan wsX0_assign := goodIn_r _ [7, 8, 9, 10, 11, 12, 13, 14, 15, 16, 17, 18, 19, 20, 21, 22, 23, 24, 25, 26, 27, 28, 29, 30, 31, 32, 33, 34, 35, 36, 37, 38, 39, 40, 41, 42, 43, 44, 45, 46, 47, 48, 49, 50, 51, 52, 53, 54, 55, 56, 57, 58, 59, 60, 61, 62, 63, 64, 65, 66, 67, 68, 69, 70, 71, 6, 72, 73, 74, 75, 76, 77, 78, 79, 80, 81, 82, 83, 84, 85, 86, 87, 88, 89, 90, 91, 92, 93, 94, 95, 96, 97, 98, 99, 100, 101, 232, 233, 234, 235, 236, 237, 238, 239, 240, 241, 242, 243, 244, 245, 246, 247, 248, 249, 250, 251] (by decide +kernel) (by decide +kernel)
set_option maxRecDepth 20000 in
theorem gX10_plan_X0_assign : GoodIn wsX10_plan (wsV RX10 143 RX0 yX0_assign wsX0_assign) := goodIn_app (goodIn_of _ (by decide +kernel)) ggX10_plan_X0_assign
set_option maxRecDepth 20000 in
theorem ggX10_plan_X6_make : GoodIn wsX10_plan wsX6_make := goodIn_r _ [106, 107, 108, 109, 13, 14, 15, 110, 111, 112, 113, 114, 115, 116, 41, 42, 117, 118, 119, 120, 105, 121, 122, 123, 124, 125, 126, 127, 128, 129, 130, 6, 131, 132, 133, 134, 135, 89, 77, 78, 79, 80, 18, 8, 9, 20, 21, 22, 23, 24, 25, 26, 27, 28, 29, 30, 81, 82, 83, 34, 84, 36, 47, 48, 49, 136, 137, 138, 139, 140, 141, 142, 143, 144, 145, 146, 147, 148, 44, 45, 46, 149, 150, 151, 152, 153, 154, 155, 156, 157, 158, 159, 160, 161, 162, 163, 164, 165, 166, 167, 168, 169, 170, 171, 172, 173, 174, 175, 176, 177, 178, 179, 180, 181, 182, 183, 184, 55, 56, 57, 58, 59, 60, 61, 62, 63, 185, 65, 66, 67, 68, 186, 187, 188, 189, 190, 191, 192, 193, 194, 195, 196, 197, 198, 199, 200, 201, 202, 203, 204, 205, 206, 207, 208, 209, 210, 211, 212, 213, 214, 215, 216, 217, 218, 219, 220, 221, 222, 223, 224, 225, 252, 253, 254, 255, 256, 257, 258, 259, 260, 261, 262, 232, 233, 234, 235, 236, 237, 238, 239, 240, 241, 242, 243, 244, 245, 263, 264, 265, 266, 267, 246, 247, 248, 249, 268, 269, 270, 250, 251] (by decide +kernel) (by decide +kernel)
set_option maxRecDepth 20000 in
theorem gX10_plan_X6_make : GoodIn wsX10_plan (wsV RX10 161 RX6 yX6_make wsX6_make) := goodIn_app (goodIn_of _ (by decide +kernel)) ggX10_plan_X6_make
set_option maxRecDepth 20000 in
theorem ggX10_at_X10_planError : GoodIn wsX10_at wsX10_planError := goodIn_r _ [6, 7, 8, 1, 9, 10, 11, 12, 13, 14, 15, 42, 43, 44, 45, 46, 47, 48, 49, 50, 51, 52, 53, 54, 55, 56, 57, 58, 59, 60, 61, 62, 63, 64, 65] (by decide +kernel) (by decide +kernel)
set_option maxRecDepth 20000 in
theorem gX10_at_X10_planError : GoodIn wsX10_at (wsV RX10 168 RX10 yX10_planError wsX10_planError) := goodIn_app (goodIn_of _ (by decide +kernel)) ggX10_at_X10_planError
set_option maxRecDepth 20000 in
theorem ggX10_at_X6_cellOfDrone : GoodIn wsX10_at wsX6_cellOfDrone := goodIn_r _ [20, 21, 22, 23, 24, 19, 25, 26, 27, 28, 29, 30, 31, 32, 33, 34, 35, 36, 37, 38, 39, 40, 41, 53, 54, 55, 56, 57, 58, 59, 60, 61, 62, 63, 66, 67, 68, 69, 70] (by decide +kernel) (by decide +kernel)
set_option maxRecDepth 20000 in
theorem gX10_at_X6_cellOfDrone : GoodIn wsX10_at (wsV RX10 172 RX6 yX6_cellOfDrone wsX6_cellOfDrone) := goodIn_app (goodIn_of _ (by decide +kernel)) ggX10_at_X6_cellOfDrone
set_option maxRecDepth 20000 in
theorem ggX10_action_X10_planError : GoodIn wsX10_action wsX10_planError := goodIn_r _ [6, 7, 8, 1, 9, 10, 11, 12, 13, 14, 15, 41, 42, 43, 44, 45, 46, 47, 48, 49, 50, 51, 52, 53, 54, 55, 56, 57, 58, 59, 60, 61, 62, 63, 64] (by decide +kernel) (by decide +kernel)
set_option maxRecDepth 20000 in
theorem gX10_action_X10_planError : GoodIn wsX10_action (wsV RX10 168 RX10 yX10_planError wsX10_planError) := goodIn_app (goodIn_of _ (by decide +kernel)) ggX10_action_X10_planError
set_option maxRecDepth 20000 in
theorem ggX10_action_X6_actionOfDrone : GoodIn wsX10_action wsX6_actionOfDrone := goodIn_r _ [20, 21, 22, 23, 24, 19, 25, 26, 27, 28, 29, 30, 31, 32, 33, 34, 35, 36, 37, 38, 39, 40, 52, 53, 54, 55, 56, 57, 58, 59, 60, 61, 62, 65, 66, 67, 68, 69] (by decide +kernel) (by decide +kernel)
set_option maxRecDepth 20000 in
theorem gX10_action_X6_actionOfDrone : GoodIn wsX10_action (wsV RX10 176 RX6 yX6_actionOfDrone wsX6_actionOfDrone) := goodIn_app (goodIn_of _ (by decide +kernel)) ggX10_action_X6_actionOfDrone
set_option maxRecDepth 20000 in
theorem ggX10_flight_X10_planError : GoodIn wsX10_flight wsX10_planError := goodIn_r _ [6, 7, 8, 1, 9, 10, 11, 12, 13, 14, 15, 113, 114, 115, 116, 117, 118, 119, 120, 121, 122, 123, 124, 125, 126, 127, 128, 129, 130, 131, 132, 133, 134, 135, 136] (by decide +kernel) (by decide +kernel)
set_option maxRecDepth 20000 in
theorem gX10_flight_X10_planError : GoodIn wsX10_flight (wsV RX10 168 RX10 yX10_planError wsX10_planError) := goodIn_app (goodIn_of _ (by decide +kernel)) ggX10_flight_X10_planError
set_option maxRecDepth 20000 in
theorem ggX10_flight_X6_ticksLeft : GoodIn wsX10_flight wsX6_ticksLeft := goodIn_r _ [20, 21, 22, 23, 24, 25, 26, 27, 28, 29, 19, 30, 31, 32, 33, 34, 137, 138, 139, 140, 141, 124, 125, 126, 127, 128, 129, 130, 131, 132, 133, 134] (by decide +kernel) (by decide +kernel)
set_option maxRecDepth 20000 in
theorem gX10_flight_X6_ticksLeft : GoodIn wsX10_flight (wsV RX10 179 RX6 yX6_ticksLeft wsX6_ticksLeft) := goodIn_app (goodIn_of _ (by decide +kernel)) ggX10_flight_X6_ticksLeft
set_option maxRecDepth 20000 in
theorem ggX10_flight_X6_waitsLeft : GoodIn wsX10_flight wsX6_waitsLeft := goodIn_r _ [38, 22, 21, 27, 28, 29, 19, 30, 31, 32, 33, 25, 34, 23, 24, 26, 39, 40, 41, 42, 43, 44, 45, 124, 125, 126, 127, 128, 129, 130, 131, 132, 133, 134, 137, 138, 139, 140, 141] (by decide +kernel) (by decide +kernel)
set_option maxRecDepth 20000 in
theorem gX10_flight_X6_waitsLeft : GoodIn wsX10_flight (wsV RX10 182 RX6 yX6_waitsLeft wsX6_waitsLeft) := goodIn_app (goodIn_of _ (by decide +kernel)) ggX10_flight_X6_waitsLeft
set_option maxRecDepth 20000 in
theorem ggX10_flight_X6_timeWithoutOthers : GoodIn wsX10_flight wsX6_timeWithoutOthers := goodIn_r _ [49, 50, 51, 52, 53, 54, 55, 19, 56, 57, 58, 27, 28, 29, 30, 31, 32, 33, 25, 34, 23, 24, 26, 59, 60, 61, 13, 62, 63, 64, 11, 12, 14, 15, 65, 66, 67, 68, 69, 70, 71, 72, 73, 74, 75, 76, 77, 78, 79, 5, 80, 81, 82, 83, 84, 85, 86, 87, 88, 89, 90, 91, 92, 93, 94, 95, 96, 97, 98, 99, 100, 101, 102, 103, 124, 125, 126, 127, 128, 129, 130, 131, 132, 133, 134, 119, 120, 121, 122, 123, 137, 138, 139, 140, 141, 135, 136, 142, 143, 144, 145] (by decide +kernel) (by decide +kernel)
set_option maxRecDepth 20000 in
theorem gX10_flight_X6_timeWithoutOthers : GoodIn wsX10_flight (wsV RX10 185 RX6 yX6_timeWithoutOthers wsX6_timeWithoutOthers) := goodIn_app (goodIn_of _ (by decide +kernel)) ggX10_flight_X6_timeWithoutOthers
set_option maxRecDepth 20000 in
theorem ggX10_flight_X6_positionOf : GoodIn wsX10_flight wsX6_positionOf := goodIn_r _ [107, 108, 27, 28, 29, 19, 30, 31, 32, 33, 25, 34, 23, 24, 26, 137, 138, 139, 140, 141, 124, 125, 126, 127, 128, 129, 130, 131, 132, 133, 134] (by decide +kernel) (by decide +kernel)
set_option maxRecDepth 20000 in
theorem gX10_flight_X6_positionOf : GoodIn wsX10_flight (wsV RX10 188 RX6 yX6_positionOf wsX6_positionOf) := goodIn_app (goodIn_of _ (by decide +kernel)) ggX10_flight_X6_positionOf
set_option maxRecDepth 20000 in
theorem ggX10_flight_X6_slotOf : GoodIn wsX10_flight wsX6_slotOf := goodIn_r _ [112, 58, 27, 28, 29, 19, 30, 31, 32, 33, 25, 34, 23, 24, 26, 137, 138, 139, 140, 141, 124, 125, 126, 127, 128, 129, 130, 131, 132, 133, 134] (by decide +kernel) (by decide +kernel)
set_option maxRecDepth 20000 in
theorem gX10_flight_X6_slotOf : GoodIn wsX10_flight (wsV RX10 191 RX6 yX6_slotOf wsX6_slotOf) := goodIn_app (goodIn_of _ (by decide +kernel)) ggX10_flight_X6_slotOf
set_option maxRecDepth 20000 in
theorem ggX10_explain_X10_planError : GoodIn wsX10_explain wsX10_planError := goodIn_r _ [6, 7, 8, 1, 9, 10, 11, 12, 13, 14, 15, 115, 116, 117, 118, 119, 120, 121, 122, 123, 124, 125, 126, 127, 128, 129, 130, 131, 132, 133, 134, 135, 136, 137, 138] (by decide +kernel) (by decide +kernel)
set_option maxRecDepth 20000 in
theorem gX10_explain_X10_planError : GoodIn wsX10_explain (wsV RX10 168 RX10 yX10_planError wsX10_planError) := goodIn_app (goodIn_of _ (by decide +kernel)) ggX10_explain_X10_planError
set_option maxRecDepth 20000 in
theorem ggX10_explain_X6_hinderer : GoodIn wsX10_explain wsX6_hinderer := goodIn_r _ [20, 21, 22, 23, 24, 25, 26, 27, 28, 29, 19, 30, 31, 32, 33, 34, 35, 36, 37, 38, 39, 40, 41, 42, 43, 44, 45, 46, 47, 48, 49, 50, 51, 52, 53, 54, 13, 55, 56, 57, 11, 12, 14, 15, 58, 59, 60, 61, 62, 63, 64, 65, 66, 67, 68, 69, 70, 71, 72, 5, 73, 74, 75, 76, 77, 78, 79, 80, 81, 82, 83, 84, 85, 86, 87, 88, 89, 90, 91, 92, 93, 94, 95, 96, 97, 98, 99, 100, 101, 102, 103, 104, 105, 106, 107, 108, 109, 110, 111, 112, 113, 114, 126, 127, 128, 129, 130, 131, 132, 133, 134, 135, 136, 139, 140, 141, 142, 143, 121, 122, 123, 124, 125, 137, 138, 144, 145, 146, 147] (by decide +kernel) (by decide +kernel)
set_option maxRecDepth 20000 in
theorem gX10_explain_X6_hinderer : GoodIn wsX10_explain (wsV RX10 192 RX6 yX6_hinderer wsX6_hinderer) := goodIn_app (goodIn_of _ (by decide +kernel)) ggX10_explain_X6_hinderer
set_option maxRecDepth 20000 in
theorem ggX10_conflictsWithout_X6_pairsInConflict : GoodIn wsX10_conflictsWithout wsX6_pairsInConflict := goodIn_r _ [7, 8, 9, 10, 11, 12, 6, 13, 14, 15, 16, 17, 18, 19, 20, 21, 22, 23, 24, 25, 26, 27, 28, 29, 30, 31, 32, 33, 34, 35, 36, 37, 38, 39, 40, 41, 42, 43, 44, 45, 46, 47, 48, 49, 50, 51, 52, 53, 54, 55, 56, 57, 58, 59, 60, 61, 62, 63, 64, 65, 66, 67, 68, 69, 70, 71, 72, 73, 74, 75, 76, 77, 78, 79, 80, 81, 82, 83, 84, 85, 86, 87, 88, 89, 90, 91, 92, 93, 94, 95, 96, 97, 98, 99, 100, 101, 102, 103, 104, 105, 106, 107, 108, 109, 110, 111, 112, 113, 114, 115, 122, 123, 124, 125, 126, 127, 128, 129, 130, 131, 132, 133, 134, 135, 136, 137, 138, 139, 140, 141, 142, 143, 144, 145, 146, 147, 148] (by decide +kernel) (by decide +kernel)
set_option maxRecDepth 20000 in
theorem gX10_conflictsWithout_X6_pairsInConflict : GoodIn wsX10_conflictsWithout (wsV RX10 198 RX6 yX6_pairsInConflict wsX6_pairsInConflict) := goodIn_app (goodIn_of _ (by decide +kernel)) ggX10_conflictsWithout_X6_pairsInConflict
set_option maxRecDepth 20000 in
theorem ggX10_fly_X3_keep : GoodIn wsX10_fly wsX3_keep := goodIn_r _ [10, 11, 12, 13, 14, 15, 16, 17, 18, 19, 20, 21, 22, 23, 24, 25, 26, 27, 28, 29, 30, 31, 32, 33, 34, 35, 36, 37, 38, 39, 40, 41, 42, 43, 109, 110, 111, 104, 105, 106, 107, 108, 112, 113] (by decide +kernel) (by decide +kernel)
set_option maxRecDepth 20000 in
theorem gX10_fly_X3_keep : GoodIn wsX10_fly (wsV RX10 201 RX3 yX3_keep wsX3_keep) := goodIn_app (goodIn_of _ (by decide +kernel)) ggX10_fly_X3_keep
set_option maxRecDepth 20000 in
theorem ggX10_fly_X6_advance : GoodIn wsX10_fly wsX6_advance := goodIn_r _ [48, 49, 50, 15, 16, 17, 51, 52, 53, 54, 55, 56, 47, 57, 58, 59, 60, 61, 62, 63, 64, 65, 66, 67, 68, 69, 70, 71, 72, 73, 74, 75, 76, 39, 77, 41, 78, 79, 80, 81, 43, 82, 83, 84, 85, 86, 93, 94, 95, 96, 97, 98, 99, 100, 101, 102, 103, 104, 105, 106, 107, 108, 114, 115, 116, 117, 118, 112, 113] (by decide +kernel) (by decide +kernel)
set_option maxRecDepth 20000 in
theorem gX10_fly_X6_advance : GoodIn wsX10_fly (wsV RX10 207 RX6 yX6_advance wsX6_advance) := goodIn_app (goodIn_of _ (by decide +kernel)) ggX10_fly_X6_advance
set_option maxRecDepth 20000 in
theorem ggX10_greatestWith_X10_isLayer : GoodIn wsX10_greatestWith wsX10_isLayer := goodIn_r _ [8] (by decide +kernel) (by decide +kernel)
set_option maxRecDepth 20000 in
theorem gX10_greatestWith_X10_isLayer : GoodIn wsX10_greatestWith (va_wsS RX10 60 yX10_isLayer wsX10_isLayer) := goodIn_app (goodIn_of _ (by decide +kernel)) ggX10_greatestWith_X10_isLayer
set_option maxRecDepth 20000 in
theorem ggX10_greatestWith_X10_isWind : GoodIn wsX10_greatestWith wsX10_isWind := goodIn_r _ [11] (by decide +kernel) (by decide +kernel)
set_option maxRecDepth 20000 in
theorem gX10_greatestWith_X10_isWind : GoodIn wsX10_greatestWith (va_wsS RX10 64 yX10_isWind wsX10_isWind) := goodIn_app (goodIn_of _ (by decide +kernel)) ggX10_greatestWith_X10_isWind
set_option maxRecDepth 20000 in
theorem ggX10_greatestWith_X0_assign : GoodIn wsX10_greatestWith wsX0_assign := goodIn_r _ [16, 17, 18, 19, 20, 21, 22, 23, 24, 25, 26, 27, 28, 29, 30, 31, 32, 33, 34, 35, 36, 37, 38, 39, 40, 41, 42, 43, 44, 45, 46, 47, 48, 49, 50, 51, 52, 53, 54, 55, 56, 7, 57, 58, 59, 60, 61, 62, 63, 64, 65, 66, 67, 68, 69, 70, 71, 72, 73, 74, 75, 76, 77, 78, 79, 15, 80, 81, 82, 83, 84, 85, 86, 87, 88, 89, 90, 91, 92, 93, 94, 95, 96, 97, 98, 99, 100, 101, 102, 103, 104, 105, 106, 107, 108, 109, 121, 122, 123, 124, 125, 126, 127, 128, 129, 116, 117, 118, 119, 120, 130, 131, 132, 133, 134, 135] (by decide +kernel) (by decide +kernel)
set_option maxRecDepth 20000 in
theorem gX10_greatestWith_X0_assign : GoodIn wsX10_greatestWith (wsV RX10 143 RX0 yX0_assign wsX0_assign) := goodIn_app (goodIn_of _ (by decide +kernel)) ggX10_greatestWith_X0_assign
set_option maxRecDepth 20000 in
theorem ggX10_cellOf_X5_cellAt : GoodIn wsX10_cellOf wsX5_cellAt := goodIn_r _ [8, 9, 10, 11, 12, 7, 13, 14, 26, 27] (by decide +kernel) (by decide +kernel)
set_option maxRecDepth 20000 in
theorem gX10_cellOf_X5_cellAt : GoodIn wsX10_cellOf (wsV RX10 210 RX5 yX5_cellAt wsX5_cellAt) := goodIn_app (goodIn_of _ (by decide +kernel)) ggX10_cellOf_X5_cellAt
set_option maxRecDepth 20000 in
theorem ggX10_look_X10_isCell : GoodIn wsX10_look wsX10_isCell := goodIn_r _ [8] (by decide +kernel) (by decide +kernel)
set_option maxRecDepth 20000 in
theorem gX10_look_X10_isCell : GoodIn wsX10_look (va_wsS RX10 74 yX10_isCell wsX10_isCell) := goodIn_app (goodIn_of _ (by decide +kernel)) ggX10_look_X10_isCell
set_option maxRecDepth 20000 in
theorem ggX10_look_X5_find : GoodIn wsX10_look wsX5_find := goodIn_r _ [13, 14, 15, 27, 28] (by decide +kernel) (by decide +kernel)
set_option maxRecDepth 20000 in
theorem gX10_look_X5_find : GoodIn wsX10_look (wsV RX10 81 RX5 yX5_find wsX5_find) := goodIn_app (goodIn_of _ (by decide +kernel)) ggX10_look_X5_find
set_option maxRecDepth 20000 in
theorem ggX10_count_X8_obstacleCount : GoodIn wsX10_count wsX8_obstacleCount := goodIn_r _ [16, 17, 46, 47, 48, 49, 50] (by decide +kernel) (by decide +kernel)
set_option maxRecDepth 20000 in
theorem gX10_count_X8_obstacleCount : GoodIn wsX10_count (wsV RX10 213 RX8 yX8_obstacleCount wsX8_obstacleCount) := goodIn_app (goodIn_of _ (by decide +kernel)) ggX10_count_X8_obstacleCount
set_option maxRecDepth 20000 in
theorem ggX10_count_X8_dronesAtSlots : GoodIn wsX10_count wsX8_dronesAtSlots := goodIn_r _ [21, 22, 23, 24, 25, 26, 27, 28, 29, 30, 31, 32, 33, 34, 35, 36, 37, 38, 39, 46, 47, 48, 49, 50, 51, 52] (by decide +kernel) (by decide +kernel)
set_option maxRecDepth 20000 in
theorem gX10_count_X8_dronesAtSlots : GoodIn wsX10_count (wsV RX10 216 RX8 yX8_dronesAtSlots wsX8_dronesAtSlots) := goodIn_app (goodIn_of _ (by decide +kernel)) ggX10_count_X8_dronesAtSlots
set_option maxRecDepth 20000 in
theorem ggX10_undo_X6_discard : GoodIn wsX10_undo wsX6_discard := goodIn_r _ [9, 10, 11, 55, 56, 57, 58, 59, 60, 61, 62, 63, 64, 65] (by decide +kernel) (by decide +kernel)
set_option maxRecDepth 20000 in
theorem gX10_undo_X6_discard : GoodIn wsX10_undo (wsV RX10 220 RX6 yX6_discard wsX6_discard) := goodIn_app (goodIn_of _ (by decide +kernel)) ggX10_undo_X6_discard
set_option maxRecDepth 20000 in
theorem ggX10_undo_X3_bringBack : GoodIn wsX10_undo wsX3_bringBack := goodIn_r _ [16, 17, 18, 19, 20, 21, 22, 23, 24, 25, 26, 27, 28, 29, 30, 31, 32, 33, 34, 35, 36, 37, 38, 39, 40, 41, 42, 43, 44, 45, 52, 53, 54, 66, 67, 68, 69, 70, 71, 72] (by decide +kernel) (by decide +kernel)
set_option maxRecDepth 20000 in
theorem gX10_undo_X3_bringBack : GoodIn wsX10_undo (wsV RX10 223 RX3 yX3_bringBack wsX3_bringBack) := goodIn_app (goodIn_of _ (by decide +kernel)) ggX10_undo_X3_bringBack
set_option maxRecDepth 20000 in
theorem ggX10_beginChange_X3_keep : GoodIn wsX10_beginChange wsX3_keep := goodIn_r _ [8, 9, 10, 11, 12, 13, 14, 15, 16, 17, 18, 19, 20, 21, 22, 23, 24, 25, 26, 27, 28, 29, 30, 31, 32, 33, 34, 35, 36, 37, 38, 39, 40, 41, 55, 56, 57, 58, 59, 60, 61, 62, 63, 64] (by decide +kernel) (by decide +kernel)
set_option maxRecDepth 20000 in
theorem gX10_beginChange_X3_keep : GoodIn wsX10_beginChange (wsV RX10 201 RX3 yX3_keep wsX3_keep) := goodIn_app (goodIn_of _ (by decide +kernel)) ggX10_beginChange_X3_keep
set_option maxRecDepth 20000 in
theorem ggX10_beginChange_X6_discard : GoodIn wsX10_beginChange wsX6_discard := goodIn_r _ [46, 47, 48, 65, 66, 67, 68, 69, 70, 71, 72, 73, 74, 75] (by decide +kernel) (by decide +kernel)
set_option maxRecDepth 20000 in
theorem gX10_beginChange_X6_discard : GoodIn wsX10_beginChange (wsV RX10 220 RX6 yX6_discard wsX6_discard) := goodIn_app (goodIn_of _ (by decide +kernel)) ggX10_beginChange_X6_discard
set_option maxRecDepth 20000 in
theorem ggX10_addPlace_X10_isCell : GoodIn wsX10_addPlace wsX10_isCell := goodIn_r _ [7] (by decide +kernel) (by decide +kernel)
set_option maxRecDepth 20000 in
theorem gX10_addPlace_X10_isCell : GoodIn wsX10_addPlace (va_wsS RX10 74 yX10_isCell wsX10_isCell) := goodIn_app (goodIn_of _ (by decide +kernel)) ggX10_addPlace_X10_isCell
set_option maxRecDepth 20000 in
theorem ggX10_addPlace_X5_find : GoodIn wsX10_addPlace wsX5_find := goodIn_r _ [12, 13, 14, 67, 68] (by decide +kernel) (by decide +kernel)
set_option maxRecDepth 20000 in
theorem gX10_addPlace_X5_find : GoodIn wsX10_addPlace (wsV RX10 81 RX5 yX5_find wsX5_find) := goodIn_app (goodIn_of _ (by decide +kernel)) ggX10_addPlace_X5_find
set_option maxRecDepth 20000 in
theorem ggX10_addPlace_X10_beginChange : GoodIn wsX10_addPlace wsX10_beginChange := goodIn_r _ [18, 19, 2, 20, 21, 22, 23, 24, 25, 26, 27, 28, 29, 30, 31, 32, 33, 34, 35, 36, 37, 38, 39, 40, 41, 42, 43, 44, 45, 46, 47, 48, 49, 50, 51, 52, 53, 11, 54, 14, 55, 13, 56, 57, 58, 59, 60, 61, 62, 69, 70, 71, 72, 73, 74, 80, 81, 82, 75, 76, 77, 78, 79, 67, 68, 83, 84, 85, 86, 87, 88, 89, 90, 91, 92, 93] (by decide +kernel) (by decide +kernel)
set_option maxRecDepth 20000 in
theorem gX10_addPlace_X10_beginChange : GoodIn wsX10_addPlace (wsV RX10 67 RX10 yX10_beginChange wsX10_beginChange) := goodIn_app (goodIn_of _ (by decide +kernel)) ggX10_addPlace_X10_beginChange
set_option maxRecDepth 20000 in
theorem ggX10_addPlace_X5_add : GoodIn wsX10_addPlace wsX5_add := goodIn_r _ [66, 13, 14, 67, 68] (by decide +kernel) (by decide +kernel)
set_option maxRecDepth 20000 in
theorem gX10_addPlace_X5_add : GoodIn wsX10_addPlace (wsV RX10 227 RX5 yX5_add wsX5_add) := goodIn_app (goodIn_of _ (by decide +kernel)) ggX10_addPlace_X5_add
set_option maxRecDepth 20000 in
theorem ggX10_hasObstacle_X5_cellAt : GoodIn wsX10_hasObstacle wsX5_cellAt := goodIn_r _ [7, 8, 9, 10, 11, 6, 12, 13, 23, 24] (by decide +kernel) (by decide +kernel)
set_option maxRecDepth 20000 in
theorem gX10_hasObstacle_X5_cellAt : GoodIn wsX10_hasObstacle (wsV RX10 210 RX5 yX5_cellAt wsX5_cellAt) := goodIn_app (goodIn_of _ (by decide +kernel)) ggX10_hasObstacle_X5_cellAt
set_option maxRecDepth 20000 in
theorem ggX10_hasObstacle_X8_hasObstacleAt : GoodIn wsX10_hasObstacle wsX8_hasObstacleAt := goodIn_r _ [18, 19, 20, 21, 22, 31, 32, 33, 34, 35] (by decide +kernel) (by decide +kernel)
set_option maxRecDepth 20000 in
theorem gX10_hasObstacle_X8_hasObstacleAt : GoodIn wsX10_hasObstacle (wsV RX10 230 RX8 yX8_hasObstacleAt wsX8_hasObstacleAt) := goodIn_app (goodIn_of _ (by decide +kernel)) ggX10_hasObstacle_X8_hasObstacleAt
set_option maxRecDepth 20000 in
theorem ggX10_planError_X5_has : GoodIn wsX10_planError wsX5_has := goodIn_r _ [9, 10, 33, 34] (by decide +kernel) (by decide +kernel)
set_option maxRecDepth 20000 in
theorem gX10_planError_X5_has : GoodIn wsX10_planError (wsV RX10 140 RX5 yX5_has wsX5_has) := goodIn_app (goodIn_of _ (by decide +kernel)) ggX10_planError_X5_has

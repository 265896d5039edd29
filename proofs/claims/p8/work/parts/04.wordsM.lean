set_option maxRecDepth 20000 in
theorem ggX11_isCell_X11_isIn : GoodIn wsX11_isCell wsX11_isIn := goodIn_r _ [4] (by decide +kernel) (by decide +kernel)
set_option maxRecDepth 20000 in
theorem gX11_isCell_X11_isIn : GoodIn wsX11_isCell (va_wsS RX11 73 yX11_isIn wsX11_isIn) := goodIn_app (goodIn_of _ (by decide +kernel)) ggX11_isCell_X11_isIn
set_option maxRecDepth 20000 in
theorem ggX11_isDrone_X11_isIn : GoodIn wsX11_isDrone wsX11_isIn := goodIn_r _ [5] (by decide +kernel) (by decide +kernel)
set_option maxRecDepth 20000 in
theorem gX11_isDrone_X11_isIn : GoodIn wsX11_isDrone (va_wsS RX11 73 yX11_isIn wsX11_isIn) := goodIn_app (goodIn_of _ (by decide +kernel)) ggX11_isDrone_X11_isIn
set_option maxRecDepth 20000 in
theorem ggX11_changes_X11_keeps : GoodIn wsX11_changes wsX11_keeps := goodIn_r _ [5, 6, 7, 8, 16, 17, 18, 19, 20, 21, 22, 23, 24, 25, 26, 27, 28, 29, 30, 31, 32, 33, 34, 35, 36, 37, 38, 39, 40, 41, 42, 43, 44, 45] (by decide +kernel) (by decide +kernel)
set_option maxRecDepth 20000 in
theorem gX11_changes_X11_keeps : GoodIn wsX11_changes (wsV RX11 80 RX11 yX11_keeps wsX11_keeps) := goodIn_app (goodIn_of _ (by decide +kernel)) ggX11_changes_X11_keeps
set_option maxRecDepth 20000 in
theorem ggX11_changes_X11_discards : GoodIn wsX11_changes wsX11_discards := goodIn_r _ [12, 13, 14, 15, 16, 17, 18, 19, 20, 21, 22, 23, 24, 25, 26, 27, 28, 29, 30, 31, 32, 33, 34, 35, 36, 37, 38, 39, 40, 41, 42, 43, 44, 45] (by decide +kernel) (by decide +kernel)
set_option maxRecDepth 20000 in
theorem gX11_changes_X11_discards : GoodIn wsX11_changes (wsV RX11 83 RX11 yX11_discards wsX11_discards) := goodIn_app (goodIn_of _ (by decide +kernel)) ggX11_changes_X11_discards
set_option maxRecDepth 20000 in
theorem ggX11_undo_X11_discards : GoodIn wsX11_undo wsX11_discards := goodIn_r _ [8, 9, 10, 11, 12, 13, 14, 15, 16, 17, 18, 19, 20, 21, 22, 23, 24, 25, 26, 27, 28, 29, 30, 31, 32, 33, 34, 35, 36, 37, 38, 39, 40, 41] (by decide +kernel) (by decide +kernel)
set_option maxRecDepth 20000 in
theorem gX11_undo_X11_discards : GoodIn wsX11_undo (wsV RX11 83 RX11 yX11_discards wsX11_discards) := goodIn_app (goodIn_of _ (by decide +kernel)) ggX11_undo_X11_discards
set_option maxRecDepth 20000 in
theorem ggX11_setWind_X11_isIn : GoodIn wsX11_setWind wsX11_isIn := goodIn_r _ [5] (by decide +kernel) (by decide +kernel)
set_option maxRecDepth 20000 in
theorem gX11_setWind_X11_isIn : GoodIn wsX11_setWind (va_wsS RX11 73 yX11_isIn wsX11_isIn) := goodIn_app (goodIn_of _ (by decide +kernel)) ggX11_setWind_X11_isIn
set_option maxRecDepth 20000 in
theorem ggX11_setWind_X11_changes : GoodIn wsX11_setWind wsX11_changes := goodIn_r _ [9, 10, 11, 12, 4, 13, 14, 15, 1, 16, 17, 18, 19, 20, 21, 22, 23, 24, 25, 26, 27, 28, 29, 30, 31, 32, 33, 34, 35, 36, 37, 38, 39, 40, 41, 42, 43, 44, 45, 46, 47, 48, 49, 50, 51, 52] (by decide +kernel) (by decide +kernel)
set_option maxRecDepth 20000 in
theorem gX11_setWind_X11_changes : GoodIn wsX11_setWind (wsV RX11 86 RX11 yX11_changes wsX11_changes) := goodIn_app (goodIn_of _ (by decide +kernel)) ggX11_setWind_X11_changes
set_option maxRecDepth 20000 in
theorem ggX11_setObstacle_X11_isCell : GoodIn wsX11_setObstacle wsX11_isCell := goodIn_r _ [5, 6, 7, 4, 8] (by decide +kernel) (by decide +kernel)
set_option maxRecDepth 20000 in
theorem gX11_setObstacle_X11_isCell : GoodIn wsX11_setObstacle (va_wsS RX11 88 yX11_isCell wsX11_isCell) := goodIn_app (goodIn_of _ (by decide +kernel)) ggX11_setObstacle_X11_isCell
set_option maxRecDepth 20000 in
theorem ggX11_setObstacle_X11_isIn : GoodIn wsX11_setObstacle wsX11_isIn := goodIn_r _ [8] (by decide +kernel) (by decide +kernel)
set_option maxRecDepth 20000 in
theorem gX11_setObstacle_X11_isIn : GoodIn wsX11_setObstacle (va_wsS RX11 73 yX11_isIn wsX11_isIn) := goodIn_app (goodIn_of _ (by decide +kernel)) ggX11_setObstacle_X11_isIn
set_option maxRecDepth 20000 in
theorem ggX11_setObstacle_X11_droneAt : GoodIn wsX11_setObstacle wsX11_droneAt := goodIn_r _ [12, 1, 34, 35, 36, 37, 38, 39, 40, 41, 42, 43, 44, 45, 46, 47, 48, 49, 50, 51, 52, 53, 54, 55, 56, 57, 58, 59, 60, 61, 62, 63] (by decide +kernel) (by decide +kernel)
set_option maxRecDepth 20000 in
theorem gX11_setObstacle_X11_droneAt : GoodIn wsX11_setObstacle (wsV RX11 92 RX11 yX11_droneAt wsX11_droneAt) := goodIn_app (goodIn_of _ (by decide +kernel)) ggX11_setObstacle_X11_droneAt
set_option maxRecDepth 20000 in
theorem ggX11_setObstacle_X11_slotAt : GoodIn wsX11_setObstacle wsX11_slotAt := goodIn_r _ [16, 1, 34, 35, 36, 37, 38, 39, 40, 41, 42, 43, 44, 45, 46, 47, 48, 49, 50, 51, 52, 53, 54, 55, 56, 57, 58, 59, 60, 61, 62, 63] (by decide +kernel) (by decide +kernel)
set_option maxRecDepth 20000 in
theorem gX11_setObstacle_X11_slotAt : GoodIn wsX11_setObstacle (wsV RX11 96 RX11 yX11_slotAt wsX11_slotAt) := goodIn_app (goodIn_of _ (by decide +kernel)) ggX11_setObstacle_X11_slotAt
set_option maxRecDepth 20000 in
theorem ggX11_setObstacle_X11_changes : GoodIn wsX11_setObstacle wsX11_changes := goodIn_r _ [20, 21, 22, 23, 4, 24, 25, 26, 1, 27, 28, 29, 30, 31, 32, 33, 34, 35, 36, 37, 38, 39, 40, 41, 42, 43, 44, 45, 46, 47, 48, 49, 50, 51, 52, 53, 54, 55, 56, 57, 58, 59, 60, 61, 62, 63] (by decide +kernel) (by decide +kernel)
set_option maxRecDepth 20000 in
theorem gX11_setObstacle_X11_changes : GoodIn wsX11_setObstacle (wsV RX11 86 RX11 yX11_changes wsX11_changes) := goodIn_app (goodIn_of _ (by decide +kernel)) ggX11_setObstacle_X11_changes
set_option maxRecDepth 20000 in
theorem ggX11_addDrone_X11_isCell : GoodIn wsX11_addDrone wsX11_isCell := goodIn_r _ [5, 6, 7, 4, 8] (by decide +kernel) (by decide +kernel)
set_option maxRecDepth 20000 in
theorem gX11_addDrone_X11_isCell : GoodIn wsX11_addDrone (va_wsS RX11 88 yX11_isCell wsX11_isCell) := goodIn_app (goodIn_of _ (by decide +kernel)) ggX11_addDrone_X11_isCell
set_option maxRecDepth 20000 in
theorem ggX11_addDrone_X11_isObstacle : GoodIn wsX11_addDrone wsX11_isObstacle := goodIn_r _ [12, 1, 34, 35, 36, 37, 38, 39, 40, 41, 42, 43, 44, 45, 46, 47, 48, 49, 50, 51, 52, 53, 54, 55, 56, 57, 58, 59, 60, 61, 62, 63] (by decide +kernel) (by decide +kernel)
set_option maxRecDepth 20000 in
theorem gX11_addDrone_X11_isObstacle : GoodIn wsX11_addDrone (wsV RX11 99 RX11 yX11_isObstacle wsX11_isObstacle) := goodIn_app (goodIn_of _ (by decide +kernel)) ggX11_addDrone_X11_isObstacle
set_option maxRecDepth 20000 in
theorem ggX11_addDrone_X11_droneAt : GoodIn wsX11_addDrone wsX11_droneAt := goodIn_r _ [16, 1, 34, 35, 36, 37, 38, 39, 40, 41, 42, 43, 44, 45, 46, 47, 48, 49, 50, 51, 52, 53, 54, 55, 56, 57, 58, 59, 60, 61, 62, 63] (by decide +kernel) (by decide +kernel)
set_option maxRecDepth 20000 in
theorem gX11_addDrone_X11_droneAt : GoodIn wsX11_addDrone (wsV RX11 92 RX11 yX11_droneAt wsX11_droneAt) := goodIn_app (goodIn_of _ (by decide +kernel)) ggX11_addDrone_X11_droneAt
set_option maxRecDepth 20000 in
theorem ggX11_addDrone_X11_changes : GoodIn wsX11_addDrone wsX11_changes := goodIn_r _ [20, 21, 22, 23, 4, 24, 25, 26, 1, 27, 28, 29, 30, 31, 32, 33, 34, 35, 36, 37, 38, 39, 40, 41, 42, 43, 44, 45, 46, 47, 48, 49, 50, 51, 52, 53, 54, 55, 56, 57, 58, 59, 60, 61, 62, 63] (by decide +kernel) (by decide +kernel)
set_option maxRecDepth 20000 in
theorem gX11_addDrone_X11_changes : GoodIn wsX11_addDrone (wsV RX11 86 RX11 yX11_changes wsX11_changes) := goodIn_app (goodIn_of _ (by decide +kernel)) ggX11_addDrone_X11_changes
set_option maxRecDepth 20000 in
theorem ggX11_removeDrone_X11_isDrone : GoodIn wsX11_removeDrone wsX11_isDrone := goodIn_r _ [6, 1, 7, 8, 5, 9, 27, 28, 29, 30, 31, 32, 33, 34, 35, 36, 37, 38, 39, 40, 41, 42, 43, 44, 45, 46, 47, 48, 49, 50, 51, 52, 53, 54, 55, 56] (by decide +kernel) (by decide +kernel)
set_option maxRecDepth 20000 in
theorem gX11_removeDrone_X11_isDrone : GoodIn wsX11_removeDrone (wsV RX11 102 RX11 yX11_isDrone wsX11_isDrone) := goodIn_app (goodIn_of _ (by decide +kernel)) ggX11_removeDrone_X11_isDrone
set_option maxRecDepth 20000 in
theorem ggX11_removeDrone_X11_changes : GoodIn wsX11_removeDrone wsX11_changes := goodIn_r _ [13, 14, 15, 16, 5, 17, 18, 19, 1, 20, 21, 22, 23, 24, 25, 26, 27, 28, 29, 30, 31, 32, 33, 34, 35, 36, 37, 38, 39, 40, 41, 42, 43, 44, 45, 46, 47, 48, 49, 50, 51, 52, 53, 54, 55, 56] (by decide +kernel) (by decide +kernel)
set_option maxRecDepth 20000 in
theorem gX11_removeDrone_X11_changes : GoodIn wsX11_removeDrone (wsV RX11 86 RX11 yX11_changes wsX11_changes) := goodIn_app (goodIn_of _ (by decide +kernel)) ggX11_removeDrone_X11_changes
set_option maxRecDepth 20000 in
theorem ggX11_addSlot_X11_isCell : GoodIn wsX11_addSlot wsX11_isCell := goodIn_r _ [5, 6, 7, 4, 8] (by decide +kernel) (by decide +kernel)
set_option maxRecDepth 20000 in
theorem gX11_addSlot_X11_isCell : GoodIn wsX11_addSlot (va_wsS RX11 88 yX11_isCell wsX11_isCell) := goodIn_app (goodIn_of _ (by decide +kernel)) ggX11_addSlot_X11_isCell
set_option maxRecDepth 20000 in
theorem ggX11_addSlot_X11_isObstacle : GoodIn wsX11_addSlot wsX11_isObstacle := goodIn_r _ [12, 1, 34, 35, 36, 37, 38, 39, 40, 41, 42, 43, 44, 45, 46, 47, 48, 49, 50, 51, 52, 53, 54, 55, 56, 57, 58, 59, 60, 61, 62, 63] (by decide +kernel) (by decide +kernel)
set_option maxRecDepth 20000 in
theorem gX11_addSlot_X11_isObstacle : GoodIn wsX11_addSlot (wsV RX11 99 RX11 yX11_isObstacle wsX11_isObstacle) := goodIn_app (goodIn_of _ (by decide +kernel)) ggX11_addSlot_X11_isObstacle
set_option maxRecDepth 20000 in
theorem ggX11_addSlot_X11_slotAt : GoodIn wsX11_addSlot wsX11_slotAt := goodIn_r _ [16, 1, 34, 35, 36, 37, 38, 39, 40, 41, 42, 43, 44, 45, 46, 47, 48, 49, 50, 51, 52, 53, 54, 55, 56, 57, 58, 59, 60, 61, 62, 63] (by decide +kernel) (by decide +kernel)
set_option maxRecDepth 20000 in
theorem gX11_addSlot_X11_slotAt : GoodIn wsX11_addSlot (wsV RX11 96 RX11 yX11_slotAt wsX11_slotAt) := goodIn_app (goodIn_of _ (by decide +kernel)) ggX11_addSlot_X11_slotAt
set_option maxRecDepth 20000 in
theorem ggX11_addSlot_X11_changes : GoodIn wsX11_addSlot wsX11_changes := goodIn_r _ [20, 21, 22, 23, 4, 24, 25, 26, 1, 27, 28, 29, 30, 31, 32, 33, 34, 35, 36, 37, 38, 39, 40, 41, 42, 43, 44, 45, 46, 47, 48, 49, 50, 51, 52, 53, 54, 55, 56, 57, 58, 59, 60, 61, 62, 63] (by decide +kernel) (by decide +kernel)
set_option maxRecDepth 20000 in
theorem gX11_addSlot_X11_changes : GoodIn wsX11_addSlot (wsV RX11 86 RX11 yX11_changes wsX11_changes) := goodIn_app (goodIn_of _ (by decide +kernel)) ggX11_addSlot_X11_changes
set_option maxRecDepth 20000 in
theorem ggX11_clearSlots_X11_changes : GoodIn wsX11_clearSlots wsX11_changes := goodIn_r _ [6, 7, 8, 9, 5, 10, 11, 12, 1, 13, 14, 15, 16, 17, 18, 19, 20, 21, 22, 23, 24, 25, 26, 27, 28, 29, 30, 31, 32, 33, 34, 35, 36, 37, 38, 39, 40, 41, 42, 43, 44, 45, 46, 47, 48, 49] (by decide +kernel) (by decide +kernel)
set_option maxRecDepth 20000 in
theorem gX11_clearSlots_X11_changes : GoodIn wsX11_clearSlots (wsV RX11 86 RX11 yX11_changes wsX11_changes) := goodIn_app (goodIn_of _ (by decide +kernel)) ggX11_clearSlots_X11_changes
set_option maxRecDepth 20000 in
theorem ggX11_append_X11_isIn : GoodIn wsX11_append wsX11_isIn := goodIn_r _ [6] (by decide +kernel) (by decide +kernel)
set_option maxRecDepth 20000 in
theorem gX11_append_X11_isIn : GoodIn wsX11_append (va_wsS RX11 73 yX11_isIn wsX11_isIn) := goodIn_app (goodIn_of _ (by decide +kernel)) ggX11_append_X11_isIn
set_option maxRecDepth 20000 in
theorem ggX11_readsAll_X11_here : GoodIn wsX11_readsAll wsX11_here := goodIn_r _ [8, 1, 3, 9, 13, 14, 15, 16, 17, 18, 19, 20, 21, 22, 23, 24, 25, 26, 27, 28, 29, 30, 31, 32, 33, 34, 35, 36, 37, 38, 39, 40, 41, 42] (by decide +kernel) (by decide +kernel)
set_option maxRecDepth 20000 in
theorem gX11_readsAll_X11_here : GoodIn wsX11_readsAll (wsV RX11 111 RX11 yX11_here wsX11_here) := goodIn_app (goodIn_of _ (by decide +kernel)) ggX11_readsAll_X11_here
set_option maxRecDepth 20000 in
theorem ggX11_readsAll_X11_isIn : GoodIn wsX11_readsAll wsX11_isIn := goodIn_r _ [12] (by decide +kernel) (by decide +kernel)
set_option maxRecDepth 20000 in
theorem gX11_readsAll_X11_isIn : GoodIn wsX11_readsAll (va_wsS RX11 73 yX11_isIn wsX11_isIn) := goodIn_app (goodIn_of _ (by decide +kernel)) ggX11_readsAll_X11_isIn
set_option maxRecDepth 20000 in
theorem ggX11_isTaken_X11_isObstacle : GoodIn wsX11_isTaken wsX11_isObstacle := goodIn_r _ [6, 7, 8, 9, 10, 11, 12, 13, 14, 15, 16, 17, 18, 19, 20, 21, 22, 23, 24, 25, 26, 27, 28, 29, 30, 31, 32, 33, 34, 35, 36, 37] (by decide +kernel) (by decide +kernel)
set_option maxRecDepth 20000 in
theorem gX11_isTaken_X11_isObstacle : GoodIn wsX11_isTaken (wsV RX11 99 RX11 yX11_isObstacle wsX11_isObstacle) := goodIn_app (goodIn_of _ (by decide +kernel)) ggX11_isTaken_X11_isObstacle
set_option maxRecDepth 20000 in
theorem ggX11_readSlots_X11_readsAll : GoodIn wsX11_readSlots wsX11_readsAll := goodIn_r _ [9, 2, 4, 1, 10, 11, 12, 8, 13, 14, 15, 16, 17, 43, 44, 45, 46, 47, 48, 49, 50, 51, 52, 53, 54, 55, 56, 57, 58, 59, 60, 61, 62, 63, 64, 65, 66, 67, 68, 69, 70, 71, 72] (by decide +kernel) (by decide +kernel)
set_option maxRecDepth 20000 in
theorem gX11_readSlots_X11_readsAll : GoodIn wsX11_readSlots (wsV RX11 115 RX11 yX11_readsAll wsX11_readsAll) := goodIn_app (goodIn_of _ (by decide +kernel)) ggX11_readSlots_X11_readsAll
set_option maxRecDepth 20000 in
theorem ggX11_readSlots_X11_isTaken : GoodIn wsX11_readSlots wsX11_isTaken := goodIn_r _ [21, 4, 22, 23, 24, 8, 25, 3, 43, 44, 45, 46, 47, 48, 49, 50, 51, 52, 53, 54, 55, 56, 57, 58, 59, 60, 61, 62, 63, 64, 65, 66, 67, 68, 69, 70, 71, 72] (by decide +kernel) (by decide +kernel)
set_option maxRecDepth 20000 in
theorem gX11_readSlots_X11_isTaken : GoodIn wsX11_readSlots (wsV RX11 118 RX11 yX11_isTaken wsX11_isTaken) := goodIn_app (goodIn_of _ (by decide +kernel)) ggX11_readSlots_X11_isTaken
set_option maxRecDepth 20000 in
theorem ggX11_readSlots_X11_changes : GoodIn wsX11_readSlots wsX11_changes := goodIn_r _ [29, 30, 31, 32, 8, 33, 34, 35, 3, 36, 37, 38, 39, 40, 41, 42, 43, 44, 45, 46, 47, 48, 49, 50, 51, 52, 53, 54, 55, 56, 57, 58, 59, 60, 61, 62, 63, 64, 65, 66, 67, 68, 69, 70, 71, 72] (by decide +kernel) (by decide +kernel)
set_option maxRecDepth 20000 in
theorem gX11_readSlots_X11_changes : GoodIn wsX11_readSlots (wsV RX11 86 RX11 yX11_changes wsX11_changes) := goodIn_app (goodIn_of _ (by decide +kernel)) ggX11_readSlots_X11_changes
set_option maxRecDepth 20000 in
theorem ggX11_next_X11_layerOf : GoodIn wsX11_next wsX11_layerOf := goodIn_r _ [4] (by decide +kernel) (by decide +kernel)
set_option maxRecDepth 20000 in
theorem gX11_next_X11_layerOf : GoodIn wsX11_next (va_wsS RX11 121 yX11_layerOf wsX11_layerOf) := goodIn_app (goodIn_of _ (by decide +kernel)) ggX11_next_X11_layerOf
set_option maxRecDepth 20000 in
theorem ggX11_next_X11_isIn : GoodIn wsX11_next wsX11_isIn := goodIn_r _ [7] (by decide +kernel) (by decide +kernel)
set_option maxRecDepth 20000 in
theorem gX11_next_X11_isIn : GoodIn wsX11_next (va_wsS RX11 73 yX11_isIn wsX11_isIn) := goodIn_app (goodIn_of _ (by decide +kernel)) ggX11_next_X11_isIn
set_option maxRecDepth 20000 in
theorem ggX11_next_X11_isObstacle : GoodIn wsX11_next wsX11_isObstacle := goodIn_r _ [11, 12, 13, 14, 15, 16, 17, 18, 19, 20, 21, 22, 23, 24, 25, 26, 27, 28, 29, 30, 31, 32, 33, 34, 35, 36, 37, 38, 39, 40, 41, 42] (by decide +kernel) (by decide +kernel)
set_option maxRecDepth 20000 in
theorem gX11_next_X11_isObstacle : GoodIn wsX11_next (wsV RX11 99 RX11 yX11_isObstacle wsX11_isObstacle) := goodIn_app (goodIn_of _ (by decide +kernel)) ggX11_next_X11_isObstacle
set_option maxRecDepth 20000 in
theorem ggX11_ticks_X11_layerOf : GoodIn wsX11_ticks wsX11_layerOf := goodIn_r _ [5] (by decide +kernel) (by decide +kernel)
set_option maxRecDepth 20000 in
theorem gX11_ticks_X11_layerOf : GoodIn wsX11_ticks (va_wsS RX11 121 yX11_layerOf wsX11_layerOf) := goodIn_app (goodIn_of _ (by decide +kernel)) ggX11_ticks_X11_layerOf
set_option maxRecDepth 20000 in
theorem ggX11_measures_X11_isObstacle : GoodIn wsX11_measures wsX11_isObstacle := goodIn_r _ [8, 9, 24, 25, 26, 27, 28, 29, 30, 31, 32, 33, 34, 35, 36, 37, 38, 39, 40, 41, 42, 43, 44, 45, 46, 47, 48, 49, 50, 51, 52, 53] (by decide +kernel) (by decide +kernel)
set_option maxRecDepth 20000 in
theorem gX11_measures_X11_isObstacle : GoodIn wsX11_measures (wsV RX11 99 RX11 yX11_isObstacle wsX11_isObstacle) := goodIn_app (goodIn_of _ (by decide +kernel)) ggX11_measures_X11_isObstacle
set_option maxRecDepth 20000 in
theorem ggX11_measures_X11_next : GoodIn wsX11_measures wsX11_next := goodIn_r _ [13, 14, 15, 7, 16, 17, 18, 19, 4, 5, 6, 8, 9, 24, 25, 26, 27, 28, 29, 30, 31, 32, 33, 34, 35, 36, 37, 38, 39, 40, 41, 42, 43, 44, 45, 46, 47, 48, 49, 50, 51, 52, 53] (by decide +kernel) (by decide +kernel)
set_option maxRecDepth 20000 in
theorem gX11_measures_X11_next : GoodIn wsX11_measures (wsV RX11 125 RX11 yX11_next wsX11_next) := goodIn_app (goodIn_of _ (by decide +kernel)) ggX11_measures_X11_next
set_option maxRecDepth 20000 in
theorem ggX11_measures_X11_ticks : GoodIn wsX11_measures wsX11_ticks := goodIn_r _ [23, 9, 14, 15, 7, 16, 24, 25, 26, 27, 28, 29, 30, 31, 32, 33, 34, 35, 36, 37, 38, 39, 40, 41, 42, 43, 44, 45, 46, 47, 48, 49, 50, 51, 52, 53] (by decide +kernel) (by decide +kernel)
set_option maxRecDepth 20000 in
theorem gX11_measures_X11_ticks : GoodIn wsX11_measures (wsV RX11 129 RX11 yX11_ticks wsX11_ticks) := goodIn_app (goodIn_of _ (by decide +kernel)) ggX11_measures_X11_ticks
set_option maxRecDepth 20000 in
theorem ggX11_time_X11_measures : GoodIn wsX11_time wsX11_measures := goodIn_r _ [7, 2, 8, 1, 9, 10, 11, 6, 12, 13, 14, 15, 16, 17, 18, 19, 20, 21, 22, 23, 24, 25, 26, 27, 28, 29, 30, 31, 32, 33, 34, 35, 36, 37, 38, 39, 40, 41, 42, 43, 44, 45, 46, 47, 48, 49, 50, 51, 52, 53, 54, 55, 56, 57] (by decide +kernel) (by decide +kernel)
set_option maxRecDepth 20000 in
theorem gX11_time_X11_measures : GoodIn wsX11_time (wsV RX11 132 RX11 yX11_measures wsX11_measures) := goodIn_app (goodIn_of _ (by decide +kernel)) ggX11_time_X11_measures
set_option maxRecDepth 20000 in
theorem ggX11_flightTime_X11_isCell : GoodIn wsX11_flightTime wsX11_isCell := goodIn_r _ [5, 6, 7, 4, 8] (by decide +kernel) (by decide +kernel)
set_option maxRecDepth 20000 in
theorem gX11_flightTime_X11_isCell : GoodIn wsX11_flightTime (va_wsS RX11 88 yX11_isCell wsX11_isCell) := goodIn_app (goodIn_of _ (by decide +kernel)) ggX11_flightTime_X11_isCell
set_option maxRecDepth 20000 in
theorem ggX11_flightTime_X11_time : GoodIn wsX11_flightTime wsX11_time := goodIn_r _ [12, 13, 14, 15, 16, 17, 4, 18, 1, 19, 20, 21, 22, 23, 24, 25, 26, 27, 28, 29, 30, 6, 7, 8, 31, 32, 33, 34, 35, 36, 37, 38, 39, 40, 41, 42, 43, 44, 45, 46, 47, 48, 49, 50, 51, 52, 53, 54, 55, 56, 57, 58, 59, 60, 61, 62, 63, 64] (by decide +kernel) (by decide +kernel)
set_option maxRecDepth 20000 in
theorem gX11_flightTime_X11_time : GoodIn wsX11_flightTime (wsV RX11 136 RX11 yX11_time wsX11_time) := goodIn_app (goodIn_of _ (by decide +kernel)) ggX11_flightTime_X11_time
set_option maxRecDepth 20000 in
theorem ggX11_firstAction_X11_next : GoodIn wsX11_firstAction wsX11_next := goodIn_r _ [5, 6, 7, 4, 8, 9, 10, 11, 12, 13, 14, 15, 16, 32, 33, 34, 35, 36, 37, 38, 39, 40, 41, 42, 43, 44, 45, 46, 47, 48, 49, 50, 51, 52, 53, 54, 55, 56, 57, 58, 59, 60, 61] (by decide +kernel) (by decide +kernel)
set_option maxRecDepth 20000 in
theorem gX11_firstAction_X11_next : GoodIn wsX11_firstAction (wsV RX11 125 RX11 yX11_next wsX11_next) := goodIn_app (goodIn_of _ (by decide +kernel)) ggX11_firstAction_X11_next
set_option maxRecDepth 20000 in
theorem ggX11_firstAction_X11_ticks : GoodIn wsX11_firstAction wsX11_ticks := goodIn_r _ [20, 16, 6, 7, 4, 8, 32, 33, 34, 35, 36, 37, 38, 39, 40, 41, 42, 43, 44, 45, 46, 47, 48, 49, 50, 51, 52, 53, 54, 55, 56, 57, 58, 59, 60, 61] (by decide +kernel) (by decide +kernel)
set_option maxRecDepth 20000 in
theorem gX11_firstAction_X11_ticks : GoodIn wsX11_firstAction (wsV RX11 129 RX11 yX11_ticks wsX11_ticks) := goodIn_app (goodIn_of _ (by decide +kernel)) ggX11_firstAction_X11_ticks
set_option maxRecDepth 20000 in
theorem ggX11_firstAction_X11_time : GoodIn wsX11_firstAction wsX11_time := goodIn_r _ [24, 25, 26, 27, 28, 29, 4, 30, 31, 12, 13, 14, 15, 16, 1, 2, 3, 5, 6, 7, 8, 9, 10, 11, 17, 18, 19, 20, 32, 33, 34, 35, 36, 37, 38, 39, 40, 41, 42, 43, 44, 45, 46, 47, 48, 49, 50, 51, 52, 53, 54, 55, 56, 57, 58, 59, 60, 61] (by decide +kernel) (by decide +kernel)
set_option maxRecDepth 20000 in
theorem gX11_firstAction_X11_time : GoodIn wsX11_firstAction (wsV RX11 136 RX11 yX11_time wsX11_time) := goodIn_app (goodIn_of _ (by decide +kernel)) ggX11_firstAction_X11_time
set_option maxRecDepth 20000 in
theorem ggX11_tries_X11_time : GoodIn wsX11_tries wsX11_time := goodIn_r _ [17, 18, 19, 20, 21, 22, 16, 23, 8, 24, 25, 26, 27, 1, 28, 29, 30, 31, 32, 33, 34, 35, 36, 37, 38, 39, 40, 41, 45, 46, 47, 48, 49, 50, 51, 52, 53, 54, 55, 56, 57, 58, 59, 60, 61, 62, 63, 64, 65, 66, 67, 68, 69, 70, 71, 72, 73, 74] (by decide +kernel) (by decide +kernel)
set_option maxRecDepth 20000 in
theorem gX11_tries_X11_time : GoodIn wsX11_tries (wsV RX11 136 RX11 yX11_time wsX11_time) := goodIn_app (goodIn_of _ (by decide +kernel)) ggX11_tries_X11_time
set_option maxRecDepth 20000 in
theorem ggX11_tries_X11_tries : GoodIn wsX11_tries wsX11_tries := goodIn_r _ [0, 1, 2, 3, 4, 5, 6, 7, 8, 9, 10, 11, 12, 13, 14, 15, 16, 17, 18, 19, 20, 21, 22, 23, 24, 25, 26, 27, 28, 29, 30, 31, 32, 33, 34, 35, 36, 37, 38, 39, 40, 41, 42, 43, 44, 45, 46, 47, 48, 49, 50, 51, 52, 53, 54, 55, 56, 57, 58, 59, 60, 61, 62, 63, 64, 65, 66, 67, 68, 69, 70, 71, 72, 73, 74] (by decide +kernel) (by decide +kernel)
set_option maxRecDepth 20000 in
theorem gX11_tries_X11_tries : GoodIn wsX11_tries (wsV RX11 156 RX11 yX11_tries wsX11_tries) := goodIn_app (goodIn_of _ (by decide +kernel)) ggX11_tries_X11_tries
set_option maxRecDepth 20000 in
theorem ggX11_assigns_X11_tries : GoodIn wsX11_assigns wsX11_tries := goodIn_r _ [7, 1, 2, 8, 9, 10, 11, 12, 13, 14, 15, 16, 17, 18, 19, 20, 6, 21, 22, 23, 24, 25, 26, 27, 28, 29, 30, 31, 32, 33, 34, 35, 36, 37, 38, 39, 40, 41, 42, 43, 44, 45, 3, 4, 5, 46, 47, 48, 49, 50, 51, 52, 53, 54, 55, 56, 57, 58, 59, 60, 61, 62, 63, 64, 65, 66, 67, 68, 69, 70, 71, 72, 73, 74, 75] (by decide +kernel) (by decide +kernel)
set_option maxRecDepth 20000 in
theorem gX11_assigns_X11_tries : GoodIn wsX11_assigns (wsV RX11 156 RX11 yX11_tries wsX11_tries) := goodIn_app (goodIn_of _ (by decide +kernel)) ggX11_assigns_X11_tries
set_option maxRecDepth 20000 in
theorem ggX11_assigned_X11_isDrone : GoodIn wsX11_assigned wsX11_isDrone := goodIn_r _ [6, 7, 8, 9, 5, 10, 54, 55, 56, 57, 58, 59, 60, 61, 62, 63, 64, 65, 66, 67, 68, 69, 70, 71, 72, 73, 74, 75, 76, 77, 78, 79, 80, 81, 82, 83] (by decide +kernel) (by decide +kernel)
set_option maxRecDepth 20000 in
theorem gX11_assigned_X11_isDrone : GoodIn wsX11_assigned (wsV RX11 102 RX11 yX11_isDrone wsX11_isDrone) := goodIn_app (goodIn_of _ (by decide +kernel)) ggX11_assigned_X11_isDrone
set_option maxRecDepth 20000 in
theorem ggX11_assigned_X11_assigns : GoodIn wsX11_assigned wsX11_assigns := goodIn_r _ [14, 7, 15, 16, 17, 18, 5, 19, 20, 21, 22, 1, 23, 24, 25, 26, 27, 28, 29, 30, 31, 32, 33, 34, 35, 36, 37, 38, 39, 40, 41, 42, 43, 44, 45, 46, 47, 48, 49, 8, 9, 10, 50, 51, 52, 53, 54, 55, 56, 57, 58, 59, 60, 61, 62, 63, 64, 65, 66, 67, 68, 69, 70, 71, 72, 73, 74, 75, 76, 77, 78, 79, 80, 81, 82, 83] (by decide +kernel) (by decide +kernel)
set_option maxRecDepth 20000 in
theorem gX11_assigned_X11_assigns : GoodIn wsX11_assigned (wsV RX11 160 RX11 yX11_assigns wsX11_assigns) := goodIn_app (goodIn_of _ (by decide +kernel)) ggX11_assigned_X11_assigns
set_option maxRecDepth 20000 in
theorem ggX11_assignment_X11_isIn : GoodIn wsX11_assignment wsX11_isIn := goodIn_r _ [8] (by decide +kernel) (by decide +kernel)
set_option maxRecDepth 20000 in
theorem gX11_assignment_X11_isIn : GoodIn wsX11_assignment (va_wsS RX11 73 yX11_isIn wsX11_isIn) := goodIn_app (goodIn_of _ (by decide +kernel)) ggX11_assignment_X11_isIn
set_option maxRecDepth 20000 in
theorem ggX11_assignment_X11_assigns : GoodIn wsX11_assignment wsX11_assigns := goodIn_r _ [12, 13, 4, 14, 15, 16, 7, 17, 1, 2, 3, 18, 19, 20, 21, 22, 23, 24, 25, 26, 27, 28, 29, 30, 31, 32, 33, 34, 35, 36, 37, 38, 39, 40, 41, 42, 43, 44, 45, 5, 6, 8, 46, 47, 48, 49, 50, 51, 52, 53, 54, 55, 56, 57, 58, 59, 60, 61, 62, 63, 64, 65, 66, 67, 68, 69, 70, 71, 72, 73, 74, 75, 76, 77, 78, 79] (by decide +kernel) (by decide +kernel)
set_option maxRecDepth 20000 in
theorem gX11_assignment_X11_assigns : GoodIn wsX11_assignment (wsV RX11 160 RX11 yX11_assigns wsX11_assigns) := goodIn_app (goodIn_of _ (by decide +kernel)) ggX11_assignment_X11_assigns
set_option maxRecDepth 20000 in
theorem ggX11_greatestWith_X11_isIn : GoodIn wsX11_greatestWith wsX11_isIn := goodIn_r _ [6] (by decide +kernel) (by decide +kernel)
set_option maxRecDepth 20000 in
theorem gX11_greatestWith_X11_isIn : GoodIn wsX11_greatestWith (va_wsS RX11 73 yX11_isIn wsX11_isIn) := goodIn_app (goodIn_of _ (by decide +kernel)) ggX11_greatestWith_X11_isIn
set_option maxRecDepth 20000 in
theorem ggX11_greatestWith_X11_forgets : GoodIn wsX11_greatestWith wsX11_forgets := goodIn_r _ [10, 11, 54, 55, 56, 57, 58, 59, 60, 61, 62, 63, 64, 65, 66, 67, 68, 69, 70, 71, 72, 73, 74, 75, 76, 77, 78, 79, 80, 81, 82, 83] (by decide +kernel) (by decide +kernel)
set_option maxRecDepth 20000 in
theorem gX11_greatestWith_X11_forgets : GoodIn wsX11_greatestWith (wsV RX11 163 RX11 yX11_forgets wsX11_forgets) := goodIn_app (goodIn_of _ (by decide +kernel)) ggX11_greatestWith_X11_forgets
set_option maxRecDepth 20000 in
theorem ggX11_greatestWith_X11_assigns : GoodIn wsX11_greatestWith wsX11_assigns := goodIn_r _ [15, 1, 16, 17, 18, 19, 5, 20, 2, 21, 22, 23, 24, 25, 26, 27, 28, 29, 30, 31, 32, 33, 11, 34, 35, 36, 37, 38, 39, 40, 41, 42, 43, 44, 45, 46, 47, 48, 49, 3, 4, 6, 50, 51, 52, 53, 54, 55, 56, 57, 58, 59, 60, 61, 62, 63, 64, 65, 66, 67, 68, 69, 70, 71, 72, 73, 74, 75, 76, 77, 78, 79, 80, 81, 82, 83] (by decide +kernel) (by decide +kernel)
set_option maxRecDepth 20000 in
theorem gX11_greatestWith_X11_assigns : GoodIn wsX11_greatestWith (wsV RX11 160 RX11 yX11_assigns wsX11_assigns) := goodIn_app (goodIn_of _ (by decide +kernel)) ggX11_greatestWith_X11_assigns
set_option maxRecDepth 20000 in
theorem ggX11_mayDo_X11_isTakenAt : GoodIn wsX11_mayDo wsX11_isTakenAt := goodIn_r _ [5, 6, 30, 31, 32, 33, 34, 35, 36, 37, 38, 39, 40, 41, 42, 43, 44, 45, 46, 47, 48, 49, 50, 51, 52, 53, 54, 55, 56, 57, 58, 59] (by decide +kernel) (by decide +kernel)
set_option maxRecDepth 20000 in
theorem gX11_mayDo_X11_isTakenAt : GoodIn wsX11_mayDo (wsV RX11 169 RX11 yX11_isTakenAt wsX11_isTakenAt) := goodIn_app (goodIn_of _ (by decide +kernel)) ggX11_mayDo_X11_isTakenAt
set_option maxRecDepth 20000 in
theorem ggX11_mayDo_X11_next : GoodIn wsX11_mayDo wsX11_next := goodIn_r _ [10, 11, 12, 4, 13, 14, 15, 16, 17, 18, 19, 20, 21, 30, 31, 32, 33, 34, 35, 36, 37, 38, 39, 40, 41, 42, 43, 44, 45, 46, 47, 48, 49, 50, 51, 52, 53, 54, 55, 56, 57, 58, 59] (by decide +kernel) (by decide +kernel)
set_option maxRecDepth 20000 in
theorem gX11_mayDo_X11_next : GoodIn wsX11_mayDo (wsV RX11 125 RX11 yX11_next wsX11_next) := goodIn_app (goodIn_of _ (by decide +kernel)) ggX11_mayDo_X11_next
set_option maxRecDepth 20000 in
theorem ggX11_mayDo_X11_ticks : GoodIn wsX11_mayDo wsX11_ticks := goodIn_r _ [25, 21, 11, 12, 4, 13, 30, 31, 32, 33, 34, 35, 36, 37, 38, 39, 40, 41, 42, 43, 44, 45, 46, 47, 48, 49, 50, 51, 52, 53, 54, 55, 56, 57, 58, 59] (by decide +kernel) (by decide +kernel)
set_option maxRecDepth 20000 in
theorem gX11_mayDo_X11_ticks : GoodIn wsX11_mayDo (wsV RX11 129 RX11 yX11_ticks wsX11_ticks) := goodIn_app (goodIn_of _ (by decide +kernel)) ggX11_mayDo_X11_ticks
set_option maxRecDepth 20000 in
theorem ggX11_mayDo_X11_isMet : GoodIn wsX11_mayDo wsX11_isMet := goodIn_r _ [29, 6, 30, 31, 32, 33, 34, 35, 36, 37, 38, 39, 40, 41, 42, 43, 44, 45, 46, 47, 48, 49, 50, 51, 52, 53, 54, 55, 56, 57, 58, 59] (by decide +kernel) (by decide +kernel)
set_option maxRecDepth 20000 in
theorem gX11_mayDo_X11_isMet : GoodIn wsX11_mayDo (wsV RX11 173 RX11 yX11_isMet wsX11_isMet) := goodIn_app (goodIn_of _ (by decide +kernel)) ggX11_mayDo_X11_isMet
set_option maxRecDepth 20000 in
theorem ggX11_mayStay_X11_isTakenAt : GoodIn wsX11_mayStay wsX11_isTakenAt := goodIn_r _ [5, 6, 7, 8, 9, 10, 11, 12, 13, 14, 15, 16, 17, 18, 19, 20, 21, 22, 23, 24, 25, 26, 27, 28, 29, 30, 31, 32, 33, 34, 35, 36] (by decide +kernel) (by decide +kernel)
set_option maxRecDepth 20000 in
theorem gX11_mayStay_X11_isTakenAt : GoodIn wsX11_mayStay (wsV RX11 169 RX11 yX11_isTakenAt wsX11_isTakenAt) := goodIn_app (goodIn_of _ (by decide +kernel)) ggX11_mayStay_X11_isTakenAt
set_option maxRecDepth 20000 in
theorem ggX11_earliest_X11_mayStay : GoodIn wsX11_earliest wsX11_mayStay := goodIn_r _ [8, 9, 10, 11, 7, 12, 13, 43, 44, 45, 46, 47, 48, 49, 50, 51, 52, 53, 54, 55, 56, 57, 58, 59, 60, 61, 62, 63, 64, 65, 66, 67, 68, 69, 70, 71, 72] (by decide +kernel) (by decide +kernel)
set_option maxRecDepth 20000 in
theorem gX11_earliest_X11_mayStay : GoodIn wsX11_earliest (wsV RX11 176 RX11 yX11_mayStay wsX11_mayStay) := goodIn_app (goodIn_of _ (by decide +kernel)) ggX11_earliest_X11_mayStay
set_option maxRecDepth 20000 in
theorem ggX11_earliest_X11_mayDo : GoodIn wsX11_earliest wsX11_mayDo := goodIn_r _ [17, 9, 10, 11, 7, 12, 13, 18, 19, 20, 21, 22, 23, 24, 25, 26, 27, 28, 29, 30, 31, 2, 32, 33, 34, 35, 36, 37, 38, 39, 43, 44, 45, 46, 47, 48, 49, 50, 51, 52, 53, 54, 55, 56, 57, 58, 59, 60, 61, 62, 63, 64, 65, 66, 67, 68, 69, 70, 71, 72] (by decide +kernel) (by decide +kernel)
set_option maxRecDepth 20000 in
theorem gX11_earliest_X11_mayDo : GoodIn wsX11_earliest (wsV RX11 179 RX11 yX11_mayDo wsX11_mayDo) := goodIn_app (goodIn_of _ (by decide +kernel)) ggX11_earliest_X11_mayDo
set_option maxRecDepth 20000 in
theorem ggX11_earliest_X11_ticks : GoodIn wsX11_earliest wsX11_ticks := goodIn_r _ [35, 2, 22, 23, 7, 24, 43, 44, 45, 46, 47, 48, 49, 50, 51, 52, 53, 54, 55, 56, 57, 58, 59, 60, 61, 62, 63, 64, 65, 66, 67, 68, 69, 70, 71, 72] (by decide +kernel) (by decide +kernel)
set_option maxRecDepth 20000 in
theorem gX11_earliest_X11_ticks : GoodIn wsX11_earliest (wsV RX11 129 RX11 yX11_ticks wsX11_ticks) := goodIn_app (goodIn_of _ (by decide +kernel)) ggX11_earliest_X11_ticks
set_option maxRecDepth 20000 in
theorem ggX11_earliest_X11_next : GoodIn wsX11_earliest wsX11_next := goodIn_r _ [21, 22, 23, 7, 24, 25, 26, 27, 28, 29, 30, 31, 2, 43, 44, 45, 46, 47, 48, 49, 50, 51, 52, 53, 54, 55, 56, 57, 58, 59, 60, 61, 62, 63, 64, 65, 66, 67, 68, 69, 70, 71, 72] (by decide +kernel) (by decide +kernel)
set_option maxRecDepth 20000 in
theorem gX11_earliest_X11_next : GoodIn wsX11_earliest (wsV RX11 125 RX11 yX11_next wsX11_next) := goodIn_app (goodIn_of _ (by decide +kernel)) ggX11_earliest_X11_next
set_option maxRecDepth 20000 in
theorem ggX11_earliest_X11_where : GoodIn wsX11_earliest wsX11_where := goodIn_r _ [42] (by decide +kernel) (by decide +kernel)
set_option maxRecDepth 20000 in
theorem gX11_earliest_X11_where : GoodIn wsX11_earliest (va_wsS RX11 182 yX11_where wsX11_where) := goodIn_app (goodIn_of _ (by decide +kernel)) ggX11_earliest_X11_where
set_option maxRecDepth 20000 in
theorem ggX11_goesBack_X11_ticks : GoodIn wsX11_goesBack wsX11_ticks := goodIn_r _ [9, 10, 11, 12, 8, 13, 41, 42, 43, 44, 45, 46, 47, 48, 49, 50, 51, 52, 53, 54, 55, 56, 57, 58, 59, 60, 61, 62, 63, 64, 65, 66, 67, 68, 69, 70] (by decide +kernel) (by decide +kernel)
set_option maxRecDepth 20000 in
theorem gX11_goesBack_X11_ticks : GoodIn wsX11_goesBack (wsV RX11 129 RX11 yX11_ticks wsX11_ticks) := goodIn_app (goodIn_of _ (by decide +kernel)) ggX11_goesBack_X11_ticks
set_option maxRecDepth 20000 in
theorem ggX11_goesBack_X11_mayDo : GoodIn wsX11_goesBack wsX11_mayDo := goodIn_r _ [17, 18, 19, 20, 8, 21, 22, 23, 24, 25, 26, 11, 12, 13, 27, 28, 29, 30, 31, 32, 33, 10, 5, 6, 7, 9, 34, 35, 36, 37, 41, 42, 43, 44, 45, 46, 47, 48, 49, 50, 51, 52, 53, 54, 55, 56, 57, 58, 59, 60, 61, 62, 63, 64, 65, 66, 67, 68, 69, 70] (by decide +kernel) (by decide +kernel)
set_option maxRecDepth 20000 in
theorem gX11_goesBack_X11_mayDo : GoodIn wsX11_goesBack (wsV RX11 179 RX11 yX11_mayDo wsX11_mayDo) := goodIn_app (goodIn_of _ (by decide +kernel)) ggX11_goesBack_X11_mayDo
set_option maxRecDepth 20000 in
theorem ggX11_goesBack_X11_next : GoodIn wsX11_goesBack wsX11_next := goodIn_r _ [26, 11, 12, 8, 13, 27, 28, 29, 30, 31, 32, 33, 10, 41, 42, 43, 44, 45, 46, 47, 48, 49, 50, 51, 52, 53, 54, 55, 56, 57, 58, 59, 60, 61, 62, 63, 64, 65, 66, 67, 68, 69, 70] (by decide +kernel) (by decide +kernel)
set_option maxRecDepth 20000 in
theorem gX11_goesBack_X11_next : GoodIn wsX11_goesBack (wsV RX11 125 RX11 yX11_next wsX11_next) := goodIn_app (goodIn_of _ (by decide +kernel)) ggX11_goesBack_X11_next
set_option maxRecDepth 20000 in
theorem ggX11_goesBack_X11_where : GoodIn wsX11_goesBack wsX11_where := goodIn_r _ [40] (by decide +kernel) (by decide +kernel)
set_option maxRecDepth 20000 in
theorem gX11_goesBack_X11_where : GoodIn wsX11_goesBack (va_wsS RX11 182 yX11_where wsX11_where) := goodIn_app (goodIn_of _ (by decide +kernel)) ggX11_goesBack_X11_where
set_option maxRecDepth 20000 in
theorem ggX11_writes_X11_ticks : GoodIn wsX11_writes wsX11_ticks := goodIn_r _ [8, 2, 9, 10, 7, 11, 45, 46, 47, 48, 49, 50, 51, 52, 53, 54, 55, 56, 57, 58, 59, 60, 61, 62, 63, 64, 65, 66, 67, 68, 69, 70, 71, 72, 73, 74] (by decide +kernel) (by decide +kernel)
set_option maxRecDepth 20000 in
theorem gX11_writes_X11_ticks : GoodIn wsX11_writes (wsV RX11 129 RX11 yX11_ticks wsX11_ticks) := goodIn_app (goodIn_of _ (by decide +kernel)) ggX11_writes_X11_ticks
set_option maxRecDepth 20000 in
theorem ggX11_writes_X11_mayDo : GoodIn wsX11_writes wsX11_mayDo := goodIn_r _ [15, 16, 17, 18, 7, 19, 20, 21, 22, 23, 24, 9, 10, 11, 25, 26, 27, 28, 29, 30, 31, 2, 4, 5, 6, 8, 32, 33, 34, 35, 45, 46, 47, 48, 49, 50, 51, 52, 53, 54, 55, 56, 57, 58, 59, 60, 61, 62, 63, 64, 65, 66, 67, 68, 69, 70, 71, 72, 73, 74] (by decide +kernel) (by decide +kernel)
set_option maxRecDepth 20000 in
theorem gX11_writes_X11_mayDo : GoodIn wsX11_writes (wsV RX11 179 RX11 yX11_mayDo wsX11_mayDo) := goodIn_app (goodIn_of _ (by decide +kernel)) ggX11_writes_X11_mayDo
set_option maxRecDepth 20000 in
theorem ggX11_writes_X11_next : GoodIn wsX11_writes wsX11_next := goodIn_r _ [24, 9, 10, 7, 11, 25, 26, 27, 28, 29, 30, 31, 2, 45, 46, 47, 48, 49, 50, 51, 52, 53, 54, 55, 56, 57, 58, 59, 60, 61, 62, 63, 64, 65, 66, 67, 68, 69, 70, 71, 72, 73, 74] (by decide +kernel) (by decide +kernel)
set_option maxRecDepth 20000 in
theorem gX11_writes_X11_next : GoodIn wsX11_writes (wsV RX11 125 RX11 yX11_next wsX11_next) := goodIn_app (goodIn_of _ (by decide +kernel)) ggX11_writes_X11_next
set_option maxRecDepth 20000 in
theorem ggX11_writes_X11_where : GoodIn wsX11_writes wsX11_where := goodIn_r _ [38] (by decide +kernel) (by decide +kernel)
set_option maxRecDepth 20000 in
theorem gX11_writes_X11_where : GoodIn wsX11_writes (va_wsS RX11 182 yX11_where wsX11_where) := goodIn_app (goodIn_of _ (by decide +kernel)) ggX11_writes_X11_where
set_option maxRecDepth 20000 in
theorem ggX11_writes_X11_put : GoodIn wsX11_writes wsX11_put := goodIn_r _ [42, 43, 44, 45, 46, 47, 48, 49, 50, 51, 52, 53, 54, 55, 56, 57, 58, 59, 60, 61, 62, 63, 64, 65, 66, 67, 68, 69, 70, 71, 72, 73, 74] (by decide +kernel) (by decide +kernel)
set_option maxRecDepth 20000 in
theorem gX11_writes_X11_put : GoodIn wsX11_writes (wsV RX11 186 RX11 yX11_put wsX11_put) := goodIn_app (goodIn_of _ (by decide +kernel)) ggX11_writes_X11_put
set_option maxRecDepth 20000 in
theorem ggX11_nextDrone_X11_time : GoodIn wsX11_nextDrone wsX11_time := goodIn_r _ [7, 8, 9, 10, 11, 12, 6, 13, 14, 15, 16, 17, 18, 1, 19, 20, 21, 22, 23, 24, 25, 26, 27, 28, 29, 30, 31, 32, 33, 34, 35, 36, 37, 38, 39, 40, 41, 42, 43, 44, 45, 46, 47, 48, 49, 50, 51, 52, 53, 54, 55, 56, 57, 58, 59, 60, 61, 62] (by decide +kernel) (by decide +kernel)
set_option maxRecDepth 20000 in
theorem gX11_nextDrone_X11_time : GoodIn wsX11_nextDrone (wsV RX11 136 RX11 yX11_time wsX11_time) := goodIn_app (goodIn_of _ (by decide +kernel)) ggX11_nextDrone_X11_time
set_option maxRecDepth 20000 in
theorem ggX11_plan_X11_assigns : GoodIn wsX11_plan wsX11_assigns := goodIn_r _ [21, 7, 22, 23, 24, 25, 20, 26, 27, 28, 29, 9, 30, 31, 13, 14, 15, 16, 32, 33, 34, 35, 36, 37, 38, 39, 40, 41, 42, 43, 44, 45, 46, 47, 48, 49, 50, 51, 52, 53, 54, 55, 56, 57, 58, 59, 110, 111, 112, 113, 114, 115, 116, 117, 118, 119, 120, 121, 122, 123, 124, 125, 126, 127, 128, 129, 130, 131, 132, 133, 134, 135, 136, 137, 138, 139] (by decide +kernel) (by decide +kernel)
set_option maxRecDepth 20000 in
theorem gX11_plan_X11_assigns : GoodIn wsX11_plan (wsV RX11 160 RX11 yX11_assigns wsX11_assigns) := goodIn_app (goodIn_of _ (by decide +kernel)) ggX11_plan_X11_assigns
set_option maxRecDepth 20000 in
theorem ggX11_plan_X11_nextDrone : GoodIn wsX11_plan wsX11_nextDrone := goodIn_r _ [63, 7, 8, 32, 33, 34, 20, 35, 36, 37, 38, 39, 40, 41, 31, 42, 43, 44, 45, 46, 47, 48, 49, 50, 51, 52, 53, 54, 55, 56, 57, 58, 59, 110, 111, 112, 113, 114, 115, 116, 117, 118, 119, 120, 121, 122, 123, 124, 125, 126, 127, 128, 129, 130, 131, 132, 133, 134, 135, 136, 137, 138, 139] (by decide +kernel) (by decide +kernel)
set_option maxRecDepth 20000 in
theorem gX11_plan_X11_nextDrone : GoodIn wsX11_plan (wsV RX11 198 RX11 yX11_nextDrone wsX11_nextDrone) := goodIn_app (goodIn_of _ (by decide +kernel)) ggX11_plan_X11_nextDrone
set_option maxRecDepth 20000 in
theorem ggX11_plan_X11_earliest : GoodIn wsX11_plan wsX11_earliest := goodIn_r _ [67, 68, 7, 8, 69, 70, 71, 20, 72, 73, 74, 75, 76, 6, 77, 78, 79, 80, 46, 47, 48, 49, 50, 51, 52, 53, 54, 55, 42, 43, 44, 45, 56, 57, 58, 59, 81, 82, 83, 84, 85, 86, 87, 110, 111, 112, 113, 114, 115, 116, 117, 118, 119, 120, 121, 122, 123, 124, 125, 126, 127, 128, 129, 130, 131, 132, 133, 134, 135, 136, 137, 138, 139] (by decide +kernel) (by decide +kernel)
set_option maxRecDepth 20000 in
theorem gX11_plan_X11_earliest : GoodIn wsX11_plan (wsV RX11 201 RX11 yX11_earliest wsX11_earliest) := goodIn_app (goodIn_of _ (by decide +kernel)) ggX11_plan_X11_earliest
set_option maxRecDepth 20000 in
theorem ggX11_plan_X11_goesBack : GoodIn wsX11_plan wsX11_goesBack := goodIn_r _ [91, 10, 92, 8, 68, 56, 57, 58, 20, 59, 7, 50, 51, 52, 77, 78, 79, 80, 73, 74, 75, 76, 6, 46, 47, 48, 49, 53, 54, 55, 42, 43, 44, 45, 81, 82, 83, 84, 85, 86, 87, 110, 111, 112, 113, 114, 115, 116, 117, 118, 119, 120, 121, 122, 123, 124, 125, 126, 127, 128, 129, 130, 131, 132, 133, 134, 135, 136, 137, 138, 139] (by decide +kernel) (by decide +kernel)
set_option maxRecDepth 20000 in
theorem gX11_plan_X11_goesBack : GoodIn wsX11_plan (wsV RX11 204 RX11 yX11_goesBack wsX11_goesBack) := goodIn_app (goodIn_of _ (by decide +kernel)) ggX11_plan_X11_goesBack
set_option maxRecDepth 20000 in
theorem ggX11_plan_X11_writes : GoodIn wsX11_plan wsX11_writes := goodIn_r _ [96, 10, 7, 92, 56, 57, 58, 20, 59, 50, 51, 52, 77, 78, 79, 80, 73, 74, 75, 76, 6, 46, 47, 48, 49, 53, 54, 55, 42, 43, 44, 45, 81, 82, 83, 84, 85, 86, 87, 97, 98, 99, 100, 101, 102, 110, 111, 112, 113, 114, 115, 116, 117, 118, 119, 120, 121, 122, 123, 124, 125, 126, 127, 128, 129, 130, 131, 132, 133, 134, 135, 136, 137, 138, 139] (by decide +kernel) (by decide +kernel)
set_option maxRecDepth 20000 in
theorem gX11_plan_X11_writes : GoodIn wsX11_plan (wsV RX11 207 RX11 yX11_writes wsX11_writes) := goodIn_app (goodIn_of _ (by decide +kernel)) ggX11_plan_X11_writes
set_option maxRecDepth 20000 in
theorem ggX11_plan_X11_cell : GoodIn wsX11_plan wsX11_cell := goodIn_r _ [106, 101, 107, 108, 15, 109, 110, 111, 112, 113, 114, 115, 116, 117, 118, 119, 120, 121, 122, 123, 124, 125, 126, 127, 128, 129, 130, 131, 132, 133, 134, 135, 136, 137, 138, 139] (by decide +kernel) (by decide +kernel)
set_option maxRecDepth 20000 in
theorem gX11_plan_X11_cell : GoodIn wsX11_plan (wsV RX11 210 RX11 yX11_cell wsX11_cell) := goodIn_app (goodIn_of _ (by decide +kernel)) ggX11_plan_X11_cell
set_option maxRecDepth 20000 in
theorem ggX11_at_X11_isDrone : GoodIn wsX11_at wsX11_isDrone := goodIn_r _ [7, 8, 9, 10, 6, 11, 21, 22, 23, 24, 25, 26, 27, 28, 29, 30, 31, 32, 33, 34, 35, 36, 37, 38, 39, 40, 41, 42, 43, 44, 45, 46, 47, 48, 49, 50] (by decide +kernel) (by decide +kernel)
set_option maxRecDepth 20000 in
theorem gX11_at_X11_isDrone : GoodIn wsX11_at (wsV RX11 102 RX11 yX11_isDrone wsX11_isDrone) := goodIn_app (goodIn_of _ (by decide +kernel)) ggX11_at_X11_isDrone
set_option maxRecDepth 20000 in
theorem ggX11_at_X11_isIn : GoodIn wsX11_at wsX11_isIn := goodIn_r _ [11] (by decide +kernel) (by decide +kernel)
set_option maxRecDepth 20000 in
theorem gX11_at_X11_isIn : GoodIn wsX11_at (va_wsS RX11 73 yX11_isIn wsX11_isIn) := goodIn_app (goodIn_of _ (by decide +kernel)) ggX11_at_X11_isIn
set_option maxRecDepth 20000 in
theorem ggX11_at_X11_cell : GoodIn wsX11_at wsX11_cell := goodIn_r _ [15, 16, 17, 18, 19, 20, 21, 22, 23, 24, 25, 26, 27, 28, 29, 30, 31, 32, 33, 34, 35, 36, 37, 38, 39, 40, 41, 42, 43, 44, 45, 46, 47, 48, 49, 50] (by decide +kernel) (by decide +kernel)
set_option maxRecDepth 20000 in
theorem gX11_at_X11_cell : GoodIn wsX11_at (wsV RX11 210 RX11 yX11_cell wsX11_cell) := goodIn_app (goodIn_of _ (by decide +kernel)) ggX11_at_X11_cell
set_option maxRecDepth 20000 in
theorem ggX11_action_X11_isDrone : GoodIn wsX11_action wsX11_isDrone := goodIn_r _ [7, 8, 9, 10, 6, 11, 18, 19, 20, 21, 22, 23, 24, 25, 26, 27, 28, 29, 30, 31, 32, 33, 34, 35, 36, 37, 38, 39, 40, 41, 42, 43, 44, 45, 46, 47] (by decide +kernel) (by decide +kernel)
set_option maxRecDepth 20000 in
theorem gX11_action_X11_isDrone : GoodIn wsX11_action (wsV RX11 102 RX11 yX11_isDrone wsX11_isDrone) := goodIn_app (goodIn_of _ (by decide +kernel)) ggX11_action_X11_isDrone
set_option maxRecDepth 20000 in
theorem ggX11_action_X11_isIn : GoodIn wsX11_action wsX11_isIn := goodIn_r _ [11] (by decide +kernel) (by decide +kernel)
set_option maxRecDepth 20000 in
theorem gX11_action_X11_isIn : GoodIn wsX11_action (va_wsS RX11 73 yX11_isIn wsX11_isIn) := goodIn_app (goodIn_of _ (by decide +kernel)) ggX11_action_X11_isIn
set_option maxRecDepth 20000 in
theorem ggX11_action_X11_actionOf : GoodIn wsX11_action wsX11_actionOf := goodIn_r _ [15, 16, 17, 18, 19, 20, 21, 22, 23, 24, 25, 26, 27, 28, 29, 30, 31, 32, 33, 34, 35, 36, 37, 38, 39, 40, 41, 42, 43, 44, 45, 46, 47] (by decide +kernel) (by decide +kernel)
set_option maxRecDepth 20000 in
theorem gX11_action_X11_actionOf : GoodIn wsX11_action (wsV RX11 213 RX11 yX11_actionOf wsX11_actionOf) := goodIn_app (goodIn_of _ (by decide +kernel)) ggX11_action_X11_actionOf
set_option maxRecDepth 20000 in
theorem ggX11_waits_X11_actionOf : GoodIn wsX11_waits wsX11_actionOf := goodIn_r _ [7, 2, 8, 9, 10, 11, 12, 13, 14, 15, 16, 17, 18, 19, 20, 21, 22, 23, 24, 25, 26, 27, 28, 29, 30, 31, 32, 33, 34, 35, 36, 37, 38] (by decide +kernel) (by decide +kernel)
set_option maxRecDepth 20000 in
theorem gX11_waits_X11_actionOf : GoodIn wsX11_waits (wsV RX11 213 RX11 yX11_actionOf wsX11_actionOf) := goodIn_app (goodIn_of _ (by decide +kernel)) ggX11_waits_X11_actionOf
set_option maxRecDepth 20000 in
theorem ggX11_flight_X11_isDrone : GoodIn wsX11_flight wsX11_isDrone := goodIn_r _ [14, 15, 16, 17, 13, 18, 66, 67, 68, 69, 70, 71, 72, 73, 74, 75, 76, 77, 78, 79, 80, 81, 82, 83, 84, 85, 86, 87, 88, 89, 90, 91, 92, 93, 94, 95] (by decide +kernel) (by decide +kernel)
set_option maxRecDepth 20000 in
theorem gX11_flight_X11_isDrone : GoodIn wsX11_flight (wsV RX11 102 RX11 yX11_isDrone wsX11_isDrone) := goodIn_app (goodIn_of _ (by decide +kernel)) ggX11_flight_X11_isDrone
set_option maxRecDepth 20000 in
theorem ggX11_flight_X11_isIn : GoodIn wsX11_flight wsX11_isIn := goodIn_r _ [18] (by decide +kernel) (by decide +kernel)
set_option maxRecDepth 20000 in
theorem gX11_flight_X11_isIn : GoodIn wsX11_flight (va_wsS RX11 73 yX11_isIn wsX11_isIn) := goodIn_app (goodIn_of _ (by decide +kernel)) ggX11_flight_X11_isIn
set_option maxRecDepth 20000 in
theorem ggX11_flight_X11_waits : GoodIn wsX11_flight wsX11_waits := goodIn_r _ [22, 3, 2, 23, 24, 25, 13, 26, 27, 66, 67, 68, 69, 70, 71, 72, 73, 74, 75, 76, 77, 78, 79, 80, 81, 82, 83, 84, 85, 86, 87, 88, 89, 90, 91, 92, 93, 94, 95] (by decide +kernel) (by decide +kernel)
set_option maxRecDepth 20000 in
theorem gX11_flight_X11_waits : GoodIn wsX11_flight (wsV RX11 216 RX11 yX11_waits wsX11_waits) := goodIn_app (goodIn_of _ (by decide +kernel)) ggX11_flight_X11_waits
set_option maxRecDepth 20000 in
theorem ggX11_flight_X11_cell : GoodIn wsX11_flight wsX11_cell := goodIn_r _ [31, 32, 33, 34, 6, 35, 66, 67, 68, 69, 70, 71, 72, 73, 74, 75, 76, 77, 78, 79, 80, 81, 82, 83, 84, 85, 86, 87, 88, 89, 90, 91, 92, 93, 94, 95] (by decide +kernel) (by decide +kernel)
set_option maxRecDepth 20000 in
theorem gX11_flight_X11_cell : GoodIn wsX11_flight (wsV RX11 210 RX11 yX11_cell wsX11_cell) := goodIn_app (goodIn_of _ (by decide +kernel)) ggX11_flight_X11_cell
set_option maxRecDepth 20000 in
theorem ggX11_flight_X11_time : GoodIn wsX11_flight wsX11_time := goodIn_r _ [39, 40, 41, 42, 43, 44, 13, 45, 46, 47, 48, 49, 50, 15, 51, 52, 53, 54, 55, 56, 57, 16, 17, 18, 58, 59, 60, 61, 66, 67, 68, 69, 70, 71, 72, 73, 74, 75, 76, 77, 78, 79, 80, 81, 82, 83, 84, 85, 86, 87, 88, 89, 90, 91, 92, 93, 94, 95] (by decide +kernel) (by decide +kernel)
set_option maxRecDepth 20000 in
theorem gX11_flight_X11_time : GoodIn wsX11_flight (wsV RX11 136 RX11 yX11_time wsX11_time) := goodIn_app (goodIn_of _ (by decide +kernel)) ggX11_flight_X11_time
set_option maxRecDepth 20000 in
theorem ggX11_flight_X11_slotAt : GoodIn wsX11_flight wsX11_slotAt := goodIn_r _ [65, 15, 66, 67, 68, 69, 70, 71, 72, 73, 74, 75, 76, 77, 78, 79, 80, 81, 82, 83, 84, 85, 86, 87, 88, 89, 90, 91, 92, 93, 94, 95] (by decide +kernel) (by decide +kernel)
set_option maxRecDepth 20000 in
theorem gX11_flight_X11_slotAt : GoodIn wsX11_flight (wsV RX11 96 RX11 yX11_slotAt wsX11_slotAt) := goodIn_app (goodIn_of _ (by decide +kernel)) ggX11_flight_X11_slotAt
set_option maxRecDepth 20000 in
theorem ggX11_isMetBy_X11_ticks : GoodIn wsX11_isMetBy wsX11_ticks := goodIn_r _ [5, 6, 7, 8, 4, 9, 30, 31, 32, 33, 34, 35, 36, 37, 38, 39, 40, 41, 42, 43, 44, 45, 46, 47, 48, 49, 50, 51, 52, 53, 54, 55, 56, 57, 58, 59] (by decide +kernel) (by decide +kernel)
set_option maxRecDepth 20000 in
theorem gX11_isMetBy_X11_ticks : GoodIn wsX11_isMetBy (wsV RX11 129 RX11 yX11_ticks wsX11_ticks) := goodIn_app (goodIn_of _ (by decide +kernel)) ggX11_isMetBy_X11_ticks
set_option maxRecDepth 20000 in
theorem ggX11_isMetBy_X11_next : GoodIn wsX11_isMetBy wsX11_next := goodIn_r _ [13, 7, 8, 4, 9, 14, 15, 16, 17, 18, 19, 20, 6, 30, 31, 32, 33, 34, 35, 36, 37, 38, 39, 40, 41, 42, 43, 44, 45, 46, 47, 48, 49, 50, 51, 52, 53, 54, 55, 56, 57, 58, 59] (by decide +kernel) (by decide +kernel)
set_option maxRecDepth 20000 in
theorem gX11_isMetBy_X11_next : GoodIn wsX11_isMetBy (wsV RX11 125 RX11 yX11_next wsX11_next) := goodIn_app (goodIn_of _ (by decide +kernel)) ggX11_isMetBy_X11_next
set_option maxRecDepth 20000 in
theorem ggX11_isMetBy_X11_cell : GoodIn wsX11_isMetBy wsX11_cell := goodIn_r _ [24, 25, 26, 27, 28, 29, 30, 31, 32, 33, 34, 35, 36, 37, 38, 39, 40, 41, 42, 43, 44, 45, 46, 47, 48, 49, 50, 51, 52, 53, 54, 55, 56, 57, 58, 59] (by decide +kernel) (by decide +kernel)
set_option maxRecDepth 20000 in
theorem gX11_isMetBy_X11_cell : GoodIn wsX11_isMetBy (wsV RX11 210 RX11 yX11_cell wsX11_cell) := goodIn_app (goodIn_of _ (by decide +kernel)) ggX11_isMetBy_X11_cell
set_option maxRecDepth 20000 in
theorem ggX11_explain_X11_isDrone : GoodIn wsX11_explain wsX11_isDrone := goodIn_r _ [11, 5, 12, 13, 10, 14, 63, 64, 65, 66, 67, 68, 69, 70, 71, 72, 73, 74, 75, 76, 77, 78, 79, 80, 81, 82, 83, 84, 85, 86, 87, 88, 89, 90, 91, 92] (by decide +kernel) (by decide +kernel)
set_option maxRecDepth 20000 in
theorem gX11_explain_X11_isDrone : GoodIn wsX11_explain (wsV RX11 102 RX11 yX11_isDrone wsX11_isDrone) := goodIn_app (goodIn_of _ (by decide +kernel)) ggX11_explain_X11_isDrone
set_option maxRecDepth 20000 in
theorem ggX11_explain_X11_isIn : GoodIn wsX11_explain wsX11_isIn := goodIn_r _ [14] (by decide +kernel) (by decide +kernel)
set_option maxRecDepth 20000 in
theorem gX11_explain_X11_isIn : GoodIn wsX11_explain (va_wsS RX11 73 yX11_isIn wsX11_isIn) := goodIn_app (goodIn_of _ (by decide +kernel)) ggX11_explain_X11_isIn
set_option maxRecDepth 20000 in
theorem ggX11_explain_X11_actionOf : GoodIn wsX11_explain wsX11_actionOf := goodIn_r _ [18, 3, 19, 63, 64, 65, 66, 67, 68, 69, 70, 71, 72, 73, 74, 75, 76, 77, 78, 79, 80, 81, 82, 83, 84, 85, 86, 87, 88, 89, 90, 91, 92] (by decide +kernel) (by decide +kernel)
set_option maxRecDepth 20000 in
theorem gX11_explain_X11_actionOf : GoodIn wsX11_explain (wsV RX11 213 RX11 yX11_actionOf wsX11_actionOf) := goodIn_app (goodIn_of _ (by decide +kernel)) ggX11_explain_X11_actionOf
set_option maxRecDepth 20000 in
theorem ggX11_explain_X11_cell : GoodIn wsX11_explain wsX11_cell := goodIn_r _ [23, 24, 25, 26, 27, 28, 63, 64, 65, 66, 67, 68, 69, 70, 71, 72, 73, 74, 75, 76, 77, 78, 79, 80, 81, 82, 83, 84, 85, 86, 87, 88, 89, 90, 91, 92] (by decide +kernel) (by decide +kernel)
set_option maxRecDepth 20000 in
theorem gX11_explain_X11_cell : GoodIn wsX11_explain (wsV RX11 210 RX11 yX11_cell wsX11_cell) := goodIn_app (goodIn_of _ (by decide +kernel)) ggX11_explain_X11_cell
set_option maxRecDepth 20000 in
theorem ggX11_explain_X11_firstAction : GoodIn wsX11_explain wsX11_firstAction := goodIn_r _ [32, 33, 34, 35, 10, 36, 37, 38, 39, 12, 13, 14, 40, 41, 42, 43, 5, 44, 45, 46, 47, 48, 49, 50, 51, 52, 53, 54, 55, 56, 57, 58, 63, 64, 65, 66, 67, 68, 69, 70, 71, 72, 73, 74, 75, 76, 77, 78, 79, 80, 81, 82, 83, 84, 85, 86, 87, 88, 89, 90, 91, 92] (by decide +kernel) (by decide +kernel)
set_option maxRecDepth 20000 in
theorem gX11_explain_X11_firstAction : GoodIn wsX11_explain (wsV RX11 219 RX11 yX11_firstAction wsX11_firstAction) := goodIn_app (goodIn_of _ (by decide +kernel)) ggX11_explain_X11_firstAction
set_option maxRecDepth 20000 in
theorem ggX11_explain_X11_isMetBy : GoodIn wsX11_explain wsX11_isMetBy := goodIn_r _ [62, 44, 45, 46, 10, 47, 5, 37, 38, 39, 33, 34, 35, 36, 12, 13, 14, 40, 41, 42, 43, 20, 21, 22, 23, 24, 25, 26, 27, 28, 63, 64, 65, 66, 67, 68, 69, 70, 71, 72, 73, 74, 75, 76, 77, 78, 79, 80, 81, 82, 83, 84, 85, 86, 87, 88, 89, 90, 91, 92] (by decide +kernel) (by decide +kernel)
set_option maxRecDepth 20000 in
theorem gX11_explain_X11_isMetBy : GoodIn wsX11_explain (wsV RX11 222 RX11 yX11_isMetBy wsX11_isMetBy) := goodIn_app (goodIn_of _ (by decide +kernel)) ggX11_explain_X11_isMetBy
set_option maxRecDepth 20000 in
theorem ggX11_goesAlone_X11_cell : GoodIn wsX11_goesAlone wsX11_cell := goodIn_r _ [8, 9, 10, 11, 12, 13, 48, 49, 50, 51, 52, 53, 54, 55, 56, 57, 58, 59, 60, 61, 62, 63, 64, 65, 66, 67, 68, 69, 70, 71, 72, 73, 74, 75, 76, 77] (by decide +kernel) (by decide +kernel)
set_option maxRecDepth 20000 in
theorem gX11_goesAlone_X11_cell : GoodIn wsX11_goesAlone (wsV RX11 210 RX11 yX11_cell wsX11_cell) := goodIn_app (goodIn_of _ (by decide +kernel)) ggX11_goesAlone_X11_cell
set_option maxRecDepth 20000 in
theorem ggX11_goesAlone_X11_firstAction : GoodIn wsX11_goesAlone wsX11_firstAction := goodIn_r _ [17, 18, 19, 20, 7, 21, 22, 23, 24, 25, 26, 27, 28, 29, 30, 31, 32, 33, 34, 35, 36, 37, 38, 39, 40, 41, 42, 43, 44, 45, 46, 47, 48, 49, 50, 51, 52, 53, 54, 55, 56, 57, 58, 59, 60, 61, 62, 63, 64, 65, 66, 67, 68, 69, 70, 71, 72, 73, 74, 75, 76, 77] (by decide +kernel) (by decide +kernel)
set_option maxRecDepth 20000 in
theorem gX11_goesAlone_X11_firstAction : GoodIn wsX11_goesAlone (wsV RX11 219 RX11 yX11_firstAction wsX11_firstAction) := goodIn_app (goodIn_of _ (by decide +kernel)) ggX11_goesAlone_X11_firstAction
set_option maxRecDepth 20000 in
theorem ggX11_goesAlone_X11_ticks : GoodIn wsX11_goesAlone wsX11_ticks := goodIn_r _ [36, 32, 22, 23, 7, 24, 48, 49, 50, 51, 52, 53, 54, 55, 56, 57, 58, 59, 60, 61, 62, 63, 64, 65, 66, 67, 68, 69, 70, 71, 72, 73, 74, 75, 76, 77] (by decide +kernel) (by decide +kernel)
set_option maxRecDepth 20000 in
theorem gX11_goesAlone_X11_ticks : GoodIn wsX11_goesAlone (wsV RX11 129 RX11 yX11_ticks wsX11_ticks) := goodIn_app (goodIn_of _ (by decide +kernel)) ggX11_goesAlone_X11_ticks
set_option maxRecDepth 20000 in
theorem ggX11_goesAlone_X11_next : GoodIn wsX11_goesAlone wsX11_next := goodIn_r _ [21, 22, 23, 7, 24, 25, 26, 27, 28, 29, 30, 31, 32, 48, 49, 50, 51, 52, 53, 54, 55, 56, 57, 58, 59, 60, 61, 62, 63, 64, 65, 66, 67, 68, 69, 70, 71, 72, 73, 74, 75, 76, 77] (by decide +kernel) (by decide +kernel)
set_option maxRecDepth 20000 in
theorem gX11_goesAlone_X11_next : GoodIn wsX11_goesAlone (wsV RX11 125 RX11 yX11_next wsX11_next) := goodIn_app (goodIn_of _ (by decide +kernel)) ggX11_goesAlone_X11_next
set_option maxRecDepth 20000 in
theorem ggX11_conflictsWithout_X11_goesAlone : GoodIn wsX11_conflictsWithout wsX11_goesAlone := goodIn_r _ [7, 8, 9, 10, 11, 12, 13, 6, 14, 15, 16, 17, 18, 19, 20, 21, 22, 23, 24, 25, 26, 27, 28, 29, 30, 31, 32, 33, 34, 35, 36, 37, 2, 38, 39, 40, 41, 42, 43, 44, 45, 46, 47, 48, 49, 50, 51, 52, 57, 58, 59, 60, 61, 62, 63, 64, 65, 66, 67, 68, 69, 70, 71, 72, 73, 74, 75, 76, 77, 78, 79, 80, 81, 82, 83, 84, 85, 86] (by decide +kernel) (by decide +kernel)
set_option maxRecDepth 20000 in
theorem gX11_conflictsWithout_X11_goesAlone : GoodIn wsX11_conflictsWithout (wsV RX11 226 RX11 yX11_goesAlone wsX11_goesAlone) := goodIn_app (goodIn_of _ (by decide +kernel)) ggX11_conflictsWithout_X11_goesAlone
set_option maxRecDepth 20000 in
theorem ggX11_conflictsWithout_X11_areInConflict : GoodIn wsX11_conflictsWithout wsX11_areInConflict := goodIn_r _ [56, 9, 57, 58, 59, 60, 61, 62, 63, 64, 65, 66, 67, 68, 69, 70, 71, 72, 73, 74, 75, 76, 77, 78, 79, 80, 81, 82, 83, 84, 85, 86] (by decide +kernel) (by decide +kernel)
set_option maxRecDepth 20000 in
theorem gX11_conflictsWithout_X11_areInConflict : GoodIn wsX11_conflictsWithout (wsV RX11 229 RX11 yX11_areInConflict wsX11_areInConflict) := goodIn_app (goodIn_of _ (by decide +kernel)) ggX11_conflictsWithout_X11_areInConflict
set_option maxRecDepth 20000 in
theorem ggX11_fly_X11_isIn : GoodIn wsX11_fly wsX11_isIn := goodIn_r _ [8] (by decide +kernel) (by decide +kernel)
set_option maxRecDepth 20000 in
theorem gX11_fly_X11_isIn : GoodIn wsX11_fly (va_wsS RX11 73 yX11_isIn wsX11_isIn) := goodIn_app (goodIn_of _ (by decide +kernel)) ggX11_fly_X11_isIn
set_option maxRecDepth 20000 in
theorem ggX11_fly_X11_keeps : GoodIn wsX11_fly wsX11_keeps := goodIn_r _ [12, 13, 14, 3, 24, 25, 26, 27, 28, 29, 30, 31, 32, 33, 34, 35, 36, 37, 38, 39, 40, 41, 42, 43, 44, 45, 46, 47, 48, 49, 50, 51, 52, 53] (by decide +kernel) (by decide +kernel)
set_option maxRecDepth 20000 in
theorem gX11_fly_X11_keeps : GoodIn wsX11_fly (wsV RX11 80 RX11 yX11_keeps wsX11_keeps) := goodIn_app (goodIn_of _ (by decide +kernel)) ggX11_fly_X11_keeps
set_option maxRecDepth 20000 in
theorem ggX11_fly_X11_cell : GoodIn wsX11_fly wsX11_cell := goodIn_r _ [18, 19, 20, 21, 22, 23, 24, 25, 26, 27, 28, 29, 30, 31, 32, 33, 34, 35, 36, 37, 38, 39, 40, 41, 42, 43, 44, 45, 46, 47, 48, 49, 50, 51, 52, 53] (by decide +kernel) (by decide +kernel)
set_option maxRecDepth 20000 in
theorem gX11_fly_X11_cell : GoodIn wsX11_fly (wsV RX11 210 RX11 yX11_cell wsX11_cell) := goodIn_app (goodIn_of _ (by decide +kernel)) ggX11_fly_X11_cell
set_option maxRecDepth 20000 in
theorem ggX11_cellOf_X11_isIn : GoodIn wsX11_cellOf wsX11_isIn := goodIn_r _ [5] (by decide +kernel) (by decide +kernel)
set_option maxRecDepth 20000 in
theorem gX11_cellOf_X11_isIn : GoodIn wsX11_cellOf (va_wsS RX11 73 yX11_isIn wsX11_isIn) := goodIn_app (goodIn_of _ (by decide +kernel)) ggX11_cellOf_X11_isIn
set_option maxRecDepth 20000 in
theorem ggX11_cellOf_X11_isDrone : GoodIn wsX11_cellOf wsX11_isDrone := goodIn_r _ [9, 1, 2, 3, 4, 5, 10, 11, 12, 13, 14, 15, 16, 17, 18, 19, 20, 21, 22, 23, 24, 25, 26, 27, 28, 29, 30, 31, 32, 33, 34, 35, 36, 37, 38, 39] (by decide +kernel) (by decide +kernel)
set_option maxRecDepth 20000 in
theorem gX11_cellOf_X11_isDrone : GoodIn wsX11_cellOf (wsV RX11 102 RX11 yX11_isDrone wsX11_isDrone) := goodIn_app (goodIn_of _ (by decide +kernel)) ggX11_cellOf_X11_isDrone
set_option maxRecDepth 20000 in
theorem ggX11_look_X11_isCell : GoodIn wsX11_look wsX11_isCell := goodIn_r _ [4, 5, 6, 3, 7] (by decide +kernel) (by decide +kernel)
set_option maxRecDepth 20000 in
theorem gX11_look_X11_isCell : GoodIn wsX11_look (va_wsS RX11 88 yX11_isCell wsX11_isCell) := goodIn_app (goodIn_of _ (by decide +kernel)) ggX11_look_X11_isCell
set_option maxRecDepth 20000 in
theorem ggX11_look_X11_isObstacle : GoodIn wsX11_look wsX11_isObstacle := goodIn_r _ [11, 12, 21, 22, 23, 24, 25, 26, 27, 28, 29, 30, 31, 32, 33, 34, 35, 36, 37, 38, 39, 40, 41, 42, 43, 44, 45, 46, 47, 48, 49, 50] (by decide +kernel) (by decide +kernel)
set_option maxRecDepth 20000 in
theorem gX11_look_X11_isObstacle : GoodIn wsX11_look (wsV RX11 99 RX11 yX11_isObstacle wsX11_isObstacle) := goodIn_app (goodIn_of _ (by decide +kernel)) ggX11_look_X11_isObstacle
set_option maxRecDepth 20000 in
theorem ggX11_look_X11_droneAt : GoodIn wsX11_look wsX11_droneAt := goodIn_r _ [16, 12, 21, 22, 23, 24, 25, 26, 27, 28, 29, 30, 31, 32, 33, 34, 35, 36, 37, 38, 39, 40, 41, 42, 43, 44, 45, 46, 47, 48, 49, 50] (by decide +kernel) (by decide +kernel)
set_option maxRecDepth 20000 in
theorem gX11_look_X11_droneAt : GoodIn wsX11_look (wsV RX11 92 RX11 yX11_droneAt wsX11_droneAt) := goodIn_app (goodIn_of _ (by decide +kernel)) ggX11_look_X11_droneAt
set_option maxRecDepth 20000 in
theorem ggX11_look_X11_slotAt : GoodIn wsX11_look wsX11_slotAt := goodIn_r _ [20, 12, 21, 22, 23, 24, 25, 26, 27, 28, 29, 30, 31, 32, 33, 34, 35, 36, 37, 38, 39, 40, 41, 42, 43, 44, 45, 46, 47, 48, 49, 50] (by decide +kernel) (by decide +kernel)
set_option maxRecDepth 20000 in
theorem gX11_look_X11_slotAt : GoodIn wsX11_look (wsV RX11 96 RX11 yX11_slotAt wsX11_slotAt) := goodIn_app (goodIn_of _ (by decide +kernel)) ggX11_look_X11_slotAt
set_option maxRecDepth 20000 in
theorem ggX11_dronesAtSlots_X11_slotAt : GoodIn wsX11_dronesAtSlots wsX11_slotAt := goodIn_r _ [6, 1, 7, 8, 9, 10, 11, 12, 13, 14, 15, 16, 17, 18, 19, 20, 21, 22, 23, 24, 25, 26, 27, 28, 29, 30, 31, 32, 33, 34, 35, 36] (by decide +kernel) (by decide +kernel)
set_option maxRecDepth 20000 in
theorem gX11_dronesAtSlots_X11_slotAt : GoodIn wsX11_dronesAtSlots (wsV RX11 96 RX11 yX11_slotAt wsX11_slotAt) := goodIn_app (goodIn_of _ (by decide +kernel)) ggX11_dronesAtSlots_X11_slotAt
set_option maxRecDepth 20000 in
theorem ggX11_count_X11_obstacles : GoodIn wsX11_count wsX11_obstacles := goodIn_r _ [9, 1, 18, 19, 20, 21, 22, 23, 24, 25, 26, 27, 28, 29, 30, 31, 32, 33, 34, 35, 36, 37, 38, 39, 40, 41, 42, 43, 44, 45, 46, 47] (by decide +kernel) (by decide +kernel)
set_option maxRecDepth 20000 in
theorem gX11_count_X11_obstacles : GoodIn wsX11_count (wsV RX11 232 RX11 yX11_obstacles wsX11_obstacles) := goodIn_app (goodIn_of _ (by decide +kernel)) ggX11_count_X11_obstacles
set_option maxRecDepth 20000 in
theorem ggX11_count_X11_dronesAtSlots : GoodIn wsX11_count wsX11_dronesAtSlots := goodIn_r _ [13, 1, 14, 15, 16, 8, 17, 18, 19, 20, 21, 22, 23, 24, 25, 26, 27, 28, 29, 30, 31, 32, 33, 34, 35, 36, 37, 38, 39, 40, 41, 42, 43, 44, 45, 46, 47] (by decide +kernel) (by decide +kernel)
set_option maxRecDepth 20000 in
theorem gX11_count_X11_dronesAtSlots : GoodIn wsX11_count (wsV RX11 235 RX11 yX11_dronesAtSlots wsX11_dronesAtSlots) := goodIn_app (goodIn_of _ (by decide +kernel)) ggX11_count_X11_dronesAtSlots

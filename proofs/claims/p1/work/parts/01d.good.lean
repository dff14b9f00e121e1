set_option maxRecDepth 20000 in
theorem ggX2_fewestFor_J6_bitCount_0f7a4 : GoodIn wsX2_fewestFor wsJ6_bitCount_0f7a4 := goodIn_r _ [4, 5, 6, 7] rfl (by decide +kernel)
set_option maxRecDepth 20000 in
theorem gX2_fewestFor_J6_bitCount_0f7a4 : GoodIn wsX2_fewestFor (va_wsS RX2 15 yJ6_bitCount_0f7a4 wsJ6_bitCount_0f7a4) := goodIn_app (goodIn_r _ [1, 2, 3] rfl (by decide +kernel)) ggX2_fewestFor_J6_bitCount_0f7a4
set_option maxRecDepth 20000 in
theorem ggX3_findIn_X5_has : GoodIn wsX3_findIn wsX5_has := goodIn_r _ [9, 10, 11, 12, 13, 44, 45, 46, 47, 48, 49, 50] rfl (by decide +kernel)
set_option maxRecDepth 20000 in
theorem gX3_findIn_X5_has : GoodIn wsX3_findIn (wsV RX3 30 RX5 yX5_has wsX5_has) := goodIn_app (goodIn_r _ [5, 6, 7, 8] rfl (by decide +kernel)) ggX3_findIn_X5_has
set_option maxRecDepth 20000 in
theorem ggX3_isEdge_X11_isIn : GoodIn wsX3_isEdge wsX11_isIn := goodIn_r _ [4] rfl (by decide +kernel)
set_option maxRecDepth 20000 in
theorem gX3_isEdge_X11_isIn_n57 : GoodIn wsX3_isEdge (wsX11_isIn) := ggX3_isEdge_X11_isIn
set_option maxRecDepth 20000 in
theorem ggX4_countEdges_X5_has : GoodIn wsX4_countEdges wsX5_has := goodIn_r _ [5, 6, 7, 8, 9, 28, 29, 30, 31, 32, 33, 34] rfl (by decide +kernel)
set_option maxRecDepth 20000 in
theorem gX4_countEdges_X5_has : GoodIn wsX4_countEdges (wsV RX4 34 RX5 yX5_has wsX5_has) := goodIn_app (goodIn_r _ [1, 2, 3, 4] rfl (by decide +kernel)) ggX4_countEdges_X5_has
set_option maxRecDepth 20000 in
theorem ggX4_growTree_X8_startWith : GoodIn wsX4_growTree wsX8_startWith := goodIn_ca (goodIn_r _ [10, 11, 12, 13, 14, 15, 16, 17, 18, 19, 20, 21, 22, 23, 24, 25, 26, 27, 28, 29, 30, 31, 32, 72, 73, 65, 66, 67, 68, 69, 70, 71] rfl (by decide +kernel)) (goodIn_sub (fun _ h => List.mem_cons_of_mem _ (List.mem_append_right _ h)) (by decide +kernel))
set_option maxRecDepth 20000 in
theorem gX4_growTree_X8_startWith : GoodIn wsX4_growTree (wsV RX4 55 RX8 yX8_startWith wsX8_startWith) := goodIn_app (goodIn_r _ [6, 7, 8, 9] rfl (by decide +kernel)) ggX4_growTree_X8_startWith
set_option maxRecDepth 20000 in
theorem ggX4_growTree_X5_count : GoodIn wsX4_growTree wsX5_count := goodIn_r _ [25, 18, 26, 27, 28, 29, 30, 31, 32, 65, 66, 67, 68, 69, 70, 71] rfl (by decide +kernel)
set_option maxRecDepth 20000 in
theorem gX4_growTree_X5_count : GoodIn wsX4_growTree (wsV RX4 62 RX5 yX5_count wsX5_count) := goodIn_app (goodIn_r _ [33, 23, 24, 16] rfl (by decide +kernel)) ggX4_growTree_X5_count
set_option maxRecDepth 20000 in
theorem ggX5_has_X11_isIn : GoodIn wsX5_has wsX11_isIn := goodIn_r _ [4] rfl (by decide +kernel)
set_option maxRecDepth 20000 in
theorem gX5_has_X11_isIn_n31 : GoodIn wsX5_has (wsX11_isIn) := ggX5_has_X11_isIn
set_option maxRecDepth 20000 in
theorem ggX5_count_J6_bitCount_0f7a4 : GoodIn wsX5_count wsJ6_bitCount_0f7a4 := goodIn_r _ [5, 6, 7, 8] rfl (by decide +kernel)
set_option maxRecDepth 20000 in
theorem gX5_count_J6_bitCount_0f7a4 : GoodIn wsX5_count (va_wsS RX5 35 yJ6_bitCount_0f7a4 wsJ6_bitCount_0f7a4) := goodIn_app (goodIn_r _ [2, 3, 4] rfl (by decide +kernel)) ggX5_count_J6_bitCount_0f7a4
set_option maxRecDepth 20000 in
theorem ggX5_numberAt_X5_has : GoodIn wsX5_numberAt wsX5_has := goodIn_r _ [7, 8, 9, 10, 11, 12, 13, 14, 15, 16, 17, 18] rfl (by decide +kernel)
set_option maxRecDepth 20000 in
theorem gX5_numberAt_X5_has : GoodIn wsX5_numberAt (wsV RX5 41 RX5 yX5_has wsX5_has) := goodIn_app (goodIn_r _ [3, 4, 5, 6] rfl (by decide +kernel)) ggX5_numberAt_X5_has
set_option maxRecDepth 20000 in
theorem ggX5_lowestFree_X5_has : GoodIn wsX5_lowestFree wsX5_has := goodIn_r _ [5, 6, 7, 8, 9, 10, 11, 12, 13, 14, 15, 16] rfl (by decide +kernel)
set_option maxRecDepth 20000 in
theorem gX5_lowestFree_X5_has : GoodIn wsX5_lowestFree (wsV RX5 41 RX5 yX5_has wsX5_has) := goodIn_app (goodIn_r _ [1, 2, 3, 4] rfl (by decide +kernel)) ggX5_lowestFree_X5_has
set_option maxRecDepth 20000 in
theorem ggX5_someTurn_X5_has : GoodIn wsX5_someTurn wsX5_has := goodIn_r _ [5, 6, 7, 8, 9, 22, 23, 24, 25, 26, 27, 28] rfl (by decide +kernel)
set_option maxRecDepth 20000 in
theorem gX5_someTurn_X5_has : GoodIn wsX5_someTurn (wsV RX5 41 RX5 yX5_has wsX5_has) := goodIn_app (goodIn_r _ [1, 2, 3, 4] rfl (by decide +kernel)) ggX5_someTurn_X5_has
set_option maxRecDepth 20000 in
theorem ggX5_hasRoomAfter_X5_has : GoodIn wsX5_hasRoomAfter wsX5_has := goodIn_r _ [5, 6, 7, 8, 9, 26, 27, 28, 29, 30, 31, 32] rfl (by decide +kernel)
set_option maxRecDepth 20000 in
theorem gX5_hasRoomAfter_X5_has : GoodIn wsX5_hasRoomAfter (wsV RX5 41 RX5 yX5_has wsX5_has) := goodIn_app (goodIn_r _ [1, 2, 3, 4] rfl (by decide +kernel)) ggX5_hasRoomAfter_X5_has
set_option maxRecDepth 20000 in
theorem ggX5_goOn_X5_has : GoodIn wsX5_goOn wsX5_has := goodIn_r _ [9, 10, 11, 12, 13, 23, 24, 25, 26, 27, 28, 29] rfl (by decide +kernel)
set_option maxRecDepth 20000 in
theorem gX5_goOn_X5_has : GoodIn wsX5_goOn (wsV RX5 41 RX5 yX5_has wsX5_has) := goodIn_app (goodIn_r _ [5, 6, 7, 8] rfl (by decide +kernel)) ggX5_goOn_X5_has
set_option maxRecDepth 20000 in
theorem ggX7_findIn_X7_lowestPlaced : GoodIn wsX7_findIn wsX7_lowestPlaced := goodIn_ca (goodIn_r _ [6, 7, 8, 9, 10, 11, 12, 13, 14, 15, 16, 17, 5, 18, 19, 20, 42, 43, 44, 45, 46, 47, 48] rfl (by decide +kernel)) (goodIn_sub (fun _ h => List.mem_cons_of_mem _ (List.mem_append_right _ h)) (by decide +kernel))
set_option maxRecDepth 20000 in
theorem gX7_findIn_X7_lowestPlaced : GoodIn wsX7_findIn (va_wsS RX7 19 yX7_lowestPlaced wsX7_lowestPlaced) := goodIn_app (goodIn_r _ [3, 4, 5] rfl (by decide +kernel)) ggX7_findIn_X7_lowestPlaced
set_option maxRecDepth 20000 in
theorem ggX7_lowestPlaced_X5_has : GoodIn wsX7_lowestPlaced wsX5_has := goodIn_r _ [5, 6, 7, 8, 9, 16, 17, 18, 19, 20, 21, 22] rfl (by decide +kernel)
set_option maxRecDepth 20000 in
theorem gX7_lowestPlaced_X5_has : GoodIn wsX7_lowestPlaced (wsV RX7 27 RX5 yX5_has wsX5_has) := goodIn_app (goodIn_r _ [1, 2, 3, 4] rfl (by decide +kernel)) ggX7_lowestPlaced_X5_has
set_option maxRecDepth 20000 in
theorem ggX8_startWith_X5_has : GoodIn wsX8_startWith wsX5_has := goodIn_r _ [7, 8, 9, 10, 11, 25, 26, 27, 28, 29, 30, 31] rfl (by decide +kernel)
set_option maxRecDepth 20000 in
theorem gX8_startWith_X5_has : GoodIn wsX8_startWith (wsV RX8 15 RX5 yX5_has wsX5_has) := goodIn_app (goodIn_r _ [3, 4, 5, 6] rfl (by decide +kernel)) ggX8_startWith_X5_has
set_option maxRecDepth 20000 in
theorem ggX8_startWith_X5_count : GoodIn wsX8_startWith wsX5_count := goodIn_r _ [15, 8, 16, 17, 18, 19, 20, 21, 22, 25, 26, 27, 28, 29, 30, 31] rfl (by decide +kernel)
set_option maxRecDepth 20000 in
theorem gX8_startWith_X5_count : GoodIn wsX8_startWith (wsV RX8 21 RX5 yX5_count wsX5_count) := goodIn_app (goodIn_r _ [12, 13, 14, 6] rfl (by decide +kernel)) ggX8_startWith_X5_count
set_option maxRecDepth 20000 in
theorem ggX9_cutAt_X8_startWith : GoodIn wsX9_cutAt wsX8_startWith := goodIn_ca (goodIn_r _ [9, 10, 11, 12, 13, 14, 15, 16, 17, 18, 19, 20, 21, 22, 23, 24, 25, 26, 27, 28, 29, 30, 31, 72, 73, 74, 75, 76, 77, 78, 79, 80] rfl (by decide +kernel)) (goodIn_sub (fun _ h => List.mem_cons_of_mem _ (List.mem_append_right _ h)) (by decide +kernel))
set_option maxRecDepth 20000 in
theorem gX9_cutAt_X8_startWith : GoodIn wsX9_cutAt (wsV RX9 18 RX8 yX8_startWith wsX8_startWith) := goodIn_app (goodIn_r _ [5, 6, 7, 8] rfl (by decide +kernel)) ggX9_cutAt_X8_startWith
set_option maxRecDepth 20000 in
theorem ggX9_cutAt_X3_isEdge : GoodIn wsX9_cutAt wsX3_isEdge := goodIn_ca (goodIn_r _ [36, 37, 18, 19, 20, 68, 69, 70, 71] rfl (by decide +kernel)) (goodIn_sub (fun _ h => List.mem_cons_of_mem _ (List.mem_append_right _ h)) (by decide +kernel))
set_option maxRecDepth 20000 in
theorem gX9_cutAt_X3_isEdge : GoodIn wsX9_cutAt (wsV RX9 26 RX3 yX3_isEdge wsX3_isEdge) := goodIn_app (goodIn_r _ [32, 33, 34, 35] rfl (by decide +kernel)) ggX9_cutAt_X3_isEdge
set_option maxRecDepth 20000 in
theorem ggX11_remove_X11_needPoint : GoodIn wsX11_remove wsX11_needPoint := goodIn_ca (goodIn_r _ [7, 8, 9, 2, 10, 11, 12, 13, 14, 15, 16, 6, 17, 56, 57, 58, 59, 60, 61, 62, 63, 64, 65, 66, 67, 68, 69, 70, 71, 72] rfl (by decide +kernel)) (goodIn_sub (fun _ h => List.mem_cons_of_mem _ (List.mem_append_left _ (List.mem_append_right _ h))) (by decide +kernel))
set_option maxRecDepth 20000 in
theorem gX11_remove_X11_needPoint : GoodIn wsX11_remove (wsV RX11 110 RX11 yX11_needPoint wsX11_needPoint) := goodIn_app (goodIn_r _ [3, 4, 5, 6] rfl (by decide +kernel)) ggX11_remove_X11_needPoint
set_option maxRecDepth 20000 in
theorem ggX11_move_X11_needPoint : GoodIn wsX11_move wsX11_needPoint := goodIn_ca (goodIn_r _ [9, 10, 11, 3, 12, 13, 14, 15, 16, 17, 18, 8, 19, 69, 70, 71, 72, 73, 74, 75, 76, 77, 78, 79, 80, 81, 82, 83, 84, 85] rfl (by decide +kernel)) (goodIn_sub (fun _ h => List.mem_cons_of_mem _ (List.mem_append_left _ (List.mem_append_left _ (List.mem_append_right _ h)))) (by decide +kernel))
set_option maxRecDepth 20000 in
theorem gX11_move_X11_needPoint : GoodIn wsX11_move (wsV RX11 110 RX11 yX11_needPoint wsX11_needPoint) := goodIn_app (goodIn_r _ [5, 6, 7, 8] rfl (by decide +kernel)) ggX11_move_X11_needPoint
set_option maxRecDepth 20000 in
theorem ggX11_setWeight_X11_needPoint : GoodIn wsX11_setWeight wsX11_needPoint := goodIn_ca (goodIn_r _ [7, 8, 9, 1, 10, 11, 12, 13, 14, 15, 16, 6, 17, 23, 24, 25, 26, 27, 28, 29, 30, 31, 32, 33, 34, 35, 36, 37, 38, 39] rfl (by decide +kernel)) (goodIn_sub (fun _ h => List.mem_cons_of_mem _ (List.mem_append_left _ (List.mem_append_right _ h))) (by decide +kernel))
set_option maxRecDepth 20000 in
theorem gX11_setWeight_X11_needPoint : GoodIn wsX11_setWeight (wsV RX11 110 RX11 yX11_needPoint wsX11_needPoint) := goodIn_app (goodIn_r _ [3, 4, 5, 6] rfl (by decide +kernel)) ggX11_setWeight_X11_needPoint
set_option maxRecDepth 20000 in
theorem ggX11_countPoints_X5_count : GoodIn wsX11_countPoints wsX5_count := goodIn_r _ [6, 7, 8, 9, 10, 11, 12, 13, 14, 25, 26, 27, 28, 29, 30, 31] rfl (by decide +kernel)
set_option maxRecDepth 20000 in
theorem gX11_countPoints_X5_count : GoodIn wsX11_countPoints (wsV RX11 117 RX5 yX5_count wsX5_count) := goodIn_app (goodIn_r _ [2, 3, 4, 5] rfl (by decide +kernel)) ggX11_countPoints_X5_count
set_option maxRecDepth 20000 in
theorem ggX11_within_X11_needBoth : GoodIn wsX11_within wsX11_needBoth := goodIn_ca (goodIn_r _ [6, 7, 8, 5, 9, 10, 11] rfl (by decide +kernel)) (goodIn_sub (fun _ h => List.mem_cons_of_mem _ (List.mem_append_left _ (List.mem_append_right _ h))) (by decide +kernel))
set_option maxRecDepth 20000 in
theorem gX11_within_X11_needBoth : GoodIn wsX11_within (va_wsS RX11 79 yX11_needBoth wsX11_needBoth) := goodIn_app (goodIn_r _ [3, 4, 5] rfl (by decide +kernel)) ggX11_within_X11_needBoth
set_option maxRecDepth 20000 in
theorem ggX11_within_X11_needRange : GoodIn wsX11_within wsX11_needRange := goodIn_ca (goodIn_r _ [9, 10, 11] rfl (by decide +kernel)) (goodIn_sub (fun _ h => List.mem_cons_of_mem _ (List.mem_append_left _ (List.mem_append_right _ h))) (by decide +kernel))
set_option maxRecDepth 20000 in
theorem gX11_within_X11_needRange : GoodIn wsX11_within (va_wsS RX11 129 yX11_needRange wsX11_needRange) := goodIn_app (goodIn_r _ [7, 8, 5] rfl (by decide +kernel)) ggX11_within_X11_needRange
set_option maxRecDepth 20000 in
theorem ggX11_within_X5_has : GoodIn wsX11_within wsX5_has := goodIn_r _ [16, 17, 18, 5, 19, 44, 45, 46, 47, 48, 49, 50] rfl (by decide +kernel)
set_option maxRecDepth 20000 in
theorem gX11_within_X5_has : GoodIn wsX11_within (wsV RX11 160 RX5 yX5_has wsX5_has) := goodIn_app (goodIn_r _ [12, 13, 14, 15] rfl (by decide +kernel)) ggX11_within_X5_has
set_option maxRecDepth 20000 in
theorem ggX11_cell_X11_needPoint : GoodIn wsX11_cell wsX11_needPoint := goodIn_ca (goodIn_r _ [6, 7, 8, 1, 9, 10, 11, 12, 13, 14, 15, 5, 16, 44, 45, 46, 47, 48, 49, 50, 51, 52, 53, 54, 55, 56, 57, 58, 59, 60] rfl (by decide +kernel)) (goodIn_sub (fun _ h => List.mem_cons_of_mem _ (List.mem_append_left _ (List.mem_append_left _ (List.mem_append_right _ h)))) (by decide +kernel))
set_option maxRecDepth 20000 in
theorem gX11_cell_X11_needPoint : GoodIn wsX11_cell (wsV RX11 110 RX11 yX11_needPoint wsX11_needPoint) := goodIn_app (goodIn_r _ [2, 3, 4, 5] rfl (by decide +kernel)) ggX11_cell_X11_needPoint
set_option maxRecDepth 20000 in
theorem ggX11_turn_X11_needPoint : GoodIn wsX11_turn wsX11_needPoint := goodIn_ca (goodIn_r _ [6, 7, 8, 1, 9, 10, 11, 12, 13, 14, 15, 5, 16, 29, 30, 31, 32, 33, 34, 35, 36, 37, 38, 39, 40, 41, 42, 43, 44, 45] rfl (by decide +kernel)) (goodIn_sub (fun _ h => List.mem_cons_of_mem _ (List.mem_append_left _ (List.mem_append_right _ h))) (by decide +kernel))
set_option maxRecDepth 20000 in
theorem gX11_turn_X11_needPoint : GoodIn wsX11_turn (wsV RX11 110 RX11 yX11_needPoint wsX11_needPoint) := goodIn_app (goodIn_r _ [2, 3, 4, 5] rfl (by decide +kernel)) ggX11_turn_X11_needPoint
set_option maxRecDepth 20000 in
theorem ggX11_inCircle_X11_needPoint : GoodIn wsX11_inCircle wsX11_needPoint := goodIn_ca (goodIn_r _ [8, 9, 10, 3, 11, 12, 13, 14, 15, 16, 17, 7, 18, 36, 37, 38, 39, 40, 41, 42, 43, 44, 45, 46, 47, 48, 49, 50, 51, 52] rfl (by decide +kernel)) (goodIn_sub (fun _ h => List.mem_cons_of_mem _ (List.mem_append_left _ (List.mem_append_right _ h))) (by decide +kernel))
set_option maxRecDepth 20000 in
theorem gX11_inCircle_X11_needPoint : GoodIn wsX11_inCircle (wsV RX11 110 RX11 yX11_needPoint wsX11_needPoint) := goodIn_app (goodIn_r _ [4, 5, 6, 7] rfl (by decide +kernel)) ggX11_inCircle_X11_needPoint
set_option maxRecDepth 20000 in
theorem ggX11_countTriangles_X3_findIn : GoodIn wsX11_countTriangles wsX3_findIn := goodIn_ca (goodIn_r _ [8, 9, 10, 11, 12, 13, 14, 15, 16, 17, 18, 19, 20, 21, 22, 23, 24, 7, 25, 26, 27, 28, 29, 30, 31, 32, 33, 34, 35, 36, 37, 38, 39, 40, 41, 42, 43, 44, 45, 46, 57, 58, 59, 60, 61, 62, 63, 64, 65, 66, 67] rfl (by decide +kernel)) (goodIn_sub (fun _ h => List.mem_cons_of_mem _ (List.mem_append_right _ h)) (by decide +kernel))
set_option maxRecDepth 20000 in
theorem gX11_countTriangles_X3_findIn : GoodIn wsX11_countTriangles (wsV RX11 187 RX3 yX3_findIn wsX3_findIn) := goodIn_app (goodIn_r _ [4, 5, 6, 7] rfl (by decide +kernel)) ggX11_countTriangles_X3_findIn
set_option maxRecDepth 20000 in
theorem ggX11_isTriangle_X11_needPoint : GoodIn wsX11_isTriangle wsX11_needPoint := goodIn_ca (goodIn_r _ [7, 8, 9, 2, 10, 11, 12, 13, 14, 15, 16, 6, 17, 57, 58, 59, 60, 61, 62, 63, 64, 65, 66, 67, 68, 69, 70, 71, 72, 73] rfl (by decide +kernel)) (goodIn_sub (fun _ h => List.mem_cons_of_mem _ (List.mem_append_left _ (List.mem_append_right _ h))) (by decide +kernel))
set_option maxRecDepth 20000 in
theorem gX11_isTriangle_X11_needPoint : GoodIn wsX11_isTriangle (wsV RX11 110 RX11 yX11_needPoint wsX11_needPoint) := goodIn_app (goodIn_r _ [3, 4, 5, 6] rfl (by decide +kernel)) ggX11_isTriangle_X11_needPoint
set_option maxRecDepth 20000 in
theorem ggX11_areNeighbours_X11_needPoint : GoodIn wsX11_areNeighbours wsX11_needPoint := goodIn_ca (goodIn_r _ [7, 8, 9, 2, 10, 11, 12, 13, 14, 15, 16, 6, 17, 57, 58, 59, 60, 61, 62, 63, 64, 65, 66, 67, 68, 69, 70, 71, 72, 73] rfl (by decide +kernel)) (goodIn_sub (fun _ h => List.mem_cons_of_mem _ (List.mem_append_left _ (List.mem_append_right _ h))) (by decide +kernel))
set_option maxRecDepth 20000 in
theorem gX11_areNeighbours_X11_needPoint : GoodIn wsX11_areNeighbours (wsV RX11 110 RX11 yX11_needPoint wsX11_needPoint) := goodIn_app (goodIn_r _ [3, 4, 5, 6] rfl (by decide +kernel)) ggX11_areNeighbours_X11_needPoint
set_option maxRecDepth 20000 in
theorem ggX11_countNeighbours_X11_needPoint : GoodIn wsX11_countNeighbours wsX11_needPoint := goodIn_ca (goodIn_r _ [8, 9, 10, 2, 11, 12, 13, 14, 15, 16, 17, 7, 18, 61, 62, 63, 64, 65, 66, 67, 68, 69, 70, 75, 76, 77, 78, 79, 80, 81] rfl (by decide +kernel)) (goodIn_sub (fun _ h => List.mem_cons_of_mem _ (List.mem_append_right _ h)) (by decide +kernel))
set_option maxRecDepth 20000 in
theorem gX11_countNeighbours_X11_needPoint : GoodIn wsX11_countNeighbours (wsV RX11 110 RX11 yX11_needPoint wsX11_needPoint) := goodIn_app (goodIn_r _ [4, 5, 6, 7] rfl (by decide +kernel)) ggX11_countNeighbours_X11_needPoint
set_option maxRecDepth 20000 in
theorem ggX11_isJoined_X11_needPoint : GoodIn wsX11_isJoined wsX11_needPoint := goodIn_ca (goodIn_r _ [9, 10, 11, 4, 12, 13, 14, 15, 16, 17, 18, 8, 19, 89, 90, 91, 92, 93, 94, 95, 96, 97, 98, 99, 100, 101, 102, 103, 104, 105] rfl (by decide +kernel)) (goodIn_sub (fun _ h => List.mem_cons_of_mem _ (List.mem_append_left _ (List.mem_append_right _ h))) (by decide +kernel))
set_option maxRecDepth 20000 in
theorem gX11_isJoined_X11_needPoint : GoodIn wsX11_isJoined (wsV RX11 110 RX11 yX11_needPoint wsX11_needPoint) := goodIn_app (goodIn_r _ [5, 6, 7, 8] rfl (by decide +kernel)) ggX11_isJoined_X11_needPoint
set_option maxRecDepth 20000 in
theorem ggX11_countJoined_X11_needGraph : GoodIn wsX11_countJoined wsX11_needGraph := goodIn_ca (goodIn_r _ [6, 7, 8] rfl (by decide +kernel)) (goodIn_sub (fun _ h => List.mem_cons_of_mem _ (List.mem_append_left _ (List.mem_append_right _ h))) (by decide +kernel))
set_option maxRecDepth 20000 in
theorem gX11_countJoined_X11_needGraph : GoodIn wsX11_countJoined (va_wsS RX11 207 yX11_needGraph wsX11_needGraph) := goodIn_app (goodIn_r _ [3, 4, 5] rfl (by decide +kernel)) ggX11_countJoined_X11_needGraph
set_option maxRecDepth 20000 in
theorem ggX11_countJoined_X4_growTree : GoodIn wsX11_countJoined wsX4_growTree := goodIn_ca (goodIn_r _ [13, 14, 15, 16, 17, 18, 19, 20, 21, 22, 23, 24, 25, 26, 27, 28, 29, 30, 31, 32, 5, 33, 34, 35, 36, 37, 38, 39, 40, 41, 42, 43, 44, 45, 46, 47, 48, 12, 49, 50, 51, 52, 53, 54, 55, 56, 57, 58, 59, 60, 61, 62, 63, 64, 65, 66, 67, 68, 69, 70, 71, 96, 97, 98, 99, 100, 101, 102, 103, 104, 105, 106, 107, 108] rfl (by decide +kernel)) (goodIn_sub (fun _ h => List.mem_cons_of_mem _ (List.mem_append_right _ h)) (by decide +kernel))
set_option maxRecDepth 20000 in
theorem gX11_countJoined_X4_growTree : GoodIn wsX11_countJoined (wsV RX11 215 RX4 yX4_growTree wsX4_growTree) := goodIn_app (goodIn_r _ [9, 10, 11, 12] rfl (by decide +kernel)) ggX11_countJoined_X4_growTree
set_option maxRecDepth 20000 in
theorem ggX11_countJoined_X4_countEdges : GoodIn wsX11_countJoined wsX4_countEdges := goodIn_ca (goodIn_r _ [75, 50, 27, 28, 29, 30, 31, 32, 5, 33, 76, 77, 78, 12, 79, 18, 80, 81, 82, 55, 56, 57, 58, 59, 60, 83, 84, 85, 100, 101, 102, 103, 104, 105, 106, 96, 97, 98, 99] rfl (by decide +kernel)) (goodIn_sub (fun _ h => List.mem_cons_of_mem _ (List.mem_append_right _ h)) (by decide +kernel))
set_option maxRecDepth 20000 in
theorem gX11_countJoined_X4_countEdges : GoodIn wsX11_countJoined (wsV RX11 222 RX4 yX4_countEdges wsX4_countEdges) := goodIn_app (goodIn_r _ [72, 73, 74, 12] rfl (by decide +kernel)) ggX11_countJoined_X4_countEdges
set_option maxRecDepth 20000 in
theorem ggX11_treeSum_X4_growTree : GoodIn wsX11_treeSum wsX4_growTree := goodIn_ca (goodIn_r _ [8, 9, 10, 11, 12, 13, 14, 15, 16, 17, 18, 19, 20, 21, 22, 23, 24, 25, 26, 27, 28, 29, 30, 31, 32, 33, 34, 35, 36, 37, 38, 39, 40, 41, 42, 43, 44, 7, 45, 46, 47, 48, 49, 50, 51, 52, 53, 54, 55, 56, 57, 58, 59, 60, 61, 62, 63, 64, 65, 66, 67, 78, 79, 80, 81, 82, 83, 84, 85, 86, 87, 88, 89, 90] rfl (by decide +kernel)) (goodIn_sub (fun _ h => List.mem_cons_of_mem _ (List.mem_append_right _ h)) (by decide +kernel))
set_option maxRecDepth 20000 in
theorem gX11_treeSum_X4_growTree : GoodIn wsX11_treeSum (wsV RX11 215 RX4 yX4_growTree wsX4_growTree) := goodIn_app (goodIn_r _ [4, 5, 6, 7] rfl (by decide +kernel)) ggX11_treeSum_X4_growTree
set_option maxRecDepth 20000 in
theorem ggX11_countHull_X7_findIn : GoodIn wsX11_countHull wsX7_findIn := goodIn_ca (goodIn_r _ [8, 9, 10, 11, 12, 7, 13, 14, 15, 16, 17, 18, 19, 20, 21, 22, 23, 24, 25, 26, 27, 28, 29, 30, 31, 32, 33, 34, 35, 36, 37, 38, 39, 40, 41, 42, 43, 44, 45, 46, 57, 58, 59, 60, 61, 62, 63, 64, 65] rfl (by decide +kernel)) (goodIn_sub (fun _ h => List.mem_cons_of_mem _ (List.mem_append_right _ h)) (by decide +kernel))
set_option maxRecDepth 20000 in
theorem gX11_countHull_X7_findIn : GoodIn wsX11_countHull (wsV RX11 234 RX7 yX7_findIn wsX7_findIn) := goodIn_app (goodIn_r _ [4, 5, 6, 7] rfl (by decide +kernel)) ggX11_countHull_X7_findIn
set_option maxRecDepth 20000 in
theorem ggX11_hullArea_X7_findIn : GoodIn wsX11_hullArea wsX7_findIn := goodIn_ca (goodIn_r _ [7, 8, 9, 10, 11, 6, 12, 13, 14, 15, 16, 17, 18, 19, 20, 21, 22, 23, 24, 25, 26, 27, 28, 29, 30, 31, 32, 33, 34, 35, 36, 37, 38, 39, 40, 41, 42, 43, 44, 45, 61, 62, 63, 64, 65, 66, 67, 68, 69] rfl (by decide +kernel)) (goodIn_sub (fun _ h => List.mem_cons_of_mem _ (List.mem_append_right _ h)) (by decide +kernel))
set_option maxRecDepth 20000 in
theorem gX11_hullArea_X7_findIn : GoodIn wsX11_hullArea (wsV RX11 234 RX7 yX7_findIn wsX7_findIn) := goodIn_app (goodIn_r _ [3, 4, 5, 6] rfl (by decide +kernel)) ggX11_hullArea_X7_findIn
set_option maxRecDepth 20000 in
theorem ggX11_hullArea_X7_doubleArea : GoodIn wsX11_hullArea wsX7_doubleArea := goodIn_ca (goodIn_r _ [49, 8, 9, 50, 35, 36, 16, 37, 38, 39, 61, 62, 63, 64, 65, 66, 67, 68, 69] rfl (by decide +kernel)) (goodIn_sub (fun _ h => List.mem_cons_of_mem _ (List.mem_append_right _ h)) (by decide +kernel))
set_option maxRecDepth 20000 in
theorem gX11_hullArea_X7_doubleArea : GoodIn wsX11_hullArea (wsV RX11 241 RX7 yX7_doubleArea wsX7_doubleArea) := goodIn_app (goodIn_r _ [46, 47, 48, 6] rfl (by decide +kernel)) ggX11_hullArea_X7_doubleArea
set_option maxRecDepth 20000 in
theorem ggX11_layer_X11_needPoint : GoodIn wsX11_layer wsX11_needPoint := goodIn_ca (goodIn_r _ [7, 8, 9, 2, 10, 11, 12, 13, 14, 15, 16, 6, 17, 48, 49, 50, 51, 52, 53, 54, 55, 56, 57, 58, 59, 60, 61, 62, 63, 64] rfl (by decide +kernel)) (goodIn_sub (fun _ h => List.mem_cons_of_mem _ (List.mem_append_left _ (List.mem_append_right _ h))) (by decide +kernel))
set_option maxRecDepth 20000 in
theorem gX11_layer_X11_needPoint : GoodIn wsX11_layer (wsV RX11 110 RX11 yX11_needPoint wsX11_needPoint) := goodIn_app (goodIn_r _ [3, 4, 5, 6] rfl (by decide +kernel)) ggX11_layer_X11_needPoint
set_option maxRecDepth 20000 in
theorem ggX11_depth_X11_needPoint : GoodIn wsX11_depth wsX11_needPoint := goodIn_ca (goodIn_r _ [7, 8, 9, 2, 10, 11, 12, 13, 14, 15, 16, 6, 17, 60, 61, 62, 63, 64, 65, 66, 67, 68, 69, 70, 71, 72, 73, 74, 75, 76] rfl (by decide +kernel)) (goodIn_sub (fun _ h => List.mem_cons_of_mem _ (List.mem_append_left _ (List.mem_append_right _ h))) (by decide +kernel))
set_option maxRecDepth 20000 in
theorem gX11_depth_X11_needPoint : GoodIn wsX11_depth (wsV RX11 110 RX11 yX11_needPoint wsX11_needPoint) := goodIn_app (goodIn_r _ [3, 4, 5, 6] rfl (by decide +kernel)) ggX11_depth_X11_needPoint
set_option maxRecDepth 20000 in
theorem ggX11_countParts_X11_needRange : GoodIn wsX11_countParts wsX11_needRange := goodIn_ca (goodIn_r _ [10, 11, 12] rfl (by decide +kernel)) (goodIn_sub (fun _ h => List.mem_cons_of_mem _ (List.mem_append_left _ (List.mem_append_right _ h))) (by decide +kernel))
set_option maxRecDepth 20000 in
theorem gX11_countParts_X11_needRange : GoodIn wsX11_countParts (va_wsS RX11 129 yX11_needRange wsX11_needRange) := goodIn_app (goodIn_r _ [7, 8, 9] rfl (by decide +kernel)) ggX11_countParts_X11_needRange
set_option maxRecDepth 20000 in
theorem ggX11_countParts_X3_findIn : GoodIn wsX11_countParts wsX3_findIn := goodIn_ca (goodIn_r _ [17, 18, 19, 20, 21, 22, 23, 24, 25, 26, 27, 28, 9, 29, 30, 31, 32, 16, 33, 34, 35, 36, 37, 38, 39, 40, 41, 42, 43, 44, 45, 46, 47, 48, 49, 50, 51, 52, 53, 54, 123, 124, 125, 126, 127, 128, 129, 130, 131, 132, 133] rfl (by decide +kernel)) (goodIn_sub (fun _ h => List.mem_cons_of_mem _ (List.mem_append_right _ h)) (by decide +kernel))
set_option maxRecDepth 20000 in
theorem gX11_countParts_X3_findIn : GoodIn wsX11_countParts (wsV RX11 187 RX3 yX3_findIn wsX3_findIn) := goodIn_app (goodIn_r _ [13, 14, 15, 16] rfl (by decide +kernel)) ggX11_countParts_X3_findIn
set_option maxRecDepth 20000 in
theorem ggX11_countParts_X9_cutAt : GoodIn wsX11_countParts wsX9_cutAt := goodIn_ca (goodIn_r _ [59, 60, 61, 62, 63, 64, 65, 66, 67, 68, 69, 70, 71, 23, 24, 25, 26, 27, 28, 9, 29, 72, 73, 74, 75, 76, 77, 78, 79, 80, 81, 82, 83, 84, 85, 16, 86, 21, 87, 88, 89, 90, 46, 47, 91, 92, 93, 94, 95, 96, 97, 98, 99, 100, 101, 102, 103, 104, 105, 34, 106, 107, 43, 44, 45, 118, 119, 120, 123, 124, 125, 126, 121, 122, 127, 128, 129, 130, 131, 132, 133] rfl (by decide +kernel)) (goodIn_sub (fun _ h => List.mem_cons_of_mem _ (List.mem_append_right _ h)) (by decide +kernel))
set_option maxRecDepth 20000 in
theorem gX11_countParts_X9_cutAt : GoodIn wsX11_countParts (wsV RX11 253 RX9 yX9_cutAt wsX9_cutAt) := goodIn_app (goodIn_r _ [55, 56, 57, 58] rfl (by decide +kernel)) ggX11_countParts_X9_cutAt
set_option maxRecDepth 20000 in
theorem ggX11_countHoles_X11_needRange : GoodIn wsX11_countHoles wsX11_needRange := goodIn_ca (goodIn_r _ [12, 13, 14] rfl (by decide +kernel)) (goodIn_sub (fun _ h => List.mem_cons_of_mem _ (List.mem_append_left _ (List.mem_append_right _ h))) (by decide +kernel))
set_option maxRecDepth 20000 in
theorem gX11_countHoles_X11_needRange : GoodIn wsX11_countHoles (va_wsS RX11 129 yX11_needRange wsX11_needRange) := goodIn_app (goodIn_r _ [9, 10, 11] rfl (by decide +kernel)) ggX11_countHoles_X11_needRange
set_option maxRecDepth 20000 in
theorem ggX11_countHoles_X3_findIn : GoodIn wsX11_countHoles wsX3_findIn := goodIn_ca (goodIn_r _ [19, 20, 21, 22, 23, 24, 25, 26, 27, 28, 29, 30, 11, 31, 32, 33, 34, 18, 35, 36, 37, 38, 39, 40, 41, 42, 43, 44, 45, 46, 47, 48, 49, 50, 51, 52, 53, 54, 55, 56, 126, 127, 128, 129, 130, 131, 132, 133, 134, 135, 136] rfl (by decide +kernel)) (goodIn_sub (fun _ h => List.mem_cons_of_mem _ (List.mem_append_right _ h)) (by decide +kernel))
set_option maxRecDepth 20000 in
theorem gX11_countHoles_X3_findIn : GoodIn wsX11_countHoles (wsV RX11 187 RX3 yX3_findIn wsX3_findIn) := goodIn_app (goodIn_r _ [15, 16, 17, 18] rfl (by decide +kernel)) ggX11_countHoles_X3_findIn
set_option maxRecDepth 20000 in
theorem ggX11_countHoles_X9_cutAt : GoodIn wsX11_countHoles wsX9_cutAt := goodIn_ca (goodIn_r _ [61, 62, 63, 64, 65, 66, 67, 68, 69, 70, 71, 72, 73, 25, 26, 27, 28, 29, 30, 11, 31, 74, 75, 76, 77, 78, 79, 80, 81, 82, 83, 84, 85, 86, 87, 18, 88, 23, 89, 90, 91, 92, 48, 49, 93, 94, 95, 96, 97, 98, 99, 100, 101, 102, 103, 104, 105, 106, 107, 36, 108, 109, 45, 46, 47, 121, 122, 123, 126, 127, 128, 129, 124, 125, 130, 131, 132, 133, 134, 135, 136] rfl (by decide +kernel)) (goodIn_sub (fun _ h => List.mem_cons_of_mem _ (List.mem_append_right _ h)) (by decide +kernel))
set_option maxRecDepth 20000 in
theorem gX11_countHoles_X9_cutAt : GoodIn wsX11_countHoles (wsV RX11 253 RX9 yX9_cutAt wsX9_cutAt) := goodIn_app (goodIn_r _ [57, 58, 59, 60] rfl (by decide +kernel)) ggX11_countHoles_X9_cutAt
set_option maxRecDepth 20000 in
theorem ggX11_countHoles_X5_count : GoodIn wsX11_countHoles wsX5_count := goodIn_r _ [77, 29, 78, 79, 80, 81, 82, 83, 84, 130, 131, 132, 133, 134, 135, 136] rfl (by decide +kernel)
set_option maxRecDepth 20000 in
theorem gX11_countHoles_X5_count : GoodIn wsX11_countHoles (wsV RX11 117 RX5 yX5_count wsX5_count) := goodIn_app (goodIn_r _ [110, 75, 76, 27] rfl (by decide +kernel)) ggX11_countHoles_X5_count
set_option maxRecDepth 20000 in
theorem ggX11_addWall_X11_needBoth : GoodIn wsX11_addWall wsX11_needBoth := goodIn_ca (goodIn_r _ [10, 11, 12, 9, 13, 1, 2] rfl (by decide +kernel)) (goodIn_sub (fun _ h => List.mem_cons_of_mem _ (List.mem_append_left _ (List.mem_append_left _ (List.mem_append_right _ h)))) (by decide +kernel))
set_option maxRecDepth 20000 in
theorem gX11_addWall_X11_needBoth : GoodIn wsX11_addWall (va_wsS RX11 79 yX11_needBoth wsX11_needBoth) := goodIn_app (goodIn_r _ [7, 8, 9] rfl (by decide +kernel)) ggX11_addWall_X11_needBoth
set_option maxRecDepth 20000 in
theorem ggX11_addWall_X10_append : GoodIn wsX11_addWall wsX10_append := goodIn_ca (goodIn_r _ [18, 19, 20, 21, 22, 23, 34, 35, 36, 37, 38] rfl (by decide +kernel)) (goodIn_sub (fun _ h => List.mem_cons_of_mem _ (List.mem_append_right _ h)) (by decide +kernel))
set_option maxRecDepth 20000 in
theorem gX11_addWall_X10_append : GoodIn wsX11_addWall (wsV RX11 275 RX10 yX10_append wsX10_append) := goodIn_app (goodIn_r _ [14, 15, 16, 17] rfl (by decide +kernel)) ggX11_addWall_X10_append
set_option maxRecDepth 20000 in
theorem ggX11_sees_X11_needPoint : GoodIn wsX11_sees wsX11_needPoint := goodIn_ca (goodIn_r _ [9, 10, 11, 2, 12, 13, 14, 15, 16, 17, 18, 8, 19, 58, 59, 60, 61, 62, 63, 64, 65, 66, 67, 68, 69, 70, 71, 72, 73, 74] rfl (by decide +kernel)) (goodIn_sub (fun _ h => List.mem_cons_of_mem _ (List.mem_append_left _ (List.mem_append_right _ h))) (by decide +kernel))
set_option maxRecDepth 20000 in
theorem gX11_sees_X11_needPoint : GoodIn wsX11_sees (wsV RX11 110 RX11 yX11_needPoint wsX11_needPoint) := goodIn_app (goodIn_r _ [5, 6, 7, 8] rfl (by decide +kernel)) ggX11_sees_X11_needPoint
set_option maxRecDepth 20000 in
theorem ggX11_countSeen_X11_needPoint : GoodIn wsX11_countSeen wsX11_needPoint := goodIn_ca (goodIn_r _ [5, 6, 7, 8, 9, 10, 11, 12, 13, 14, 15, 4, 16, 61, 62, 63, 64, 65, 66, 67, 68, 69, 70, 71, 72, 73, 74, 75, 76, 77] rfl (by decide +kernel)) (goodIn_sub (fun _ h => List.mem_cons_of_mem _ (List.mem_append_left _ (List.mem_append_right _ h))) (by decide +kernel))
set_option maxRecDepth 20000 in
theorem gX11_countSeen_X11_needPoint : GoodIn wsX11_countSeen (wsV RX11 110 RX11 yX11_needPoint wsX11_needPoint) := goodIn_app (goodIn_r _ [1, 2, 3, 4] rfl (by decide +kernel)) ggX11_countSeen_X11_needPoint
set_option maxRecDepth 20000 in
theorem ggX11_leastGuards_X5_has : GoodIn wsX11_leastGuards wsX5_has := goodIn_r _ [9, 10, 11, 12, 13, 79, 80, 81, 82, 83, 84, 85] rfl (by decide +kernel)
set_option maxRecDepth 20000 in
theorem gX11_leastGuards_X5_has : GoodIn wsX11_leastGuards (wsV RX11 160 RX5 yX5_has wsX5_has) := goodIn_app (goodIn_r _ [5, 6, 7, 8] rfl (by decide +kernel)) ggX11_leastGuards_X5_has
set_option maxRecDepth 20000 in
theorem ggX11_leastGuards_X2_fewestFor : GoodIn wsX11_leastGuards wsX2_fewestFor := goodIn_ca (goodIn_r _ [55, 56, 57, 58, 59, 60, 61, 62, 63, 64, 65, 54, 66, 67, 11, 12, 13, 78] rfl (by decide +kernel)) (goodIn_sub (fun _ h => List.mem_cons_of_mem _ (List.mem_append_right _ h)) (by decide +kernel))
set_option maxRecDepth 20000 in
theorem gX11_leastGuards_X2_fewestFor : GoodIn wsX11_leastGuards (wsV RX11 300 RX2 yX2_fewestFor wsX2_fewestFor) := goodIn_app (goodIn_r _ [51, 52, 53, 54] rfl (by decide +kernel)) ggX11_leastGuards_X2_fewestFor
set_option maxRecDepth 20000 in
theorem ggX11_setSpeed_X11_needPoint : GoodIn wsX11_setSpeed wsX11_needPoint := goodIn_ca (goodIn_r _ [8, 9, 10, 1, 11, 12, 13, 14, 15, 16, 17, 7, 18, 33, 34, 35, 36, 37, 38, 39, 40, 41, 42, 43, 44, 45, 46, 47, 48, 49] rfl (by decide +kernel)) (goodIn_sub (fun _ h => List.mem_cons_of_mem _ (List.mem_append_left _ (List.mem_append_right _ h))) (by decide +kernel))
set_option maxRecDepth 20000 in
theorem gX11_setSpeed_X11_needPoint : GoodIn wsX11_setSpeed (wsV RX11 110 RX11 yX11_needPoint wsX11_needPoint) := goodIn_app (goodIn_r _ [4, 5, 6, 7] rfl (by decide +kernel)) ggX11_setSpeed_X11_needPoint
set_option maxRecDepth 20000 in
theorem ggX11_pass_X11_needRange : GoodIn wsX11_pass wsX11_needRange := goodIn_ca (goodIn_r _ [7, 8, 9] rfl (by decide +kernel)) (goodIn_sub (fun _ h => List.mem_cons_of_mem _ (List.mem_append_left _ (List.mem_append_right _ h))) (by decide +kernel))
set_option maxRecDepth 20000 in
theorem gX11_pass_X11_needRange : GoodIn wsX11_pass (va_wsS RX11 129 yX11_needRange wsX11_needRange) := goodIn_app (goodIn_r _ [4, 5, 6] rfl (by decide +kernel)) ggX11_pass_X11_needRange
set_option maxRecDepth 20000 in
theorem ggX11_pass_X5_hasRoomAfter : GoodIn wsX11_pass wsX5_hasRoomAfter := goodIn_ca (goodIn_r _ [14, 15, 16, 17, 13, 18, 19, 20, 6, 21, 22, 23, 24, 25, 26, 27, 28, 29, 30, 31, 32, 33, 34, 35, 36, 37, 61, 62, 63, 64, 65, 66, 67] rfl (by decide +kernel)) (goodIn_sub (fun _ h => List.mem_cons_of_mem _ (List.mem_append_right _ h)) (by decide +kernel))
set_option maxRecDepth 20000 in
theorem gX11_pass_X5_hasRoomAfter : GoodIn wsX11_pass (wsV RX11 312 RX5 yX5_hasRoomAfter wsX5_hasRoomAfter) := goodIn_app (goodIn_r _ [10, 11, 12, 13] rfl (by decide +kernel)) ggX11_pass_X5_hasRoomAfter
set_option maxRecDepth 20000 in
theorem ggX11_pass_X5_goOn : GoodIn wsX11_pass wsX5_goOn := goodIn_ca (goodIn_r _ [41, 26, 27, 32, 33, 15, 16, 17, 13, 18, 19, 20, 6, 21, 42, 43, 44, 45, 46, 47, 48, 49, 50, 61, 62, 63, 64, 65, 66, 67] rfl (by decide +kernel)) (goodIn_sub (fun _ h => List.mem_cons_of_mem _ (List.mem_append_right _ h)) (by decide +kernel))
set_option maxRecDepth 20000 in
theorem gX11_pass_X5_goOn : GoodIn wsX11_pass (wsV RX11 317 RX5 yX5_goOn wsX5_goOn) := goodIn_app (goodIn_r _ [38, 39, 40, 13] rfl (by decide +kernel)) ggX11_pass_X5_goOn
set_option maxRecDepth 20000 in
theorem ggX11_cluster_X11_needPoint : GoodIn wsX11_cluster wsX11_needPoint := goodIn_ca (goodIn_r _ [9, 10, 11, 1, 12, 13, 14, 15, 16, 17, 18, 8, 19, 89, 90, 91, 92, 93, 94, 95, 96, 97, 98, 104, 105, 106, 107, 108, 109, 110] rfl (by decide +kernel)) (goodIn_sub (fun _ h => List.mem_cons_of_mem _ (List.mem_append_left _ (List.mem_append_right _ h))) (by decide +kernel))
set_option maxRecDepth 20000 in
theorem gX11_cluster_X11_needPoint : GoodIn wsX11_cluster (wsV RX11 110 RX11 yX11_needPoint wsX11_needPoint) := goodIn_app (goodIn_r _ [5, 6, 7, 8] rfl (by decide +kernel)) ggX11_cluster_X11_needPoint
set_option maxRecDepth 20000 in
theorem ggX11_joinedAt_X11_needLaw : GoodIn wsX11_joinedAt wsX11_needLaw := goodIn_ca (goodIn_r _ [7, 8, 9] rfl (by decide +kernel)) (goodIn_sub (fun _ h => List.mem_cons_of_mem _ (List.mem_append_left _ (List.mem_append_right _ h))) (by decide +kernel))
set_option maxRecDepth 20000 in
theorem gX11_joinedAt_X11_needLaw : GoodIn wsX11_joinedAt (va_wsS RX11 326 yX11_needLaw wsX11_needLaw) := goodIn_app (goodIn_r _ [4, 5, 6] rfl (by decide +kernel)) ggX11_joinedAt_X11_needLaw
set_option maxRecDepth 20000 in
theorem ggX11_joinedAt_X5_count : GoodIn wsX11_joinedAt wsX5_count := goodIn_r _ [14, 15, 16, 17, 18, 19, 20, 21, 22, 94, 95, 96, 97, 98, 99, 100] rfl (by decide +kernel)
set_option maxRecDepth 20000 in
theorem gX11_joinedAt_X5_count : GoodIn wsX11_joinedAt (wsV RX11 117 RX5 yX5_count wsX5_count) := goodIn_app (goodIn_r _ [10, 11, 12, 13] rfl (by decide +kernel)) ggX11_joinedAt_X5_count
set_option maxRecDepth 20000 in
theorem ggX11_joinedAt_X11_needRange : GoodIn wsX11_joinedAt wsX11_needRange := goodIn_ca (goodIn_r _ [25, 8, 9] rfl (by decide +kernel)) (goodIn_sub (fun _ h => List.mem_cons_of_mem _ (List.mem_append_left _ (List.mem_append_right _ h))) (by decide +kernel))
set_option maxRecDepth 20000 in
theorem gX11_joinedAt_X11_needRange : GoodIn wsX11_joinedAt (va_wsS RX11 129 yX11_needRange wsX11_needRange) := goodIn_app (goodIn_r _ [23, 24, 6] rfl (by decide +kernel)) ggX11_joinedAt_X11_needRange
set_option maxRecDepth 20000 in
theorem ggX11_countDiscs_X11_needRange : GoodIn wsX11_countDiscs wsX11_needRange := goodIn_ca (goodIn_r _ [9, 10, 11] rfl (by decide +kernel)) (goodIn_sub (fun _ h => List.mem_cons_of_mem _ (List.mem_append_right _ h)) (by decide +kernel))
set_option maxRecDepth 20000 in
theorem gX11_countDiscs_X11_needRange : GoodIn wsX11_countDiscs (va_wsS RX11 129 yX11_needRange wsX11_needRange) := goodIn_app (goodIn_r _ [6, 7, 8] rfl (by decide +kernel)) ggX11_countDiscs_X11_needRange
set_option maxRecDepth 20000 in
theorem ggX11_countDiscs_X5_has : GoodIn wsX11_countDiscs wsX5_has := goodIn_r _ [16, 17, 18, 8, 19, 58, 59, 60, 61, 62, 63, 64] rfl (by decide +kernel)
set_option maxRecDepth 20000 in
theorem gX11_countDiscs_X5_has : GoodIn wsX11_countDiscs (wsV RX11 160 RX5 yX5_has wsX5_has) := goodIn_app (goodIn_r _ [12, 13, 14, 15] rfl (by decide +kernel)) ggX11_countDiscs_X5_has
set_option maxRecDepth 20000 in
theorem ggX11_countDiscs_X2_fewestFor : GoodIn wsX11_countDiscs wsX2_fewestFor := goodIn_ca (goodIn_r _ [34, 35, 36, 37, 38, 39, 40, 41, 42, 43, 44, 33, 45, 46, 18, 8, 19, 57] rfl (by decide +kernel)) (goodIn_sub (fun _ h => List.mem_cons_of_mem _ (List.mem_append_left _ (List.mem_append_right _ h))) (by decide +kernel))
set_option maxRecDepth 20000 in
theorem gX11_countDiscs_X2_fewestFor : GoodIn wsX11_countDiscs (wsV RX11 300 RX2 yX2_fewestFor wsX2_fewestFor) := goodIn_app (goodIn_r _ [30, 31, 32, 33] rfl (by decide +kernel)) ggX11_countDiscs_X2_fewestFor
set_option maxRecDepth 20000 in
theorem ggX11_getHullShare_X5_count : GoodIn wsX11_getHullShare wsX5_count := goodIn_r _ [10, 11, 12, 13, 14, 15, 16, 17, 18, 72, 73, 74, 75, 76, 77, 78] rfl (by decide +kernel)
set_option maxRecDepth 20000 in
theorem gX11_getHullShare_X5_count : GoodIn wsX11_getHullShare (wsV RX11 117 RX5 yX5_count wsX5_count) := goodIn_app (goodIn_r _ [6, 7, 8, 9] rfl (by decide +kernel)) ggX11_getHullShare_X5_count
set_option maxRecDepth 20000 in
theorem ggX11_getMeanNeighbours_X5_count : GoodIn wsX11_getMeanNeighbours wsX5_count := goodIn_r _ [9, 10, 11, 12, 13, 14, 15, 16, 17, 74, 75, 76, 77, 78, 79, 80] rfl (by decide +kernel)
set_option maxRecDepth 20000 in
theorem gX11_getMeanNeighbours_X5_count : GoodIn wsX11_getMeanNeighbours (wsV RX11 117 RX5 yX5_count wsX5_count) := goodIn_app (goodIn_r _ [5, 6, 7, 8] rfl (by decide +kernel)) ggX11_getMeanNeighbours_X5_count
set_option maxRecDepth 20000 in
theorem ggX11_checksum_X5_has : GoodIn wsX11_checksum wsX5_has := goodIn_r _ [15, 16, 17, 18, 19, 65, 66, 67, 68, 69, 70, 71] rfl (by decide +kernel)
set_option maxRecDepth 20000 in
theorem gX11_checksum_X5_has : GoodIn wsX11_checksum (wsV RX11 160 RX5 yX5_has wsX5_has) := goodIn_app (goodIn_r _ [11, 12, 13, 14] rfl (by decide +kernel)) ggX11_checksum_X5_has
set_option maxRecDepth 20000 in
theorem ggX11_checksum_X3_findIn : GoodIn wsX11_checksum wsX3_findIn := goodIn_ca (goodIn_r _ [24, 25, 26, 27, 28, 29, 12, 13, 14, 15, 16, 17, 18, 19, 30, 31, 32, 23, 33, 34, 35, 36, 37, 38, 39, 40, 41, 42, 43, 44, 45, 46, 47, 48, 49, 50, 51, 52, 53, 54, 77, 78, 79, 80, 65, 66, 67, 68, 69, 70, 71] rfl (by decide +kernel)) (goodIn_sub (fun _ h => List.mem_cons_of_mem _ (List.mem_append_right _ h)) (by decide +kernel))
set_option maxRecDepth 20000 in
theorem gX11_checksum_X3_findIn : GoodIn wsX11_checksum (wsV RX11 187 RX3 yX3_findIn wsX3_findIn) := goodIn_app (goodIn_r _ [20, 21, 22, 23] rfl (by decide +kernel)) ggX11_checksum_X3_findIn
set_option maxRecDepth 20000 in
theorem ggX11_isSound_X3_findIn : GoodIn wsX11_isSound wsX3_findIn := goodIn_ca (goodIn_r _ [8, 9, 10, 11, 12, 13, 14, 15, 16, 17, 18, 19, 20, 21, 22, 23, 24, 7, 25, 26, 27, 28, 29, 30, 31, 32, 33, 34, 35, 36, 37, 38, 39, 40, 41, 42, 43, 44, 45, 46, 160, 161, 162, 163, 164, 165, 166, 167, 168, 169, 170] rfl (by decide +kernel)) (goodIn_sub (fun _ h => List.mem_cons_of_mem _ (List.mem_append_right _ h)) (by decide +kernel))
set_option maxRecDepth 20000 in
theorem gX11_isSound_X3_findIn : GoodIn wsX11_isSound (wsV RX11 187 RX3 yX3_findIn wsX3_findIn) := goodIn_app (goodIn_r _ [4, 5, 6, 7] rfl (by decide +kernel)) ggX11_isSound_X3_findIn
set_option maxRecDepth 20000 in
theorem ggX11_isSound_X4_growTree : GoodIn wsX11_isSound wsX4_growTree := goodIn_ca (goodIn_r _ [51, 52, 53, 54, 55, 56, 57, 58, 59, 60, 61, 62, 63, 64, 14, 15, 16, 17, 18, 19, 20, 21, 65, 66, 67, 68, 69, 70, 71, 72, 73, 74, 75, 76, 77, 78, 79, 50, 80, 81, 82, 83, 84, 85, 86, 87, 88, 89, 38, 39, 90, 91, 92, 93, 94, 95, 96, 97, 98, 99, 100, 171, 172, 173, 174, 164, 165, 166, 167, 168, 169, 170, 175, 176] rfl (by decide +kernel)) (goodIn_sub (fun _ h => List.mem_cons_of_mem _ (List.mem_append_right _ h)) (by decide +kernel))
set_option maxRecDepth 20000 in
theorem gX11_isSound_X4_growTree : GoodIn wsX11_isSound (wsV RX11 215 RX4 yX4_growTree wsX4_growTree) := goodIn_app (goodIn_r _ [47, 48, 49, 50] rfl (by decide +kernel)) ggX11_isSound_X4_growTree
set_option maxRecDepth 20000 in
theorem ggX11_isSound_X11_circlesAreEmpty : GoodIn wsX11_isSound wsX11_circlesAreEmpty := goodIn_ca (goodIn_r _ [104, 1, 105, 2, 106, 14, 15, 16, 17, 18, 19, 20, 21, 107, 108, 109, 7, 110, 26, 42, 43, 44, 45, 38, 39, 40, 41, 46, 31, 32, 33, 34, 35, 36, 37, 150, 151, 152, 153, 154, 155, 156, 157, 158, 159, 160, 161, 162, 163, 164, 165, 166, 167, 168, 169, 170] rfl (by decide +kernel)) (goodIn_sub (fun _ h => List.mem_cons_of_mem _ (List.mem_append_right _ h)) (by decide +kernel))
set_option maxRecDepth 20000 in
theorem gX11_isSound_X11_circlesAreEmpty : GoodIn wsX11_isSound (wsV RX11 367 RX11 yX11_circlesAreEmpty wsX11_circlesAreEmpty) := goodIn_app (goodIn_r _ [101, 102, 103, 20] rfl (by decide +kernel)) ggX11_isSound_X11_circlesAreEmpty
set_option maxRecDepth 20000 in
theorem ggX11_isSound_X11_countsFit : GoodIn wsX11_isSound wsX11_countsFit := goodIn_ca (goodIn_r _ [114, 2, 1, 105, 115, 116, 117, 16, 118, 119, 14, 15, 17, 18, 19, 20, 21, 46, 31, 32, 33, 34, 35, 36, 37, 38, 39, 40, 41, 120, 66, 67, 68, 69, 70, 71, 72, 73, 74, 75, 121, 122, 123, 7, 124, 12, 125, 150, 151, 152, 153, 154, 155, 156, 157, 158, 159, 160, 161, 162, 163, 164, 165, 166, 167, 168, 169, 170] rfl (by decide +kernel)) (goodIn_sub (fun _ h => List.mem_cons_of_mem _ (List.mem_append_right _ h)) (by decide +kernel))
set_option maxRecDepth 20000 in
theorem gX11_isSound_X11_countsFit : GoodIn wsX11_isSound (wsV RX11 371 RX11 yX11_countsFit wsX11_countsFit) := goodIn_app (goodIn_r _ [111, 112, 113, 20] rfl (by decide +kernel)) ggX11_isSound_X11_countsFit
set_option maxRecDepth 20000 in
theorem ggX11_isSound_X11_treeIsOfNeighbours : GoodIn wsX11_isSound wsX11_treeIsOfNeighbours := goodIn_ca (goodIn_r _ [129, 2, 3, 130, 1, 131, 115, 116, 117, 16, 118, 119, 14, 15, 17, 18, 19, 20, 21, 46, 31, 32, 33, 34, 35, 36, 37, 38, 39, 40, 41, 150, 151, 152, 153, 154, 155, 156, 157, 158, 159, 171, 172, 173, 174, 160, 161, 162, 163, 164, 165, 166, 167, 168, 169, 170] rfl (by decide +kernel)) (goodIn_sub (fun _ h => List.mem_cons_of_mem _ (List.mem_append_right _ h)) (by decide +kernel))
set_option maxRecDepth 20000 in
theorem gX11_isSound_X11_treeIsOfNeighbours : GoodIn wsX11_isSound (wsV RX11 374 RX11 yX11_treeIsOfNeighbours wsX11_treeIsOfNeighbours) := goodIn_app (goodIn_r _ [126, 127, 128, 20] rfl (by decide +kernel)) ggX11_isSound_X11_treeIsOfNeighbours
set_option maxRecDepth 20000 in
theorem ggX11_isSound_X11_graphsAreNested : GoodIn wsX11_isSound wsX11_graphsAreNested := goodIn_ca (goodIn_r _ [135, 2, 106, 14, 15, 16, 17, 18, 19, 20, 21, 136, 137, 138, 139, 3, 140, 141, 142, 50, 143, 56, 144, 145, 146, 81, 86, 87, 88, 89, 38, 39, 147, 148, 149, 150, 151, 152, 153, 154, 155, 156, 157, 158, 159, 164, 165, 166, 167, 168, 169, 170, 171, 172, 173, 174] rfl (by decide +kernel)) (goodIn_sub (fun _ h => List.mem_cons_of_mem _ (List.mem_append_right _ h)) (by decide +kernel))
set_option maxRecDepth 20000 in
theorem gX11_isSound_X11_graphsAreNested : GoodIn wsX11_isSound (wsV RX11 377 RX11 yX11_graphsAreNested wsX11_graphsAreNested) := goodIn_app (goodIn_r _ [132, 133, 134, 20] rfl (by decide +kernel)) ggX11_isSound_X11_graphsAreNested
set_option maxRecDepth 20000 in
theorem ggX11_needPoint_X5_has : GoodIn wsX11_needPoint wsX5_has := goodIn_r _ [8, 9, 10, 11, 12, 23, 24, 25, 26, 27, 28, 29] rfl (by decide +kernel)
set_option maxRecDepth 20000 in
theorem gX11_needPoint_X5_has : GoodIn wsX11_needPoint (wsV RX11 160 RX5 yX5_has wsX5_has) := goodIn_app (goodIn_r _ [4, 5, 6, 7] rfl (by decide +kernel)) ggX11_needPoint_X5_has
set_option maxRecDepth 20000 in
theorem ggX11_needBoth_X11_needRange : GoodIn wsX11_needBoth wsX11_needRange := goodIn_ca (goodIn_r _ [4, 5, 6] rfl (by decide +kernel)) (goodIn_sub (fun _ h => List.mem_cons_of_mem _ (List.mem_append_right _ h)) (by decide +kernel))
set_option maxRecDepth 20000 in
theorem gX11_needBoth_X11_needRange : GoodIn wsX11_needBoth (va_wsS RX11 129 yX11_needRange wsX11_needRange) := goodIn_app (goodIn_r _ [1, 2, 3] rfl (by decide +kernel)) ggX11_needBoth_X11_needRange
set_option maxRecDepth 20000 in
theorem ggX11_countsFit_X5_someTurn : GoodIn wsX11_countsFit wsX5_someTurn := goodIn_ca (goodIn_r _ [8, 9, 10, 11, 7, 12, 13, 14, 15, 16, 17, 18, 19, 20, 21, 22, 23, 24, 25, 26, 27, 28, 61, 62, 63, 64, 65, 66, 67] rfl (by decide +kernel)) (goodIn_sub (fun _ h => List.mem_cons_of_mem _ (List.mem_append_right _ h)) (by decide +kernel))
set_option maxRecDepth 20000 in
theorem gX11_countsFit_X5_someTurn : GoodIn wsX11_countsFit (wsV RX11 403 RX5 yX5_someTurn wsX5_someTurn) := goodIn_app (goodIn_r _ [4, 5, 6, 7] rfl (by decide +kernel)) ggX11_countsFit_X5_someTurn
set_option maxRecDepth 20000 in
theorem ggX11_treeIsOfNeighbours_X5_someTurn : GoodIn wsX11_treeIsOfNeighbours wsX5_someTurn := goodIn_ca (goodIn_r _ [10, 11, 12, 13, 9, 14, 15, 16, 17, 18, 19, 20, 21, 22, 23, 24, 25, 26, 27, 28, 29, 30, 49, 50, 51, 52, 53, 54, 55] rfl (by decide +kernel)) (goodIn_sub (fun _ h => List.mem_cons_of_mem _ (List.mem_append_right _ h)) (by decide +kernel))
set_option maxRecDepth 20000 in
theorem gX11_treeIsOfNeighbours_X5_someTurn : GoodIn wsX11_treeIsOfNeighbours (wsV RX11 403 RX5 yX5_someTurn wsX5_someTurn) := goodIn_app (goodIn_r _ [6, 7, 8, 9] rfl (by decide +kernel)) ggX11_treeIsOfNeighbours_X5_someTurn
set_option maxRecDepth 20000 in
theorem ggX11_graphsAreNested_X5_has : GoodIn wsX11_graphsAreNested wsX5_has := goodIn_r _ [6, 7, 8, 9, 10, 45, 46, 47, 48, 49, 50, 51] rfl (by decide +kernel)
set_option maxRecDepth 20000 in
theorem gX11_graphsAreNested_X5_has : GoodIn wsX11_graphsAreNested (wsV RX11 160 RX5 yX5_has wsX5_has) := goodIn_app (goodIn_r _ [2, 3, 4, 5] rfl (by decide +kernel)) ggX11_graphsAreNested_X5_has
set_option maxRecDepth 20000 in
theorem ggX12_isPlace_X12_isBetween : GoodIn wsX12_isPlace wsX12_isBetween := goodIn_r _ [4] rfl (by decide +kernel)
set_option maxRecDepth 20000 in
theorem gX12_isPlace_X12_isBetween : GoodIn wsX12_isPlace (va_wsS RX12 29 yX12_isBetween wsX12_isBetween) := goodIn_app (goodIn_r _ [1, 2, 3] rfl (by decide +kernel)) ggX12_isPlace_X12_isBetween
set_option maxRecDepth 20000 in
theorem ggX12_isThere_X12_isBetween : GoodIn wsX12_isThere wsX12_isBetween := goodIn_r _ [6] rfl (by decide +kernel)
set_option maxRecDepth 20000 in
theorem gX12_isThere_X12_isBetween : GoodIn wsX12_isThere (va_wsS RX12 29 yX12_isBetween wsX12_isBetween) := goodIn_app (goodIn_r _ [3, 4, 5] rfl (by decide +kernel)) ggX12_isThere_X12_isBetween
set_option maxRecDepth 20000 in
theorem ggX12_isNoPoint_X12_isThere : GoodIn wsX12_isNoPoint wsX12_isThere := goodIn_r _ [5, 6, 7, 8, 9, 4, 10, 16, 17, 18, 19, 20] rfl (by decide +kernel)
set_option maxRecDepth 20000 in
theorem gX12_isNoPoint_X12_isThere : GoodIn wsX12_isNoPoint (wsV RX12 35 RX12 yX12_isThere wsX12_isThere) := goodIn_app (goodIn_r _ [1, 2, 3, 4] rfl (by decide +kernel)) ggX12_isNoPoint_X12_isThere
set_option maxRecDepth 20000 in
theorem ggX12_isNoPoint_X12_isWrong : GoodIn wsX12_isNoPoint wsX12_isWrong := goodIn_r _ [14, 15, 16, 17, 18, 19, 20] rfl (by decide +kernel)
set_option maxRecDepth 20000 in
theorem gX12_isNoPoint_X12_isWrong : GoodIn wsX12_isNoPoint (wsV RX12 39 RX12 yX12_isWrong wsX12_isWrong) := goodIn_app (goodIn_r _ [11, 12, 13, 4] rfl (by decide +kernel)) ggX12_isNoPoint_X12_isWrong
set_option maxRecDepth 20000 in
theorem ggX12_remove_X12_isNoPoint : GoodIn wsX12_remove wsX12_isNoPoint := goodIn_r _ [6, 7, 8, 9, 5, 10, 11, 1, 12, 13, 14, 15, 16, 17, 18, 19, 115, 116, 117, 118, 119] rfl (by decide +kernel)
set_option maxRecDepth 20000 in
theorem gX12_remove_X12_isNoPoint : GoodIn wsX12_remove (wsV RX12 78 RX12 yX12_isNoPoint wsX12_isNoPoint) := goodIn_app (goodIn_r _ [2, 3, 4, 5] rfl (by decide +kernel)) ggX12_remove_X12_isNoPoint
set_option maxRecDepth 20000 in
theorem ggX12_move_X12_isNoPoint : GoodIn wsX12_move wsX12_isNoPoint := goodIn_r _ [6, 7, 8, 9, 5, 10, 11, 1, 12, 13, 14, 15, 16, 17, 18, 19, 121, 122, 123, 124, 125] rfl (by decide +kernel)
set_option maxRecDepth 20000 in
theorem gX12_move_X12_isNoPoint : GoodIn wsX12_move (wsV RX12 78 RX12 yX12_isNoPoint wsX12_isNoPoint) := goodIn_app (goodIn_r _ [2, 3, 4, 5] rfl (by decide +kernel)) ggX12_move_X12_isNoPoint
set_option maxRecDepth 20000 in
theorem ggX12_setWeight_X12_isNoPoint : GoodIn wsX12_setWeight wsX12_isNoPoint := goodIn_r _ [7, 8, 9, 10, 6, 11, 12, 2, 13, 14, 15, 16, 17, 18, 19, 20, 21, 22, 23, 24, 25] rfl (by decide +kernel)
set_option maxRecDepth 20000 in
theorem gX12_setWeight_X12_isNoPoint : GoodIn wsX12_setWeight (wsV RX12 78 RX12 yX12_isNoPoint wsX12_isNoPoint) := goodIn_app (goodIn_r _ [3, 4, 5, 6] rfl (by decide +kernel)) ggX12_setWeight_X12_isNoPoint
set_option maxRecDepth 20000 in
theorem ggX12_countPoints_X12_many : GoodIn wsX12_countPoints wsX12_many := goodIn_r _ [6, 7, 8, 9, 10, 11, 12] rfl (by decide +kernel)
set_option maxRecDepth 20000 in
theorem gX12_countPoints_X12_many : GoodIn wsX12_countPoints (wsV RX12 72 RX12 yX12_many wsX12_many) := goodIn_app (goodIn_r _ [2, 3, 4, 5] rfl (by decide +kernel)) ggX12_countPoints_X12_many
set_option maxRecDepth 20000 in
theorem ggX12_pointAt_X12_at : GoodIn wsX12_pointAt wsX12_at := goodIn_ca (goodIn_r _ [5, 6, 12, 13, 14, 15, 16] rfl (by decide +kernel)) (goodIn_sub (fun _ h => List.mem_cons_of_mem _ (List.mem_append_right _ h)) (by decide +kernel))
set_option maxRecDepth 20000 in
theorem gX12_pointAt_X12_at : GoodIn wsX12_pointAt (wsV RX12 68 RX12 yX12_at wsX12_at) := goodIn_app (goodIn_r _ [1, 2, 3, 4] rfl (by decide +kernel)) ggX12_pointAt_X12_at
set_option maxRecDepth 20000 in
theorem ggX12_pointAt_X12_isWrong : GoodIn wsX12_pointAt wsX12_isWrong := goodIn_r _ [10, 11, 12, 13, 14, 15, 16] rfl (by decide +kernel)
set_option maxRecDepth 20000 in
theorem gX12_pointAt_X12_isWrong : GoodIn wsX12_pointAt (wsV RX12 39 RX12 yX12_isWrong wsX12_isWrong) := goodIn_app (goodIn_r _ [7, 8, 9, 4] rfl (by decide +kernel)) ggX12_pointAt_X12_isWrong
set_option maxRecDepth 20000 in
theorem ggX12_isNoQuestion_X12_isKind : GoodIn wsX12_isNoQuestion wsX12_isKind := goodIn_r _ [4] rfl (by decide +kernel)
set_option maxRecDepth 20000 in
theorem gX12_isNoQuestion_X12_isKind : GoodIn wsX12_isNoQuestion (va_wsS RX12 105 yX12_isKind wsX12_isKind) := goodIn_app (goodIn_r _ [1, 2, 3] rfl (by decide +kernel)) ggX12_isNoQuestion_X12_isKind
set_option maxRecDepth 20000 in
theorem ggX12_isNoQuestion_X12_isPlace : GoodIn wsX12_isNoQuestion wsX12_isPlace := goodIn_r _ [7, 8, 9, 3, 10] rfl (by decide +kernel)
set_option maxRecDepth 20000 in
theorem gX12_isNoQuestion_X12_isPlace : GoodIn wsX12_isNoQuestion (va_wsS RX12 64 yX12_isPlace wsX12_isPlace) := goodIn_app (goodIn_r _ [5, 6, 3] rfl (by decide +kernel)) ggX12_isNoQuestion_X12_isPlace
set_option maxRecDepth 20000 in
theorem ggX12_isNoQuestion_X12_many : GoodIn wsX12_isNoQuestion wsX12_many := goodIn_r _ [14, 15, 21, 22, 23, 24, 25] rfl (by decide +kernel)
set_option maxRecDepth 20000 in
theorem gX12_isNoQuestion_X12_many : GoodIn wsX12_isNoQuestion (wsV RX12 72 RX12 yX12_many wsX12_many) := goodIn_app (goodIn_r _ [11, 12, 13, 3] rfl (by decide +kernel)) ggX12_isNoQuestion_X12_many
set_option maxRecDepth 20000 in
theorem ggX12_isNoQuestion_X12_isBetween : GoodIn wsX12_isNoQuestion wsX12_isBetween := goodIn_r _ [10] rfl (by decide +kernel)
set_option maxRecDepth 20000 in
theorem gX12_isNoQuestion_X12_isBetween : GoodIn wsX12_isNoQuestion (va_wsS RX12 29 yX12_isBetween wsX12_isBetween) := goodIn_app (goodIn_r _ [8, 9, 3] rfl (by decide +kernel)) ggX12_isNoQuestion_X12_isBetween
set_option maxRecDepth 20000 in
theorem ggX12_isNoQuestion_X12_isWrong : GoodIn wsX12_isNoQuestion wsX12_isWrong := goodIn_r _ [19, 20, 21, 22, 23, 24, 25] rfl (by decide +kernel)
set_option maxRecDepth 20000 in
theorem gX12_isNoQuestion_X12_isWrong : GoodIn wsX12_isNoQuestion (wsV RX12 39 RX12 yX12_isWrong wsX12_isWrong) := goodIn_app (goodIn_r _ [16, 17, 18, 3] rfl (by decide +kernel)) ggX12_isNoQuestion_X12_isWrong
set_option maxRecDepth 20000 in
theorem ggX12_nearest_X12_nearestAt : GoodIn wsX12_nearest wsX12_nearestAt := goodIn_ca (goodIn_r _ [5, 6, 7, 8, 4, 9, 10, 11, 12, 13, 14, 15, 16, 17, 18, 19, 20, 21, 22, 23, 24, 25, 26, 27, 28, 29, 30, 31, 32, 33, 34, 35, 36, 37, 38, 39, 40, 41, 42, 43, 44, 45, 46, 47, 48, 49, 50, 51] rfl (by decide +kernel)) (goodIn_sub (fun _ h => List.mem_cons_of_mem _ (List.mem_append_right _ h)) (by decide +kernel))
set_option maxRecDepth 20000 in
theorem gX12_nearest_X12_nearestAt : GoodIn wsX12_nearest (wsV RX12 109 RX12 yX12_nearestAt wsX12_nearestAt) := goodIn_app (goodIn_r _ [1, 2, 3, 4] rfl (by decide +kernel)) ggX12_nearest_X12_nearestAt
set_option maxRecDepth 20000 in
theorem ggX12_nearness__X12_isNoQuestion : GoodIn wsX12_nearness_ wsX12_isNoQuestion := goodIn_r _ [6, 7, 8, 5, 9, 10, 11, 12, 13, 14, 15, 16, 17, 18, 19, 1, 20, 21, 22, 23, 24, 43, 44, 45, 46, 47] rfl (by decide +kernel)
set_option maxRecDepth 20000 in
theorem gX12_nearness__X12_isNoQuestion : GoodIn wsX12_nearness_ (wsV RX12 113 RX12 yX12_isNoQuestion wsX12_isNoQuestion) := goodIn_app (goodIn_r _ [2, 3, 4, 5] rfl (by decide +kernel)) ggX12_nearness__X12_isNoQuestion
set_option maxRecDepth 20000 in
theorem ggX12_farthest_X12_isNoQuestion : GoodIn wsX12_farthest wsX12_isNoQuestion := goodIn_r _ [6, 7, 8, 5, 9, 10, 11, 12, 13, 14, 15, 16, 17, 18, 19, 1, 20, 21, 22, 23, 24, 38, 39, 40, 41, 42] rfl (by decide +kernel)
set_option maxRecDepth 20000 in
theorem gX12_farthest_X12_isNoQuestion : GoodIn wsX12_farthest (wsV RX12 113 RX12 yX12_isNoQuestion wsX12_isNoQuestion) := goodIn_app (goodIn_r _ [2, 3, 4, 5] rfl (by decide +kernel)) ggX12_farthest_X12_isNoQuestion
set_option maxRecDepth 20000 in
theorem ggX12_nearestAt_X12_isNoQuestion : GoodIn wsX12_nearestAt wsX12_isNoQuestion := goodIn_r _ [5, 6, 7, 4, 8, 9, 10, 11, 12, 13, 14, 15, 16, 17, 18, 19, 20, 21, 22, 23, 24, 43, 44, 45, 46, 47] rfl (by decide +kernel)
set_option maxRecDepth 20000 in
theorem gX12_nearestAt_X12_isNoQuestion : GoodIn wsX12_nearestAt (wsV RX12 113 RX12 yX12_isNoQuestion wsX12_isNoQuestion) := goodIn_app (goodIn_r _ [1, 2, 3, 4] rfl (by decide +kernel)) ggX12_nearestAt_X12_isNoQuestion
set_option maxRecDepth 20000 in
theorem ggX12_within_X12_isPlace : GoodIn wsX12_within wsX12_isPlace := goodIn_r _ [6, 7, 8, 5, 9] rfl (by decide +kernel)
set_option maxRecDepth 20000 in
theorem gX12_within_X12_isPlace : GoodIn wsX12_within (va_wsS RX12 64 yX12_isPlace wsX12_isPlace) := goodIn_app (goodIn_r _ [3, 4, 5] rfl (by decide +kernel)) ggX12_within_X12_isPlace
set_option maxRecDepth 20000 in
theorem ggX12_within_X12_isBetween : GoodIn wsX12_within wsX12_isBetween := goodIn_r _ [9] rfl (by decide +kernel)
set_option maxRecDepth 20000 in
theorem gX12_within_X12_isBetween : GoodIn wsX12_within (va_wsS RX12 29 yX12_isBetween wsX12_isBetween) := goodIn_app (goodIn_r _ [7, 8, 5] rfl (by decide +kernel)) ggX12_within_X12_isBetween
set_option maxRecDepth 20000 in
theorem ggX12_within_X12_isWrong : GoodIn wsX12_within wsX12_isWrong := goodIn_r _ [13, 14, 18, 19, 20, 21, 22] rfl (by decide +kernel)
set_option maxRecDepth 20000 in
theorem gX12_within_X12_isWrong : GoodIn wsX12_within (wsV RX12 39 RX12 yX12_isWrong wsX12_isWrong) := goodIn_app (goodIn_r _ [10, 11, 12, 5] rfl (by decide +kernel)) ggX12_within_X12_isWrong
set_option maxRecDepth 20000 in
theorem ggX12_cell_X12_isNoPoint : GoodIn wsX12_cell wsX12_isNoPoint := goodIn_r _ [6, 7, 8, 9, 5, 10, 11, 1, 12, 13, 14, 15, 16, 17, 18, 19, 36, 37, 38, 39, 40] rfl (by decide +kernel)
set_option maxRecDepth 20000 in
theorem gX12_cell_X12_isNoPoint : GoodIn wsX12_cell (wsV RX12 78 RX12 yX12_isNoPoint wsX12_isNoPoint) := goodIn_app (goodIn_r _ [2, 3, 4, 5] rfl (by decide +kernel)) ggX12_cell_X12_isNoPoint
set_option maxRecDepth 20000 in
theorem ggX12_areThree_X12_isThere : GoodIn wsX12_areThree wsX12_isThere := goodIn_r _ [5, 6, 7, 8, 9, 4, 10, 16, 17, 18, 19, 20] rfl (by decide +kernel)
set_option maxRecDepth 20000 in
theorem gX12_areThree_X12_isThere : GoodIn wsX12_areThree (wsV RX12 35 RX12 yX12_isThere wsX12_isThere) := goodIn_app (goodIn_r _ [1, 2, 3, 4] rfl (by decide +kernel)) ggX12_areThree_X12_isThere
set_option maxRecDepth 20000 in
theorem ggX12_areThree_X12_isWrong : GoodIn wsX12_areThree wsX12_isWrong := goodIn_r _ [14, 15, 16, 17, 18, 19, 20] rfl (by decide +kernel)
set_option maxRecDepth 20000 in
theorem gX12_areThree_X12_isWrong : GoodIn wsX12_areThree (wsV RX12 39 RX12 yX12_isWrong wsX12_isWrong) := goodIn_app (goodIn_r _ [11, 12, 13, 4] rfl (by decide +kernel)) ggX12_areThree_X12_isWrong
set_option maxRecDepth 20000 in
theorem ggX12_turn_X12_areThree : GoodIn wsX12_turn wsX12_areThree := goodIn_r _ [5, 6, 7, 8, 4, 9, 10, 11, 12, 13, 14, 15, 16, 17, 18, 19, 31, 32, 33, 34, 35] rfl (by decide +kernel)
set_option maxRecDepth 20000 in
theorem gX12_turn_X12_areThree : GoodIn wsX12_turn (wsV RX12 137 RX12 yX12_areThree wsX12_areThree) := goodIn_app (goodIn_r _ [1, 2, 3, 4] rfl (by decide +kernel)) ggX12_turn_X12_areThree
set_option maxRecDepth 20000 in
theorem ggX12_inCircle_X12_isThere : GoodIn wsX12_inCircle wsX12_isThere := goodIn_r _ [5, 6, 7, 8, 9, 4, 10, 31, 32, 33, 34, 35] rfl (by decide +kernel)
set_option maxRecDepth 20000 in
theorem gX12_inCircle_X12_isThere : GoodIn wsX12_inCircle (wsV RX12 35 RX12 yX12_isThere wsX12_isThere) := goodIn_app (goodIn_r _ [1, 2, 3, 4] rfl (by decide +kernel)) ggX12_inCircle_X12_isThere
set_option maxRecDepth 20000 in
theorem ggX12_inCircle_X12_isWrong : GoodIn wsX12_inCircle wsX12_isWrong := goodIn_r _ [25, 26, 31, 32, 33, 34, 35] rfl (by decide +kernel)
set_option maxRecDepth 20000 in
theorem gX12_inCircle_X12_isWrong : GoodIn wsX12_inCircle (wsV RX12 39 RX12 yX12_isWrong wsX12_isWrong) := goodIn_app (goodIn_r _ [22, 23, 24, 4] rfl (by decide +kernel)) ggX12_inCircle_X12_isWrong
set_option maxRecDepth 20000 in
theorem ggX12_countTriangles_X12_isThere : GoodIn wsX12_countTriangles wsX12_isThere := goodIn_r _ [6, 7, 8, 9, 10, 5, 11, 35, 36, 37, 38, 39] rfl (by decide +kernel)
set_option maxRecDepth 20000 in
theorem gX12_countTriangles_X12_isThere : GoodIn wsX12_countTriangles (wsV RX12 35 RX12 yX12_isThere wsX12_isThere) := goodIn_app (goodIn_r _ [2, 3, 4, 5] rfl (by decide +kernel)) ggX12_countTriangles_X12_isThere
set_option maxRecDepth 20000 in
theorem ggX12_isTriangle_X12_areThree : GoodIn wsX12_isTriangle wsX12_areThree := goodIn_r _ [5, 6, 7, 8, 4, 9, 10, 11, 12, 13, 14, 15, 16, 17, 18, 19, 43, 44, 45, 46, 47] rfl (by decide +kernel)
set_option maxRecDepth 20000 in
theorem gX12_isTriangle_X12_areThree : GoodIn wsX12_isTriangle (wsV RX12 137 RX12 yX12_areThree wsX12_areThree) := goodIn_app (goodIn_r _ [1, 2, 3, 4] rfl (by decide +kernel)) ggX12_isTriangle_X12_areThree
set_option maxRecDepth 20000 in
theorem ggX12_areTwo_X12_isThere : GoodIn wsX12_areTwo wsX12_isThere := goodIn_r _ [5, 6, 7, 8, 9, 4, 10, 16, 17, 18, 19, 20] rfl (by decide +kernel)
set_option maxRecDepth 20000 in
theorem gX12_areTwo_X12_isThere : GoodIn wsX12_areTwo (wsV RX12 35 RX12 yX12_isThere wsX12_isThere) := goodIn_app (goodIn_r _ [1, 2, 3, 4] rfl (by decide +kernel)) ggX12_areTwo_X12_isThere
set_option maxRecDepth 20000 in
theorem ggX12_areTwo_X12_isWrong : GoodIn wsX12_areTwo wsX12_isWrong := goodIn_r _ [14, 15, 16, 17, 18, 19, 20] rfl (by decide +kernel)
set_option maxRecDepth 20000 in
theorem gX12_areTwo_X12_isWrong : GoodIn wsX12_areTwo (wsV RX12 39 RX12 yX12_isWrong wsX12_isWrong) := goodIn_app (goodIn_r _ [11, 12, 13, 4] rfl (by decide +kernel)) ggX12_areTwo_X12_isWrong
set_option maxRecDepth 20000 in
theorem ggX12_isEdge_X12_isThere : GoodIn wsX12_isEdge wsX12_isThere := goodIn_r _ [5, 6, 7, 8, 9, 4, 10, 34, 35, 36, 37, 38] rfl (by decide +kernel)
set_option maxRecDepth 20000 in
theorem gX12_isEdge_X12_isThere : GoodIn wsX12_isEdge (wsV RX12 35 RX12 yX12_isThere wsX12_isThere) := goodIn_app (goodIn_r _ [1, 2, 3, 4] rfl (by decide +kernel)) ggX12_isEdge_X12_isThere
set_option maxRecDepth 20000 in
theorem ggX12_areNeighbours_X12_areTwo : GoodIn wsX12_areNeighbours wsX12_areTwo := goodIn_r _ [5, 6, 7, 8, 4, 9, 10, 11, 12, 13, 14, 15, 16, 17, 18, 19, 47, 48, 49, 50, 51] rfl (by decide +kernel)
set_option maxRecDepth 20000 in
theorem gX12_areNeighbours_X12_areTwo : GoodIn wsX12_areNeighbours (wsV RX12 150 RX12 yX12_areTwo wsX12_areTwo) := goodIn_app (goodIn_r _ [1, 2, 3, 4] rfl (by decide +kernel)) ggX12_areNeighbours_X12_areTwo
set_option maxRecDepth 20000 in
theorem ggX12_neighbours_X12_isEdge : GoodIn wsX12_neighbours wsX12_isEdge := goodIn_ca (goodIn_r _ [5, 6, 7, 8, 4, 9, 10, 11, 12, 13, 14, 15, 16, 17, 18, 19, 20, 21, 22, 23, 24, 25, 26, 27, 28, 29, 30, 31, 32, 33, 34, 35, 36, 37, 38, 39, 40, 41, 42] rfl (by decide +kernel)) (goodIn_sub (fun _ h => List.mem_cons_of_mem _ (List.mem_append_right _ h)) (by decide +kernel))
set_option maxRecDepth 20000 in
theorem gX12_neighbours_X12_isEdge : GoodIn wsX12_neighbours (wsV RX12 154 RX12 yX12_isEdge wsX12_isEdge) := goodIn_app (goodIn_r _ [1, 2, 3, 4] rfl (by decide +kernel)) ggX12_neighbours_X12_isEdge
set_option maxRecDepth 20000 in
theorem ggX12_countNeighbours_X12_isNoPoint : GoodIn wsX12_countNeighbours wsX12_isNoPoint := goodIn_r _ [5, 6, 7, 8, 4, 9, 10, 11, 12, 13, 14, 15, 16, 17, 18, 19, 51, 52, 53, 54, 55] rfl (by decide +kernel)
set_option maxRecDepth 20000 in
theorem gX12_countNeighbours_X12_isNoPoint : GoodIn wsX12_countNeighbours (wsV RX12 78 RX12 yX12_isNoPoint wsX12_isNoPoint) := goodIn_app (goodIn_r _ [1, 2, 3, 4] rfl (by decide +kernel)) ggX12_countNeighbours_X12_isNoPoint
set_option maxRecDepth 20000 in
theorem ggX12_isJoined_X12_areTwo : GoodIn wsX12_isJoined wsX12_areTwo := goodIn_r _ [5, 6, 7, 8, 4, 9, 10, 11, 12, 13, 14, 15, 16, 17, 18, 19, 53, 54, 55, 56, 57] rfl (by decide +kernel)
set_option maxRecDepth 20000 in
theorem gX12_isJoined_X12_areTwo : GoodIn wsX12_isJoined (wsV RX12 150 RX12 yX12_areTwo wsX12_areTwo) := goodIn_app (goodIn_r _ [1, 2, 3, 4] rfl (by decide +kernel)) ggX12_isJoined_X12_areTwo
set_option maxRecDepth 20000 in
theorem ggX12_steps_X12_areTwo : GoodIn wsX12_steps wsX12_areTwo := goodIn_r _ [5, 6, 7, 8, 4, 9, 10, 11, 12, 13, 14, 15, 16, 17, 18, 19, 53, 54, 55, 56, 57] rfl (by decide +kernel)
set_option maxRecDepth 20000 in
theorem gX12_steps_X12_areTwo : GoodIn wsX12_steps (wsV RX12 150 RX12 yX12_areTwo wsX12_areTwo) := goodIn_app (goodIn_r _ [1, 2, 3, 4] rfl (by decide +kernel)) ggX12_steps_X12_areTwo
set_option maxRecDepth 20000 in
theorem ggX12_layer_X12_isNoPoint : GoodIn wsX12_layer wsX12_isNoPoint := goodIn_r _ [5, 6, 7, 8, 4, 9, 10, 11, 12, 13, 14, 15, 16, 17, 18, 19, 173, 174, 175, 176, 177] rfl (by decide +kernel)
set_option maxRecDepth 20000 in
theorem gX12_layer_X12_isNoPoint : GoodIn wsX12_layer (wsV RX12 78 RX12 yX12_isNoPoint wsX12_isNoPoint) := goodIn_app (goodIn_r _ [1, 2, 3, 4] rfl (by decide +kernel)) ggX12_layer_X12_isNoPoint
set_option maxRecDepth 20000 in
theorem ggX12_depth_X12_isNoPoint : GoodIn wsX12_depth wsX12_isNoPoint := goodIn_r _ [10, 11, 12, 13, 9, 14, 15, 1, 16, 17, 18, 19, 20, 21, 22, 23, 39, 40, 41, 42, 43] rfl (by decide +kernel)
set_option maxRecDepth 20000 in
theorem gX12_depth_X12_isNoPoint : GoodIn wsX12_depth (wsV RX12 78 RX12 yX12_isNoPoint wsX12_isNoPoint) := goodIn_app (goodIn_r _ [6, 7, 8, 9] rfl (by decide +kernel)) ggX12_depth_X12_isNoPoint
set_option maxRecDepth 20000 in
theorem ggX12_sees_X12_isNoPoint : GoodIn wsX12_sees wsX12_isNoPoint := goodIn_r _ [5, 6, 7, 8, 4, 9, 10, 11, 12, 13, 14, 15, 16, 17, 18, 19, 83, 84, 85, 86, 87] rfl (by decide +kernel)
set_option maxRecDepth 20000 in
theorem gX12_sees_X12_isNoPoint : GoodIn wsX12_sees (wsV RX12 78 RX12 yX12_isNoPoint wsX12_isNoPoint) := goodIn_app (goodIn_r _ [1, 2, 3, 4] rfl (by decide +kernel)) ggX12_sees_X12_isNoPoint
set_option maxRecDepth 20000 in
theorem ggX12_countSeen_X12_isNoPoint : GoodIn wsX12_countSeen wsX12_isNoPoint := goodIn_r _ [5, 6, 7, 8, 4, 9, 10, 11, 12, 13, 14, 15, 16, 17, 18, 19, 91, 92, 93, 94, 95] rfl (by decide +kernel)
set_option maxRecDepth 20000 in
theorem gX12_countSeen_X12_isNoPoint : GoodIn wsX12_countSeen (wsV RX12 78 RX12 yX12_isNoPoint wsX12_isNoPoint) := goodIn_app (goodIn_r _ [1, 2, 3, 4] rfl (by decide +kernel)) ggX12_countSeen_X12_isNoPoint
set_option maxRecDepth 20000 in
theorem ggX12_fewest_X12_many : GoodIn wsX12_fewest wsX12_many := goodIn_r _ [5, 6, 18, 19, 20, 21, 22] rfl (by decide +kernel)
set_option maxRecDepth 20000 in
theorem gX12_fewest_X12_many : GoodIn wsX12_fewest (wsV RX12 72 RX12 yX12_many wsX12_many) := goodIn_app (goodIn_r _ [1, 2, 3, 4] rfl (by decide +kernel)) ggX12_fewest_X12_many
set_option maxRecDepth 20000 in
theorem ggX12_fewest_J6_bitCount_0f7a4 : GoodIn wsX12_fewest wsJ6_bitCount_0f7a4 := goodIn_r _ [10, 11, 12, 13] rfl (by decide +kernel)
set_option maxRecDepth 20000 in
theorem gX12_fewest_J6_bitCount_0f7a4 : GoodIn wsX12_fewest (va_wsS RX12 254 yJ6_bitCount_0f7a4 wsJ6_bitCount_0f7a4) := goodIn_app (goodIn_r _ [7, 8, 9] rfl (by decide +kernel)) ggX12_fewest_J6_bitCount_0f7a4
set_option maxRecDepth 20000 in
theorem ggX12_leastGuards_X12_fewest : GoodIn wsX12_leastGuards wsX12_fewest := goodIn_ca (goodIn_r _ [74, 75, 76, 77, 7, 78, 3, 79, 80, 81, 82, 83, 84, 85, 86, 87, 88, 89, 90, 91, 92, 93, 94] rfl (by decide +kernel)) (goodIn_sub (fun _ h => List.mem_cons_of_mem _ (List.mem_append_right _ h)) (by decide +kernel))
set_option maxRecDepth 20000 in
theorem gX12_leastGuards_X12_fewest : GoodIn wsX12_leastGuards (wsV RX12 257 RX12 yX12_fewest wsX12_fewest) := goodIn_app (goodIn_r _ [71, 72, 73, 7] rfl (by decide +kernel)) ggX12_leastGuards_X12_fewest
set_option maxRecDepth 20000 in
theorem ggX12_setSpeed_X12_isNoPoint : GoodIn wsX12_setSpeed wsX12_isNoPoint := goodIn_r _ [6, 7, 8, 9, 5, 10, 11, 1, 12, 13, 14, 15, 16, 17, 18, 19, 23, 24, 25, 26, 27] rfl (by decide +kernel)
set_option maxRecDepth 20000 in
theorem gX12_setSpeed_X12_isNoPoint : GoodIn wsX12_setSpeed (wsV RX12 78 RX12 yX12_isNoPoint wsX12_isNoPoint) := goodIn_app (goodIn_r _ [2, 3, 4, 5] rfl (by decide +kernel)) ggX12_setSpeed_X12_isNoPoint
set_option maxRecDepth 20000 in
theorem ggX12_isNoChange_X12_isPlace : GoodIn wsX12_isNoChange wsX12_isPlace := goodIn_r _ [4, 5, 6, 3, 7] rfl (by decide +kernel)
set_option maxRecDepth 20000 in
theorem gX12_isNoChange_X12_isPlace : GoodIn wsX12_isNoChange (va_wsS RX12 64 yX12_isPlace wsX12_isPlace) := goodIn_app (goodIn_r _ [1, 2, 3] rfl (by decide +kernel)) ggX12_isNoChange_X12_isPlace
set_option maxRecDepth 20000 in
theorem ggX12_isNoChange_X12_many : GoodIn wsX12_isNoChange wsX12_many := goodIn_r _ [11, 12, 41, 42, 43, 44, 45] rfl (by decide +kernel)
set_option maxRecDepth 20000 in
theorem gX12_isNoChange_X12_many : GoodIn wsX12_isNoChange (wsV RX12 72 RX12 yX12_many wsX12_many) := goodIn_app (goodIn_r _ [8, 9, 10, 3] rfl (by decide +kernel)) ggX12_isNoChange_X12_many
set_option maxRecDepth 20000 in
theorem ggX12_isNoChange_X12_isWrong : GoodIn wsX12_isNoChange wsX12_isWrong := goodIn_r _ [39, 40, 41, 42, 43, 44, 45] rfl (by decide +kernel)
set_option maxRecDepth 20000 in
theorem gX12_isNoChange_X12_isWrong : GoodIn wsX12_isNoChange (wsV RX12 39 RX12 yX12_isWrong wsX12_isWrong) := goodIn_app (goodIn_r _ [36, 37, 38, 3] rfl (by decide +kernel)) ggX12_isNoChange_X12_isWrong
set_option maxRecDepth 20000 in
theorem ggX12_nextNearest_X12_isNoChange : GoodIn wsX12_nextNearest wsX12_isNoChange := goodIn_ca (goodIn_r _ [5, 6, 7, 4, 8, 9, 10, 11, 12, 13, 14, 15, 16, 17, 18, 19, 20, 21, 22, 23, 24, 25, 26, 27, 28, 29, 30, 31, 32, 33, 34, 35, 36, 37, 38, 39, 40, 41, 42, 43, 44, 45, 46, 47, 48, 49] rfl (by decide +kernel)) (goodIn_sub (fun _ h => List.mem_cons_of_mem _ (List.mem_append_right _ h)) (by decide +kernel))
set_option maxRecDepth 20000 in
theorem gX12_nextNearest_X12_isNoChange : GoodIn wsX12_nextNearest (wsV RX12 274 RX12 yX12_isNoChange wsX12_isNoChange) := goodIn_app (goodIn_r _ [1, 2, 3, 4] rfl (by decide +kernel)) ggX12_nextNearest_X12_isNoChange
set_option maxRecDepth 20000 in
theorem ggX12_nextTime_X12_isNoChange : GoodIn wsX12_nextTime wsX12_isNoChange := goodIn_ca (goodIn_r _ [5, 6, 7, 4, 8, 9, 10, 11, 12, 13, 14, 15, 16, 17, 18, 19, 20, 21, 22, 23, 24, 25, 26, 27, 28, 29, 30, 31, 32, 33, 34, 35, 36, 37, 38, 39, 40, 41, 42, 43, 44, 45, 46, 47, 48, 49] rfl (by decide +kernel)) (goodIn_sub (fun _ h => List.mem_cons_of_mem _ (List.mem_append_right _ h)) (by decide +kernel))
set_option maxRecDepth 20000 in
theorem gX12_nextTime_X12_isNoChange : GoodIn wsX12_nextTime (wsV RX12 274 RX12 yX12_isNoChange wsX12_isNoChange) := goodIn_app (goodIn_r _ [1, 2, 3, 4] rfl (by decide +kernel)) ggX12_nextTime_X12_isNoChange
set_option maxRecDepth 20000 in
theorem ggX12_isNoCut_X12_isBetween : GoodIn wsX12_isNoCut wsX12_isBetween := goodIn_r _ [4] rfl (by decide +kernel)
set_option maxRecDepth 20000 in
theorem gX12_isNoCut_X12_isBetween : GoodIn wsX12_isNoCut (va_wsS RX12 29 yX12_isBetween wsX12_isBetween) := goodIn_app (goodIn_r _ [1, 2, 3] rfl (by decide +kernel)) ggX12_isNoCut_X12_isBetween
set_option maxRecDepth 20000 in
theorem ggX12_cluster_X12_isNoPoint : GoodIn wsX12_cluster wsX12_isNoPoint := goodIn_r _ [5, 6, 7, 8, 4, 9, 10, 11, 12, 13, 14, 15, 16, 17, 18, 19, 53, 54, 55, 56, 57] rfl (by decide +kernel)
set_option maxRecDepth 20000 in
theorem gX12_cluster_X12_isNoPoint : GoodIn wsX12_cluster (wsV RX12 78 RX12 yX12_isNoPoint wsX12_isNoPoint) := goodIn_app (goodIn_r _ [1, 2, 3, 4] rfl (by decide +kernel)) ggX12_cluster_X12_isNoPoint
set_option maxRecDepth 20000 in
theorem ggX12_joinedAt_X12_many : GoodIn wsX12_joinedAt wsX12_many := goodIn_r _ [6, 7, 44, 45, 46, 47, 48] rfl (by decide +kernel)
set_option maxRecDepth 20000 in
theorem gX12_joinedAt_X12_many : GoodIn wsX12_joinedAt (wsV RX12 72 RX12 yX12_many wsX12_many) := goodIn_app (goodIn_r _ [2, 3, 4, 5] rfl (by decide +kernel)) ggX12_joinedAt_X12_many
set_option maxRecDepth 20000 in
theorem ggX12_joinedAt_X12_isNoCut : GoodIn wsX12_joinedAt wsX12_isNoCut := goodIn_r _ [11, 12, 13, 5, 14] rfl (by decide +kernel)
set_option maxRecDepth 20000 in
theorem gX12_joinedAt_X12_isNoCut : GoodIn wsX12_joinedAt (wsV RX12 288 RX12 yX12_isNoCut wsX12_isNoCut) := goodIn_app (goodIn_r _ [8, 9, 10, 5] rfl (by decide +kernel)) ggX12_joinedAt_X12_isNoCut
set_option maxRecDepth 20000 in
theorem ggX12_joinedAt_X12_isWrong : GoodIn wsX12_joinedAt wsX12_isWrong := goodIn_r _ [18, 19, 44, 45, 46, 47, 48] rfl (by decide +kernel)
set_option maxRecDepth 20000 in
theorem gX12_joinedAt_X12_isWrong : GoodIn wsX12_joinedAt (wsV RX12 39 RX12 yX12_isWrong wsX12_isWrong) := goodIn_app (goodIn_r _ [15, 16, 17, 5] rfl (by decide +kernel)) ggX12_joinedAt_X12_isWrong
set_option maxRecDepth 20000 in
theorem ggX12_centreDistance_X12_isBetween : GoodIn wsX12_centreDistance wsX12_isBetween := goodIn_r _ [5] rfl (by decide +kernel)
set_option maxRecDepth 20000 in
theorem gX12_centreDistance_X12_isBetween : GoodIn wsX12_centreDistance (va_wsS RX12 29 yX12_isBetween wsX12_isBetween) := goodIn_app (goodIn_r _ [2, 3, 4] rfl (by decide +kernel)) ggX12_centreDistance_X12_isBetween
set_option maxRecDepth 20000 in
theorem ggX12_centreDistance_X12_many : GoodIn wsX12_centreDistance wsX12_many := goodIn_r _ [9, 10, 53, 54, 55, 56, 57] rfl (by decide +kernel)
set_option maxRecDepth 20000 in
theorem gX12_centreDistance_X12_many : GoodIn wsX12_centreDistance (wsV RX12 72 RX12 yX12_many wsX12_many) := goodIn_app (goodIn_r _ [6, 7, 8, 4] rfl (by decide +kernel)) ggX12_centreDistance_X12_many
set_option maxRecDepth 20000 in
theorem ggX12_centreDistance_X12_isWrong : GoodIn wsX12_centreDistance wsX12_isWrong := goodIn_r _ [14, 15, 53, 54, 55, 56, 57] rfl (by decide +kernel)
set_option maxRecDepth 20000 in
theorem gX12_centreDistance_X12_isWrong : GoodIn wsX12_centreDistance (wsV RX12 39 RX12 yX12_isWrong wsX12_isWrong) := goodIn_app (goodIn_r _ [11, 12, 13, 4] rfl (by decide +kernel)) ggX12_centreDistance_X12_isWrong
set_option maxRecDepth 20000 in
theorem ggX12_centre_X12_isBetween : GoodIn wsX12_centre wsX12_isBetween := goodIn_r _ [5] rfl (by decide +kernel)
set_option maxRecDepth 20000 in
theorem gX12_centre_X12_isBetween : GoodIn wsX12_centre (va_wsS RX12 29 yX12_isBetween wsX12_isBetween) := goodIn_app (goodIn_r _ [2, 3, 4] rfl (by decide +kernel)) ggX12_centre_X12_isBetween
set_option maxRecDepth 20000 in
theorem ggX12_centre_X12_many : GoodIn wsX12_centre wsX12_many := goodIn_r _ [9, 10, 57, 58, 59, 60, 61] rfl (by decide +kernel)
set_option maxRecDepth 20000 in
theorem gX12_centre_X12_many : GoodIn wsX12_centre (wsV RX12 72 RX12 yX12_many wsX12_many) := goodIn_app (goodIn_r _ [6, 7, 8, 4] rfl (by decide +kernel)) ggX12_centre_X12_many
set_option maxRecDepth 20000 in
theorem ggX12_centre_X12_isWrong : GoodIn wsX12_centre wsX12_isWrong := goodIn_r _ [14, 15, 57, 58, 59, 60, 61] rfl (by decide +kernel)
set_option maxRecDepth 20000 in
theorem gX12_centre_X12_isWrong : GoodIn wsX12_centre (wsV RX12 39 RX12 yX12_isWrong wsX12_isWrong) := goodIn_app (goodIn_r _ [11, 12, 13, 4] rfl (by decide +kernel)) ggX12_centre_X12_isWrong
set_option maxRecDepth 20000 in
theorem ggX12_countDiscs_X12_isBetween : GoodIn wsX12_countDiscs wsX12_isBetween := goodIn_r _ [6] rfl (by decide +kernel)
set_option maxRecDepth 20000 in
theorem gX12_countDiscs_X12_isBetween : GoodIn wsX12_countDiscs (va_wsS RX12 29 yX12_isBetween wsX12_isBetween) := goodIn_app (goodIn_r _ [3, 4, 5] rfl (by decide +kernel)) ggX12_countDiscs_X12_isBetween
set_option maxRecDepth 20000 in
theorem ggX12_countDiscs_X12_isWrong : GoodIn wsX12_countDiscs wsX12_isWrong := goodIn_r _ [10, 11, 44, 45, 46, 47, 48] rfl (by decide +kernel)
set_option maxRecDepth 20000 in
theorem gX12_countDiscs_X12_isWrong : GoodIn wsX12_countDiscs (wsV RX12 39 RX12 yX12_isWrong wsX12_isWrong) := goodIn_app (goodIn_r _ [7, 8, 9, 5] rfl (by decide +kernel)) ggX12_countDiscs_X12_isWrong
set_option maxRecDepth 20000 in
theorem ggX12_countDiscs_X12_isThere : GoodIn wsX12_countDiscs wsX12_isThere := goodIn_r _ [15, 16, 17, 3, 4, 5, 6, 44, 45, 46, 47, 48] rfl (by decide +kernel)
set_option maxRecDepth 20000 in
theorem gX12_countDiscs_X12_isThere : GoodIn wsX12_countDiscs (wsV RX12 35 RX12 yX12_isThere wsX12_isThere) := goodIn_app (goodIn_r _ [12, 13, 14, 5] rfl (by decide +kernel)) ggX12_countDiscs_X12_isThere
set_option maxRecDepth 20000 in
theorem ggX12_countDiscs_X12_fewest : GoodIn wsX12_countDiscs wsX12_fewest := goodIn_ca (goodIn_r _ [28, 29, 30, 31, 5, 32, 17, 33, 34, 35, 36, 37, 38, 39, 40, 41, 42, 43, 44, 45, 46, 47, 48] rfl (by decide +kernel)) (goodIn_sub (fun _ h => List.mem_cons_of_mem _ (List.mem_append_right _ h)) (by decide +kernel))
set_option maxRecDepth 20000 in
theorem gX12_countDiscs_X12_fewest : GoodIn wsX12_countDiscs (wsV RX12 257 RX12 yX12_fewest wsX12_fewest) := goodIn_app (goodIn_r _ [25, 26, 27, 5] rfl (by decide +kernel)) ggX12_countDiscs_X12_fewest
set_option maxRecDepth 20000 in
theorem ggX12_getHullShare_X12_many : GoodIn wsX12_getHullShare wsX12_many := goodIn_r _ [5, 6, 140, 141, 142, 143, 144] rfl (by decide +kernel)
set_option maxRecDepth 20000 in
theorem gX12_getHullShare_X12_many : GoodIn wsX12_getHullShare (wsV RX12 72 RX12 yX12_many wsX12_many) := goodIn_app (goodIn_r _ [1, 2, 3, 4] rfl (by decide +kernel)) ggX12_getHullShare_X12_many
set_option maxRecDepth 20000 in
theorem ggX12_getHullShare_X12_isWrong : GoodIn wsX12_getHullShare wsX12_isWrong := goodIn_r _ [10, 11, 140, 141, 142, 143, 144] rfl (by decide +kernel)
set_option maxRecDepth 20000 in
theorem gX12_getHullShare_X12_isWrong : GoodIn wsX12_getHullShare (wsV RX12 39 RX12 yX12_isWrong wsX12_isWrong) := goodIn_app (goodIn_r _ [7, 8, 9, 4] rfl (by decide +kernel)) ggX12_getHullShare_X12_isWrong
set_option maxRecDepth 20000 in
theorem ggX12_getMeanNeighbours_X12_neighbours : GoodIn wsX12_getMeanNeighbours wsX12_neighbours := goodIn_ca (goodIn_r _ [5, 6, 7, 8, 4, 9, 10, 11, 12, 13, 14, 15, 16, 17, 18, 19, 20, 21, 22, 23, 24, 25, 26, 27, 28, 29, 30, 31, 32, 33, 34, 35, 36, 37, 38, 39, 40, 41, 51, 52, 53, 54, 55] rfl (by decide +kernel)) (goodIn_sub (fun _ h => List.mem_cons_of_mem _ (List.mem_append_right _ h)) (by decide +kernel))
set_option maxRecDepth 20000 in
theorem gX12_getMeanNeighbours_X12_neighbours : GoodIn wsX12_getMeanNeighbours (wsV RX12 157 RX12 yX12_neighbours wsX12_neighbours) := goodIn_app (goodIn_r _ [1, 2, 3, 4] rfl (by decide +kernel)) ggX12_getMeanNeighbours_X12_neighbours
set_option maxRecDepth 20000 in
theorem ggX12_getMeanNeighbours_X12_many : GoodIn wsX12_getMeanNeighbours wsX12_many := goodIn_r _ [45, 15, 51, 52, 53, 54, 55] rfl (by decide +kernel)
set_option maxRecDepth 20000 in
theorem gX12_getMeanNeighbours_X12_many : GoodIn wsX12_getMeanNeighbours (wsV RX12 72 RX12 yX12_many wsX12_many) := goodIn_app (goodIn_r _ [42, 43, 44, 4] rfl (by decide +kernel)) ggX12_getMeanNeighbours_X12_many
set_option maxRecDepth 20000 in
theorem ggX12_getMeanNeighbours_X12_isWrong : GoodIn wsX12_getMeanNeighbours wsX12_isWrong := goodIn_r _ [49, 50, 51, 52, 53, 54, 55] rfl (by decide +kernel)
set_option maxRecDepth 20000 in
theorem gX12_getMeanNeighbours_X12_isWrong : GoodIn wsX12_getMeanNeighbours (wsV RX12 39 RX12 yX12_isWrong wsX12_isWrong) := goodIn_app (goodIn_r _ [46, 47, 48, 4] rfl (by decide +kernel)) ggX12_getMeanNeighbours_X12_isWrong
set_option maxRecDepth 20000 in
theorem ggJxc12de_init_da8c8_Jxa1e45_init_da8c8 : GoodIn wsJxc12de_init_da8c8 wsJxa1e45_init_da8c8 := goodIn_r _ [5, 6, 7, 8] rfl (by decide +kernel)
set_option maxRecDepth 20000 in
theorem gJxc12de_init_da8c8_Jxa1e45_init_da8c8 : GoodIn wsJxc12de_init_da8c8 (wsJxa1e45_init_da8c8) := ggJxc12de_init_da8c8_Jxa1e45_init_da8c8

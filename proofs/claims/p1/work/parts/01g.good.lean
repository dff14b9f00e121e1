set_option maxRecDepth 20000 in
theorem ggX1_init_X8_init : GoodIn wsX1_init wsX8_init := goodIn_r _ [12, 13, 2, 3, 9, 14, 15, 16] rfl (by decide +kernel)
set_option maxRecDepth 20000 in
theorem gX1_init_X8_init_n11 : GoodIn wsX1_init (wsX8_init) := ggX1_init_X8_init
set_option maxRecDepth 20000 in
theorem ggX4_init_X8_init : GoodIn wsX4_init wsX8_init := goodIn_r _ [12, 13, 2, 3, 8, 14, 15, 16] rfl (by decide +kernel)
set_option maxRecDepth 20000 in
theorem gX4_init_X8_init_n11 : GoodIn wsX4_init (wsX8_init) := ggX4_init_X8_init
set_option maxRecDepth 20000 in
theorem ggX5_put_X5_setPlace : GoodIn wsX5_put wsX5_setPlace := goodIn_ca (goodIn_r _ [9, 10, 11, 12, 13, 14, 15, 16, 17, 18, 19] rfl (by decide +kernel)) (goodIn_sub (fun _ h => List.mem_cons_of_mem _ (List.mem_append_right _ h)) (by decide +kernel))
set_option maxRecDepth 20000 in
theorem gX5_put_X5_setPlace : GoodIn wsX5_put (wsV RX5 45 RX5 yX5_setPlace wsX5_setPlace) := goodIn_app (goodIn_r _ [5, 6, 7, 8] rfl (by decide +kernel)) ggX5_put_X5_setPlace
set_option maxRecDepth 20000 in
theorem ggX5_writeTo_X5_has : GoodIn wsX5_writeTo wsX5_has := goodIn_r _ [10, 11, 12, 13, 14, 15, 16, 17, 18, 19, 20, 21] rfl (by decide +kernel)
set_option maxRecDepth 20000 in
theorem gX5_writeTo_X5_has : GoodIn wsX5_writeTo (wsV RX5 41 RX5 yX5_has wsX5_has) := goodIn_app (goodIn_r _ [6, 7, 8, 9] rfl (by decide +kernel)) ggX5_writeTo_X5_has
set_option maxRecDepth 20000 in
theorem ggX6_keep_X5_writeTo : GoodIn wsX6_keep wsX5_writeTo := goodIn_ca (goodIn_r _ [12, 13, 14, 15, 16, 17, 18, 19, 20, 11, 21, 22, 23, 24, 25, 29, 30, 31, 32, 33, 34, 35] rfl (by decide +kernel)) (goodIn_sub (fun _ h => List.mem_cons_of_mem _ (List.mem_append_right _ h)) (by decide +kernel))
set_option maxRecDepth 20000 in
theorem gX6_keep_X5_writeTo : GoodIn wsX6_keep (wsV RX6 20 RX5 yX5_writeTo wsX5_writeTo) := goodIn_app (goodIn_r _ [8, 9, 10, 11] rfl (by decide +kernel)) ggX6_keep_X5_writeTo
set_option maxRecDepth 20000 in
theorem ggX9_init_X8_init : GoodIn wsX9_init wsX8_init := goodIn_r _ [9, 10, 2, 3, 11, 12, 13, 14] rfl (by decide +kernel)
set_option maxRecDepth 20000 in
theorem gX9_init_X8_init_n11 : GoodIn wsX9_init (wsX8_init) := ggX9_init_X8_init
set_option maxRecDepth 20000 in
theorem ggX11_init_X5_init : GoodIn wsX11_init wsX5_init := goodIn_r _ [45, 46, 2, 3, 47, 48, 49, 50, 51, 52, 107, 108, 109, 110, 111, 112, 113] rfl (by decide +kernel)
set_option maxRecDepth 20000 in
theorem gX11_init_X5_init_n11 : GoodIn wsX11_init (wsX5_init) := ggX11_init_X5_init
set_option maxRecDepth 20000 in
theorem ggX11_init_X6_init : GoodIn wsX11_init wsX6_init := goodIn_r _ [54, 55, 2, 3, 56, 47, 57, 124, 125, 126] rfl (by decide +kernel)
set_option maxRecDepth 20000 in
theorem gX11_init_X6_init_n18 : GoodIn wsX11_init (wsX6_init) := ggX11_init_X6_init
set_option maxRecDepth 20000 in
theorem ggX11_init_X3_init : GoodIn wsX11_init wsX3_init := goodIn_r _ [59, 60, 2, 3, 47, 61, 62, 63, 127, 128, 129, 130] rfl (by decide +kernel)
set_option maxRecDepth 20000 in
theorem gX11_init_X3_init_n25 : GoodIn wsX11_init (wsX3_init) := ggX11_init_X3_init
set_option maxRecDepth 20000 in
theorem ggX11_init_X4_init : GoodIn wsX11_init wsX4_init := goodIn_r _ [65, 66, 2, 3, 67, 68, 69, 70, 47, 71, 72, 73, 74, 75, 76, 151, 152, 131, 132, 133, 134] rfl (by decide +kernel)
set_option maxRecDepth 20000 in
theorem gX11_init_X4_init_n32 : GoodIn wsX11_init (wsX4_init) := ggX11_init_X4_init
set_option maxRecDepth 20000 in
theorem ggX11_init_X7_init : GoodIn wsX11_init wsX7_init := goodIn_r _ [78, 79, 2, 3, 47, 80, 135, 136] rfl (by decide +kernel)
set_option maxRecDepth 20000 in
theorem gX11_init_X7_init_n39 : GoodIn wsX11_init (wsX7_init) := ggX11_init_X7_init
set_option maxRecDepth 20000 in
theorem ggX11_init_X9_init : GoodIn wsX11_init wsX9_init := goodIn_r _ [82, 83, 2, 3, 84, 68, 69, 85, 73, 74, 75, 47, 76, 151, 152, 137, 138, 139] rfl (by decide +kernel)
set_option maxRecDepth 20000 in
theorem gX11_init_X9_init_n46 : GoodIn wsX11_init (wsX9_init) := ggX11_init_X9_init
set_option maxRecDepth 20000 in
theorem ggX11_init_X10_init : GoodIn wsX11_init wsX10_init := goodIn_r _ [87, 88, 2, 3, 47, 89, 90, 91, 92, 140, 141, 142, 143, 144] rfl (by decide +kernel)
set_option maxRecDepth 20000 in
theorem gX11_init_X10_init_n53 : GoodIn wsX11_init (wsX10_init) := ggX11_init_X10_init
set_option maxRecDepth 20000 in
theorem ggX11_init_X2_init : GoodIn wsX11_init wsX2_init := goodIn_r _ [94, 95, 2, 3, 47, 96, 145] rfl (by decide +kernel)
set_option maxRecDepth 20000 in
theorem gX11_init_X2_init_n60 : GoodIn wsX11_init (wsX2_init) := ggX11_init_X2_init
set_option maxRecDepth 20000 in
theorem ggX11_init_X1_init : GoodIn wsX11_init wsX1_init := goodIn_r _ [98, 99, 2, 3, 100, 68, 69, 101, 102, 47, 103, 73, 74, 75, 76, 151, 152, 146, 147, 148] rfl (by decide +kernel)
set_option maxRecDepth 20000 in
theorem gX11_init_X1_init_n67 : GoodIn wsX11_init (wsX1_init) := ggX11_init_X1_init
set_option maxRecDepth 20000 in
theorem ggX11_init_X0_init : GoodIn wsX11_init wsX0_init := goodIn_r _ [105, 106, 2, 3] rfl (by decide +kernel)
set_option maxRecDepth 20000 in
theorem gX11_init_X0_init_n74 : GoodIn wsX11_init (wsX0_init) := ggX11_init_X0_init
set_option maxRecDepth 20000 in
theorem ggX11_addPoint_X11_needBoth : GoodIn wsX11_addPoint wsX11_needBoth := goodIn_ca (goodIn_r _ [10, 11, 12, 9, 13, 14, 15] rfl (by decide +kernel)) (goodIn_sub (fun _ h => List.mem_cons_of_mem _ (List.mem_append_left _ (List.mem_append_right _ h))) (by decide +kernel))
set_option maxRecDepth 20000 in
theorem gX11_addPoint_X11_needBoth : GoodIn wsX11_addPoint (va_wsS RX11 79 yX11_needBoth wsX11_needBoth) := goodIn_app (goodIn_r _ [7, 8, 9] rfl (by decide +kernel)) ggX11_addPoint_X11_needBoth
set_option maxRecDepth 20000 in
theorem ggX11_addPoint_X5_numberAt : GoodIn wsX11_addPoint wsX5_numberAt := goodIn_ca (goodIn_r _ [20, 21, 22, 23, 24, 25, 19, 26, 27, 28, 9, 29, 72, 73, 74, 75, 76, 77, 78] rfl (by decide +kernel)) (goodIn_sub (fun _ h => List.mem_cons_of_mem _ (List.mem_append_right _ h)) (by decide +kernel))
set_option maxRecDepth 20000 in
theorem gX11_addPoint_X5_numberAt : GoodIn wsX11_addPoint (wsV RX11 83 RX5 yX5_numberAt wsX5_numberAt) := goodIn_app (goodIn_r _ [16, 17, 18, 19] rfl (by decide +kernel)) ggX11_addPoint_X5_numberAt
set_option maxRecDepth 20000 in
theorem ggX11_addPoint_X5_lowestFree : GoodIn wsX11_addPoint wsX5_lowestFree := goodIn_r _ [33, 23, 24, 25, 19, 26, 27, 28, 9, 29, 72, 73, 74, 75, 76, 77, 78] rfl (by decide +kernel)
set_option maxRecDepth 20000 in
theorem gX11_addPoint_X5_lowestFree : GoodIn wsX11_addPoint (wsV RX11 94 RX5 yX5_lowestFree wsX5_lowestFree) := goodIn_app (goodIn_r _ [30, 31, 32, 19] rfl (by decide +kernel)) ggX11_addPoint_X5_lowestFree
set_option maxRecDepth 20000 in
theorem ggX11_addPoint_X6_keep : GoodIn wsX11_addPoint wsX6_keep := goodIn_ca (goodIn_r _ [38, 39, 40, 41, 42, 43, 44, 45, 46, 47, 48, 19, 49, 21, 22, 50, 51, 52, 23, 24, 25, 26, 27, 28, 9, 29, 79, 80, 81, 72, 73, 74, 75, 76, 77, 78] rfl (by decide +kernel)) (goodIn_sub (fun _ h => List.mem_cons_of_mem _ (List.mem_append_right _ h)) (by decide +kernel))
set_option maxRecDepth 20000 in
theorem gX11_addPoint_X6_keep : GoodIn wsX11_addPoint (wsV RX11 103 RX6 yX6_keep wsX6_keep) := goodIn_app (goodIn_r _ [34, 35, 36, 37] rfl (by decide +kernel)) ggX11_addPoint_X6_keep
set_option maxRecDepth 20000 in
theorem ggX11_addPoint_X5_put : GoodIn wsX11_addPoint wsX5_put := goodIn_ca (goodIn_r _ [56, 27, 50, 51, 52, 57, 58, 59, 19, 60, 21, 22, 61, 72, 73, 74, 75, 76, 77, 78] rfl (by decide +kernel)) (goodIn_sub (fun _ h => List.mem_cons_of_mem _ (List.mem_append_right _ h)) (by decide +kernel))
set_option maxRecDepth 20000 in
theorem gX11_addPoint_X5_put : GoodIn wsX11_addPoint (wsV RX11 107 RX5 yX5_put wsX5_put) := goodIn_app (goodIn_r _ [53, 54, 55, 19] rfl (by decide +kernel)) ggX11_addPoint_X5_put
set_option maxRecDepth 20000 in
theorem ggX12_init_Jx4a65c_init_da8c8 : GoodIn wsX12_init wsJx4a65c_init_da8c8 := goodIn_r _ [13, 14, 15, 16, 17, 18, 19, 20, 21, 22, 23, 24, 25, 2, 3, 31, 32, 33] rfl (by decide +kernel)
set_option maxRecDepth 20000 in
theorem gX12_init_Jx4a65c_init_da8c8 : GoodIn wsX12_init (wsJx4a65c_init_da8c8) := ggX12_init_Jx4a65c_init_da8c8
set_option maxRecDepth 20000 in
theorem ggX12_keep_X12_copy : GoodIn wsX12_keep wsX12_copy := goodIn_r _ [6, 7, 8, 9, 10, 11, 12] rfl (by decide +kernel)
set_option maxRecDepth 20000 in
theorem gX12_keep_X12_copy : GoodIn wsX12_keep (va_wsS RX12 46 yX12_copy wsX12_copy) := goodIn_app (goodIn_r _ [3, 4, 5] rfl (by decide +kernel)) ggX12_keep_X12_copy
set_option maxRecDepth 20000 in
theorem ggX12_keep_Jx4a65c_add_9ea2d : GoodIn wsX12_keep wsJx4a65c_add_9ea2d := goodIn_r _ [17, 18, 19, 20, 21, 22, 23, 24, 16, 25, 26, 27, 28, 29, 30, 31, 32, 33, 34, 35, 36, 37, 38, 39, 40, 41, 42, 43, 44, 45, 46, 47, 48, 49, 50, 51, 52, 53, 54, 55, 56, 57, 58, 59, 60, 61, 62, 63, 64, 65, 66, 67, 68, 95, 96, 97] rfl (by decide +kernel)
set_option maxRecDepth 20000 in
theorem gX12_keep_Jx4a65c_add_9ea2d_f50Jx4a65c : GoodIn wsX12_keep (va_wsF RX12 50 RJx4a65c ⟨"java/util/List", "add", "(Ljava/lang/Object;)Z"⟩ yJx4a65c_add_9ea2d wsJx4a65c_add_9ea2d) := goodIn_app (goodIn_of _ (by decide +kernel)) ggX12_keep_Jx4a65c_add_9ea2d
set_option maxRecDepth 20000 in
theorem ggX12_keep_Jx4a65c_size_8abf5 : GoodIn wsX12_keep wsJx4a65c_size_8abf5 := goodIn_r _ [72, 21, 95, 96, 97] rfl (by decide +kernel)
set_option maxRecDepth 20000 in
theorem gX12_keep_Jx4a65c_size_8abf5_f56Jx4a65c : GoodIn wsX12_keep (va_wsF RX12 56 RJx4a65c ⟨"java/util/List", "size", "()I"⟩ yJx4a65c_size_8abf5 wsJx4a65c_size_8abf5) := goodIn_app (goodIn_of _ (by decide +kernel)) ggX12_keep_Jx4a65c_size_8abf5
set_option maxRecDepth 20000 in
theorem ggX12_addPoint_X12_isPlace : GoodIn wsX12_addPoint wsX12_isPlace := goodIn_r _ [6, 7, 8, 5, 9] rfl (by decide +kernel)
set_option maxRecDepth 20000 in
theorem gX12_addPoint_X12_isPlace : GoodIn wsX12_addPoint (va_wsS RX12 64 yX12_isPlace wsX12_isPlace) := goodIn_app (goodIn_r _ [3, 4, 5] rfl (by decide +kernel)) ggX12_addPoint_X12_isPlace
set_option maxRecDepth 20000 in
theorem ggX12_addPoint_X12_at : GoodIn wsX12_addPoint wsX12_at := goodIn_ca (goodIn_r _ [13, 1, 114, 115, 116, 117, 118] rfl (by decide +kernel)) (goodIn_sub (fun _ h => List.mem_cons_of_mem _ (List.mem_append_right _ h)) (by decide +kernel))
set_option maxRecDepth 20000 in
theorem gX12_addPoint_X12_at : GoodIn wsX12_addPoint (wsV RX12 68 RX12 yX12_at wsX12_at) := goodIn_app (goodIn_r _ [10, 11, 12, 5] rfl (by decide +kernel)) ggX12_addPoint_X12_at
set_option maxRecDepth 20000 in
theorem ggX12_addPoint_X12_many : GoodIn wsX12_addPoint wsX12_many := goodIn_r _ [17, 1, 114, 115, 116, 117, 118] rfl (by decide +kernel)
set_option maxRecDepth 20000 in
theorem gX12_addPoint_X12_many : GoodIn wsX12_addPoint (wsV RX12 72 RX12 yX12_many wsX12_many) := goodIn_app (goodIn_r _ [14, 15, 16, 5] rfl (by decide +kernel)) ggX12_addPoint_X12_many
set_option maxRecDepth 20000 in
theorem ggX12_addPoint_X12_isWrong : GoodIn wsX12_addPoint wsX12_isWrong := goodIn_r _ [21, 22, 114, 115, 116, 117, 118] rfl (by decide +kernel)
set_option maxRecDepth 20000 in
theorem gX12_addPoint_X12_isWrong : GoodIn wsX12_addPoint (wsV RX12 39 RX12 yX12_isWrong wsX12_isWrong) := goodIn_app (goodIn_r _ [18, 19, 20, 5] rfl (by decide +kernel)) ggX12_addPoint_X12_isWrong
set_option maxRecDepth 20000 in
theorem ggX12_addPoint_X12_keep : GoodIn wsX12_addPoint wsX12_keep := goodIn_r _ [26, 27, 1, 28, 29, 5, 30, 31, 32, 33, 34, 35, 36, 37, 38, 39, 40, 41, 42, 43, 44, 45, 46, 47, 48, 49, 50, 51, 52, 53, 54, 55, 56, 57, 58, 59, 60, 61, 62, 63, 64, 65, 66, 67, 68, 69, 70, 71, 72, 73, 74, 75, 76, 77, 78, 79, 80, 81, 82, 83, 84, 85, 86, 87, 88, 89, 90, 91, 92, 93, 94, 95, 96, 97, 98, 99, 100, 101, 102, 103, 104, 105, 106, 107, 108, 109, 110, 111, 112, 113, 114, 115, 116, 117, 118, 119, 120, 121] rfl (by decide +kernel)
set_option maxRecDepth 20000 in
theorem gX12_addPoint_X12_keep : GoodIn wsX12_addPoint (wsV RX12 75 RX12 yX12_keep wsX12_keep) := goodIn_app (goodIn_r _ [23, 24, 25, 5] rfl (by decide +kernel)) ggX12_addPoint_X12_keep
set_option maxRecDepth 20000 in
theorem ggX12_undo_Jx4a65c_isEmpty_aae02 : GoodIn wsX12_undo wsJx4a65c_isEmpty_aae02 := goodIn_r _ [8, 9, 48, 49, 50] rfl (by decide +kernel)
set_option maxRecDepth 20000 in
theorem gX12_undo_Jx4a65c_isEmpty_aae02_f87Jx4a65c : GoodIn wsX12_undo (va_wsF RX12 87 RJx4a65c ⟨"java/util/List", "isEmpty", "()Z"⟩ yJx4a65c_isEmpty_aae02 wsJx4a65c_isEmpty_aae02) := goodIn_app (goodIn_of _ (by decide +kernel)) ggX12_undo_Jx4a65c_isEmpty_aae02
set_option maxRecDepth 20000 in
theorem ggX12_undo_X12_isWrong : GoodIn wsX12_undo wsX12_isWrong := goodIn_r _ [14, 15, 43, 44, 45, 46, 47] rfl (by decide +kernel)
set_option maxRecDepth 20000 in
theorem gX12_undo_X12_isWrong : GoodIn wsX12_undo (wsV RX12 39 RX12 yX12_isWrong wsX12_isWrong) := goodIn_app (goodIn_r _ [10, 11, 12, 13] rfl (by decide +kernel)) ggX12_undo_X12_isWrong
set_option maxRecDepth 20000 in
theorem ggX12_tree_X12_many : GoodIn wsX12_tree wsX12_many := goodIn_r _ [9, 4, 17, 18, 19, 20, 21] rfl (by decide +kernel)
set_option maxRecDepth 20000 in
theorem gX12_tree_X12_many : GoodIn wsX12_tree (wsV RX12 72 RX12 yX12_many wsX12_many) := goodIn_app (goodIn_r _ [5, 6, 7, 8] rfl (by decide +kernel)) ggX12_tree_X12_many
set_option maxRecDepth 20000 in
theorem ggX12_countJoined_X12_isGraph : GoodIn wsX12_countJoined wsX12_isGraph := goodIn_r _ [4] rfl (by decide +kernel)
set_option maxRecDepth 20000 in
theorem gX12_countJoined_X12_isGraph : GoodIn wsX12_countJoined (va_wsS RX12 172 yX12_isGraph wsX12_isGraph) := goodIn_app (goodIn_r _ [1, 2, 3] rfl (by decide +kernel)) ggX12_countJoined_X12_isGraph
set_option maxRecDepth 20000 in
theorem ggX12_countJoined_X12_isWrong : GoodIn wsX12_countJoined wsX12_isWrong := goodIn_r _ [8, 9, 49, 50, 51, 52, 53] rfl (by decide +kernel)
set_option maxRecDepth 20000 in
theorem gX12_countJoined_X12_isWrong : GoodIn wsX12_countJoined (wsV RX12 39 RX12 yX12_isWrong wsX12_isWrong) := goodIn_app (goodIn_r _ [5, 6, 7, 3] rfl (by decide +kernel)) ggX12_countJoined_X12_isWrong
set_option maxRecDepth 20000 in
theorem ggX12_countJoined_X12_tree : GoodIn wsX12_countJoined wsX12_tree := goodIn_ca (goodIn_r _ [13, 14, 15, 16, 17, 18, 19, 20, 3, 21, 22, 23, 24, 25, 26, 27, 28, 49, 50, 51, 52, 53] rfl (by decide +kernel)) (goodIn_sub (fun _ h => List.mem_cons_of_mem _ (List.mem_append_right _ h)) (by decide +kernel))
set_option maxRecDepth 20000 in
theorem gX12_countJoined_X12_tree : GoodIn wsX12_countJoined (wsV RX12 175 RX12 yX12_tree wsX12_tree) := goodIn_app (goodIn_r _ [10, 11, 12, 3] rfl (by decide +kernel)) ggX12_countJoined_X12_tree
set_option maxRecDepth 20000 in
theorem ggX12_countJoined_X12_isThere : GoodIn wsX12_countJoined wsX12_isThere := goodIn_r _ [32, 33, 17, 34, 35, 3, 36, 49, 50, 51, 52, 53] rfl (by decide +kernel)
set_option maxRecDepth 20000 in
theorem gX12_countJoined_X12_isThere : GoodIn wsX12_countJoined (wsV RX12 35 RX12 yX12_isThere wsX12_isThere) := goodIn_app (goodIn_r _ [29, 30, 31, 3] rfl (by decide +kernel)) ggX12_countJoined_X12_isThere
set_option maxRecDepth 20000 in
theorem ggX12_treeSum_X12_tree : GoodIn wsX12_treeSum wsX12_tree := goodIn_ca (goodIn_r _ [6, 7, 8, 9, 10, 11, 12, 13, 5, 14, 15, 16, 17, 18, 19, 20, 21, 22, 23, 24, 25, 26] rfl (by decide +kernel)) (goodIn_sub (fun _ h => List.mem_cons_of_mem _ (List.mem_append_right _ h)) (by decide +kernel))
set_option maxRecDepth 20000 in
theorem gX12_treeSum_X12_tree : GoodIn wsX12_treeSum (wsV RX12 175 RX12 yX12_tree wsX12_tree) := goodIn_app (goodIn_r _ [2, 3, 4, 5] rfl (by decide +kernel)) ggX12_treeSum_X12_tree
set_option maxRecDepth 20000 in
theorem ggX12_edges_X12_isEdge : GoodIn wsX12_edges wsX12_isEdge := goodIn_ca (goodIn_r _ [7, 8, 9, 10, 6, 11, 12, 13, 14, 15, 16, 17, 18, 19, 20, 21, 22, 23, 24, 25, 26, 27, 28, 29, 30, 31, 32, 33, 34, 35, 36, 37, 38, 39, 40, 41, 42, 43, 44] rfl (by decide +kernel)) (goodIn_sub (fun _ h => List.mem_cons_of_mem _ (List.mem_append_right _ h)) (by decide +kernel))
set_option maxRecDepth 20000 in
theorem gX12_edges_X12_isEdge : GoodIn wsX12_edges (wsV RX12 154 RX12 yX12_isEdge wsX12_isEdge) := goodIn_app (goodIn_r _ [3, 4, 5, 6] rfl (by decide +kernel)) ggX12_edges_X12_isEdge
set_option maxRecDepth 20000 in
theorem ggX12_hull_Jx4a65c_init_da8c8 : GoodIn wsX12_hull wsJx4a65c_init_da8c8 := goodIn_r _ [6, 7, 8, 9, 10, 11, 12, 13, 14, 15, 16, 17, 18, 19, 20, 119, 120, 121] rfl (by decide +kernel)
set_option maxRecDepth 20000 in
theorem gX12_hull_Jx4a65c_init_da8c8 : GoodIn wsX12_hull (wsJx4a65c_init_da8c8) := ggX12_hull_Jx4a65c_init_da8c8
set_option maxRecDepth 20000 in
theorem ggX12_countHull_X12_all : GoodIn wsX12_countHull wsX12_all := goodIn_r _ [6, 7, 132, 133, 134, 135, 136] rfl (by decide +kernel)
set_option maxRecDepth 20000 in
theorem gX12_countHull_X12_all : GoodIn wsX12_countHull (wsV RX12 195 RX12 yX12_all wsX12_all) := goodIn_app (goodIn_r _ [2, 3, 4, 5] rfl (by decide +kernel)) ggX12_countHull_X12_all
set_option maxRecDepth 20000 in
theorem ggX12_countHull_X12_hull : GoodIn wsX12_countHull wsX12_hull := goodIn_ca (goodIn_r _ [11, 12, 13, 14, 15, 16, 17, 18, 19, 20, 21, 22, 23, 24, 25, 26, 27, 28, 29, 30, 31, 32, 33, 34, 5, 35, 7, 36, 37, 38, 39, 40, 41, 42, 43, 44, 45, 46, 47, 48, 49, 50, 51, 52, 53, 54, 55, 56, 57, 58, 59, 60, 61, 62, 63, 64, 65, 66, 67, 68, 69, 70, 71, 72, 73, 74, 75, 76, 77, 78, 79, 80, 81, 82, 83, 84, 85, 86, 87, 88, 89, 90, 91, 92, 93, 94, 95, 96, 97, 98, 99, 100, 101, 102, 103, 104, 105, 106, 107, 108, 109, 110, 111, 112, 113, 114, 115, 116, 117, 118, 119, 120, 121, 122, 123, 124, 125, 126, 127, 137, 138, 139, 132, 133, 134, 135, 136, 140] rfl (by decide +kernel)) (goodIn_sub (fun _ h => List.mem_cons_of_mem _ (List.mem_append_right _ h)) (by decide +kernel))
set_option maxRecDepth 20000 in
theorem gX12_countHull_X12_hull : GoodIn wsX12_countHull (wsV RX12 198 RX12 yX12_hull wsX12_hull) := goodIn_app (goodIn_r _ [8, 9, 10, 5] rfl (by decide +kernel)) ggX12_countHull_X12_hull
set_option maxRecDepth 20000 in
theorem ggX12_countHull_Jx4a65c_size_8abf5 : GoodIn wsX12_countHull wsJx4a65c_size_8abf5 := goodIn_r _ [131, 40, 137, 138, 139] rfl (by decide +kernel)
set_option maxRecDepth 20000 in
theorem gX12_countHull_Jx4a65c_size_8abf5_f56Jx4a65c : GoodIn wsX12_countHull (va_wsF RX12 56 RJx4a65c ⟨"java/util/List", "size", "()I"⟩ yJx4a65c_size_8abf5 wsJx4a65c_size_8abf5) := goodIn_app (goodIn_of _ (by decide +kernel)) ggX12_countHull_Jx4a65c_size_8abf5
set_option maxRecDepth 20000 in
theorem ggX12_hullAt_X12_all : GoodIn wsX12_hullAt wsX12_all := goodIn_r _ [6, 7, 160, 161, 162, 163, 164] rfl (by decide +kernel)
set_option maxRecDepth 20000 in
theorem gX12_hullAt_X12_all : GoodIn wsX12_hullAt (wsV RX12 195 RX12 yX12_all wsX12_all) := goodIn_app (goodIn_r _ [2, 3, 4, 5] rfl (by decide +kernel)) ggX12_hullAt_X12_all
set_option maxRecDepth 20000 in
theorem ggX12_hullAt_X12_hull : GoodIn wsX12_hullAt wsX12_hull := goodIn_ca (goodIn_r _ [11, 12, 13, 14, 15, 16, 17, 18, 19, 20, 21, 22, 23, 24, 25, 26, 27, 28, 29, 30, 31, 32, 33, 34, 5, 35, 7, 36, 37, 38, 39, 40, 41, 42, 43, 44, 45, 46, 47, 48, 49, 50, 51, 52, 53, 54, 55, 56, 57, 58, 59, 60, 61, 62, 63, 64, 65, 66, 67, 68, 69, 70, 71, 72, 73, 74, 75, 76, 77, 78, 79, 80, 81, 82, 83, 84, 85, 86, 87, 88, 89, 90, 91, 92, 93, 94, 95, 96, 97, 98, 99, 100, 101, 102, 103, 104, 105, 106, 107, 108, 109, 110, 111, 112, 113, 114, 115, 116, 117, 118, 119, 120, 121, 122, 123, 124, 125, 126, 127, 165, 166, 167, 160, 161, 162, 163, 164, 168] rfl (by decide +kernel)) (goodIn_sub (fun _ h => List.mem_cons_of_mem _ (List.mem_append_right _ h)) (by decide +kernel))
set_option maxRecDepth 20000 in
theorem gX12_hullAt_X12_hull : GoodIn wsX12_hullAt (wsV RX12 198 RX12 yX12_hull wsX12_hull) := goodIn_app (goodIn_r _ [8, 9, 10, 5] rfl (by decide +kernel)) ggX12_hullAt_X12_hull
set_option maxRecDepth 20000 in
theorem ggX12_hullAt_Jx4a65c_size_8abf5 : GoodIn wsX12_hullAt wsJx4a65c_size_8abf5 := goodIn_r _ [131, 40, 165, 166, 167] rfl (by decide +kernel)
set_option maxRecDepth 20000 in
theorem gX12_hullAt_Jx4a65c_size_8abf5_f56Jx4a65c : GoodIn wsX12_hullAt (va_wsF RX12 56 RJx4a65c ⟨"java/util/List", "size", "()I"⟩ yJx4a65c_size_8abf5 wsJx4a65c_size_8abf5) := goodIn_app (goodIn_of _ (by decide +kernel)) ggX12_hullAt_Jx4a65c_size_8abf5
set_option maxRecDepth 20000 in
theorem ggX12_hullAt_X12_isBetween : GoodIn wsX12_hullAt wsX12_isBetween := goodIn_r _ [134] rfl (by decide +kernel)
set_option maxRecDepth 20000 in
theorem gX12_hullAt_X12_isBetween : GoodIn wsX12_hullAt (va_wsS RX12 29 yX12_isBetween wsX12_isBetween) := goodIn_app (goodIn_r _ [132, 133, 5] rfl (by decide +kernel)) ggX12_hullAt_X12_isBetween
set_option maxRecDepth 20000 in
theorem ggX12_hullAt_X12_isWrong : GoodIn wsX12_hullAt wsX12_isWrong := goodIn_r _ [138, 139, 160, 161, 162, 163, 164] rfl (by decide +kernel)
set_option maxRecDepth 20000 in
theorem gX12_hullAt_X12_isWrong : GoodIn wsX12_hullAt (wsV RX12 39 RX12 yX12_isWrong wsX12_isWrong) := goodIn_app (goodIn_r _ [135, 136, 137, 5] rfl (by decide +kernel)) ggX12_hullAt_X12_isWrong
set_option maxRecDepth 20000 in
theorem ggX12_hullArea_X12_all : GoodIn wsX12_hullArea wsX12_all := goodIn_r _ [8, 2, 153, 154, 155, 156, 157] rfl (by decide +kernel)
set_option maxRecDepth 20000 in
theorem gX12_hullArea_X12_all : GoodIn wsX12_hullArea (wsV RX12 195 RX12 yX12_all wsX12_all) := goodIn_app (goodIn_r _ [4, 5, 6, 7] rfl (by decide +kernel)) ggX12_hullArea_X12_all
set_option maxRecDepth 20000 in
theorem ggX12_hullArea_X12_hull : GoodIn wsX12_hullArea wsX12_hull := goodIn_ca (goodIn_r _ [12, 13, 14, 15, 16, 17, 18, 19, 20, 21, 22, 23, 24, 25, 26, 27, 28, 29, 30, 31, 32, 33, 34, 35, 7, 36, 2, 37, 38, 39, 40, 41, 42, 43, 44, 45, 46, 47, 48, 49, 50, 51, 52, 53, 54, 55, 56, 57, 58, 59, 60, 61, 62, 63, 64, 65, 66, 67, 68, 69, 70, 71, 72, 73, 74, 75, 76, 77, 78, 79, 80, 81, 82, 83, 84, 85, 86, 87, 88, 89, 90, 91, 92, 93, 94, 95, 96, 97, 98, 99, 100, 101, 102, 103, 104, 105, 106, 107, 108, 109, 110, 111, 112, 113, 114, 115, 116, 117, 118, 119, 120, 121, 122, 123, 124, 125, 126, 127, 128, 158, 159, 160, 153, 154, 155, 156, 157, 161] rfl (by decide +kernel)) (goodIn_sub (fun _ h => List.mem_cons_of_mem _ (List.mem_append_right _ h)) (by decide +kernel))
set_option maxRecDepth 20000 in
theorem gX12_hullArea_X12_hull : GoodIn wsX12_hullArea (wsV RX12 198 RX12 yX12_hull wsX12_hull) := goodIn_app (goodIn_r _ [9, 10, 11, 7] rfl (by decide +kernel)) ggX12_hullArea_X12_hull
set_option maxRecDepth 20000 in
theorem ggX12_hullArea_Jx4a65c_size_8abf5 : GoodIn wsX12_hullArea wsJx4a65c_size_8abf5 := goodIn_r _ [132, 41, 158, 159, 160] rfl (by decide +kernel)
set_option maxRecDepth 20000 in
theorem gX12_hullArea_Jx4a65c_size_8abf5_f56Jx4a65c : GoodIn wsX12_hullArea (va_wsF RX12 56 RJx4a65c ⟨"java/util/List", "size", "()I"⟩ yJx4a65c_size_8abf5 wsJx4a65c_size_8abf5) := goodIn_app (goodIn_of _ (by decide +kernel)) ggX12_hullArea_Jx4a65c_size_8abf5
set_option maxRecDepth 20000 in
theorem ggX12_joined_X12_edges : GoodIn wsX12_joined wsX12_edges := goodIn_ca (goodIn_r _ [6, 7, 8, 9, 10, 11, 5, 12, 13, 14, 15, 16, 17, 18, 19, 20, 21, 22, 23, 24, 25, 26, 27, 28, 29, 30, 31, 32, 33, 34, 35, 36, 37, 38, 39, 40, 41, 42, 43, 44, 52, 53, 54, 55, 56] rfl (by decide +kernel)) (goodIn_sub (fun _ h => List.mem_cons_of_mem _ (List.mem_append_right _ h)) (by decide +kernel))
set_option maxRecDepth 20000 in
theorem gX12_joined_X12_edges : GoodIn wsX12_joined (wsV RX12 183 RX12 yX12_edges wsX12_edges) := goodIn_app (goodIn_r _ [2, 3, 4, 5] rfl (by decide +kernel)) ggX12_joined_X12_edges
set_option maxRecDepth 20000 in
theorem ggX12_countParts_X12_isBetween : GoodIn wsX12_countParts wsX12_isBetween := goodIn_r _ [5] rfl (by decide +kernel)
set_option maxRecDepth 20000 in
theorem gX12_countParts_X12_isBetween : GoodIn wsX12_countParts (va_wsS RX12 29 yX12_isBetween wsX12_isBetween) := goodIn_app (goodIn_r _ [2, 3, 4] rfl (by decide +kernel)) ggX12_countParts_X12_isBetween
set_option maxRecDepth 20000 in
theorem ggX12_countParts_X12_isWrong : GoodIn wsX12_countParts wsX12_isWrong := goodIn_r _ [9, 10, 69, 70, 71, 72, 73] rfl (by decide +kernel)
set_option maxRecDepth 20000 in
theorem gX12_countParts_X12_isWrong : GoodIn wsX12_countParts (wsV RX12 39 RX12 yX12_isWrong wsX12_isWrong) := goodIn_app (goodIn_r _ [6, 7, 8, 4] rfl (by decide +kernel)) ggX12_countParts_X12_isWrong
set_option maxRecDepth 20000 in
theorem ggX12_countParts_X12_joined : GoodIn wsX12_countParts wsX12_joined := goodIn_ca (goodIn_r _ [14, 15, 16, 17, 18, 4, 19, 20, 21, 22, 23, 24, 25, 26, 27, 28, 29, 30, 31, 2, 3, 5, 32, 33, 34, 35, 36, 37, 38, 39, 40, 41, 42, 43, 44, 45, 46, 47, 48, 49, 50, 51, 52, 53, 54, 55, 56, 57, 58, 59, 60, 61, 69, 70, 71, 72, 73] rfl (by decide +kernel)) (goodIn_sub (fun _ h => List.mem_cons_of_mem _ (List.mem_append_right _ h)) (by decide +kernel))
set_option maxRecDepth 20000 in
theorem gX12_countParts_X12_joined : GoodIn wsX12_countParts (wsV RX12 216 RX12 yX12_joined wsX12_joined) := goodIn_app (goodIn_r _ [11, 12, 13, 4] rfl (by decide +kernel)) ggX12_countParts_X12_joined
set_option maxRecDepth 20000 in
theorem ggX12_countParts_X12_all : GoodIn wsX12_countParts wsX12_all := goodIn_r _ [65, 31, 69, 70, 71, 72, 73] rfl (by decide +kernel)
set_option maxRecDepth 20000 in
theorem gX12_countParts_X12_all : GoodIn wsX12_countParts (wsV RX12 195 RX12 yX12_all wsX12_all) := goodIn_app (goodIn_r _ [62, 63, 64, 4] rfl (by decide +kernel)) ggX12_countParts_X12_all
set_option maxRecDepth 20000 in
theorem ggX12_countParts_X12_parts : GoodIn wsX12_countParts wsX12_parts := goodIn_ca (goodIn_r _ [68] rfl (by decide +kernel)) (goodIn_sub (fun _ h => List.mem_cons_of_mem _ (List.mem_append_right _ h)) (by decide +kernel))
set_option maxRecDepth 20000 in
theorem gX12_countParts_X12_parts : GoodIn wsX12_countParts (va_wsS RX12 220 yX12_parts wsX12_parts) := goodIn_app (goodIn_r _ [66, 67, 4] rfl (by decide +kernel)) ggX12_countParts_X12_parts
set_option maxRecDepth 20000 in
theorem ggX12_countHoles_X12_isBetween : GoodIn wsX12_countHoles wsX12_isBetween := goodIn_r _ [5] rfl (by decide +kernel)
set_option maxRecDepth 20000 in
theorem gX12_countHoles_X12_isBetween : GoodIn wsX12_countHoles (va_wsS RX12 29 yX12_isBetween wsX12_isBetween) := goodIn_app (goodIn_r _ [2, 3, 4] rfl (by decide +kernel)) ggX12_countHoles_X12_isBetween
set_option maxRecDepth 20000 in
theorem ggX12_countHoles_X12_isWrong : GoodIn wsX12_countHoles wsX12_isWrong := goodIn_r _ [9, 10, 77, 78, 79, 80, 81] rfl (by decide +kernel)
set_option maxRecDepth 20000 in
theorem gX12_countHoles_X12_isWrong : GoodIn wsX12_countHoles (wsV RX12 39 RX12 yX12_isWrong wsX12_isWrong) := goodIn_app (goodIn_r _ [6, 7, 8, 4] rfl (by decide +kernel)) ggX12_countHoles_X12_isWrong
set_option maxRecDepth 20000 in
theorem ggX12_countHoles_X12_joined : GoodIn wsX12_countHoles wsX12_joined := goodIn_ca (goodIn_r _ [14, 15, 16, 17, 18, 4, 19, 20, 21, 22, 23, 24, 25, 26, 27, 28, 29, 30, 31, 2, 3, 5, 32, 33, 34, 35, 36, 37, 38, 39, 40, 41, 42, 43, 44, 45, 46, 47, 48, 49, 50, 51, 52, 53, 54, 55, 56, 57, 58, 59, 60, 61, 77, 78, 79, 80, 81] rfl (by decide +kernel)) (goodIn_sub (fun _ h => List.mem_cons_of_mem _ (List.mem_append_right _ h)) (by decide +kernel))
set_option maxRecDepth 20000 in
theorem gX12_countHoles_X12_joined : GoodIn wsX12_countHoles (wsV RX12 216 RX12 yX12_joined wsX12_joined) := goodIn_app (goodIn_r _ [11, 12, 13, 4] rfl (by decide +kernel)) ggX12_countHoles_X12_joined
set_option maxRecDepth 20000 in
theorem ggX12_countHoles_X12_all : GoodIn wsX12_countHoles wsX12_all := goodIn_r _ [65, 31, 77, 78, 79, 80, 81] rfl (by decide +kernel)
set_option maxRecDepth 20000 in
theorem gX12_countHoles_X12_all : GoodIn wsX12_countHoles (wsV RX12 195 RX12 yX12_all wsX12_all) := goodIn_app (goodIn_r _ [62, 63, 64, 4] rfl (by decide +kernel)) ggX12_countHoles_X12_all
set_option maxRecDepth 20000 in
theorem ggX12_countHoles_X12_parts : GoodIn wsX12_countHoles wsX12_parts := goodIn_ca (goodIn_r _ [68] rfl (by decide +kernel)) (goodIn_sub (fun _ h => List.mem_cons_of_mem _ (List.mem_append_right _ h)) (by decide +kernel))
set_option maxRecDepth 20000 in
theorem gX12_countHoles_X12_parts : GoodIn wsX12_countHoles (va_wsS RX12 220 yX12_parts wsX12_parts) := goodIn_app (goodIn_r _ [66, 67, 4] rfl (by decide +kernel)) ggX12_countHoles_X12_parts
set_option maxRecDepth 20000 in
theorem ggX12_countHoles_X12_many : GoodIn wsX12_countHoles wsX12_many := goodIn_r _ [72, 31, 77, 78, 79, 80, 81] rfl (by decide +kernel)
set_option maxRecDepth 20000 in
theorem gX12_countHoles_X12_many : GoodIn wsX12_countHoles (wsV RX12 72 RX12 yX12_many wsX12_many) := goodIn_app (goodIn_r _ [69, 70, 71, 4] rfl (by decide +kernel)) ggX12_countHoles_X12_many
set_option maxRecDepth 20000 in
theorem ggX12_countHoles_X12_isThere : GoodIn wsX12_countHoles wsX12_isThere := goodIn_r _ [29, 30, 31, 2, 3, 4, 5, 77, 78, 79, 80, 81] rfl (by decide +kernel)
set_option maxRecDepth 20000 in
theorem gX12_countHoles_X12_isThere : GoodIn wsX12_countHoles (wsV RX12 35 RX12 yX12_isThere wsX12_isThere) := goodIn_app (goodIn_r _ [26, 27, 28, 4] rfl (by decide +kernel)) ggX12_countHoles_X12_isThere
set_option maxRecDepth 20000 in
theorem ggX12_addWall_X12_isPlace : GoodIn wsX12_addWall wsX12_isPlace := goodIn_r _ [6, 7, 8, 5, 9] rfl (by decide +kernel)
set_option maxRecDepth 20000 in
theorem gX12_addWall_X12_isPlace : GoodIn wsX12_addWall (va_wsS RX12 64 yX12_isPlace wsX12_isPlace) := goodIn_app (goodIn_r _ [3, 4, 5] rfl (by decide +kernel)) ggX12_addWall_X12_isPlace
set_option maxRecDepth 20000 in
theorem ggX12_addWall_Jx4a65c_size_8abf5 : GoodIn wsX12_addWall wsJx4a65c_size_8abf5 := goodIn_r _ [14, 15, 80, 81, 82] rfl (by decide +kernel)
set_option maxRecDepth 20000 in
theorem gX12_addWall_Jx4a65c_size_8abf5_f56Jx4a65c : GoodIn wsX12_addWall (va_wsF RX12 56 RJx4a65c ⟨"java/util/List", "size", "()I"⟩ yJx4a65c_size_8abf5 wsJx4a65c_size_8abf5) := goodIn_app (goodIn_of _ (by decide +kernel)) ggX12_addWall_Jx4a65c_size_8abf5
set_option maxRecDepth 20000 in
theorem ggX12_addWall_X12_isWrong : GoodIn wsX12_addWall wsX12_isWrong := goodIn_r _ [19, 20, 75, 76, 77, 78, 79] rfl (by decide +kernel)
set_option maxRecDepth 20000 in
theorem gX12_addWall_X12_isWrong : GoodIn wsX12_addWall (wsV RX12 39 RX12 yX12_isWrong wsX12_isWrong) := goodIn_app (goodIn_r _ [16, 17, 18, 5] rfl (by decide +kernel)) ggX12_addWall_X12_isWrong
set_option maxRecDepth 20000 in
theorem ggX12_addWall_Jx4a65c_add_9ea2d : GoodIn wsX12_addWall wsJx4a65c_add_9ea2d := goodIn_r _ [24, 25, 26, 27, 15, 28, 29, 30, 13, 31, 32, 33, 34, 35, 36, 37, 38, 39, 40, 41, 42, 43, 44, 45, 46, 47, 48, 49, 50, 51, 52, 53, 54, 55, 56, 57, 58, 59, 60, 61, 62, 63, 64, 65, 66, 67, 68, 69, 70, 71, 72, 73, 74, 80, 81, 82] rfl (by decide +kernel)
set_option maxRecDepth 20000 in
theorem gX12_addWall_Jx4a65c_add_9ea2d_f50Jx4a65c : GoodIn wsX12_addWall (va_wsF RX12 50 RJx4a65c ⟨"java/util/List", "add", "(Ljava/lang/Object;)Z"⟩ yJx4a65c_add_9ea2d wsJx4a65c_add_9ea2d) := goodIn_app (goodIn_of _ (by decide +kernel)) ggX12_addWall_Jx4a65c_add_9ea2d
set_option maxRecDepth 20000 in
theorem ggX12_dropWall_Jx4a65c_isEmpty_aae02 : GoodIn wsX12_dropWall wsJx4a65c_isEmpty_aae02 := goodIn_r _ [6, 7, 46, 47, 48] rfl (by decide +kernel)
set_option maxRecDepth 20000 in
theorem gX12_dropWall_Jx4a65c_isEmpty_aae02_f87Jx4a65c : GoodIn wsX12_dropWall (va_wsF RX12 87 RJx4a65c ⟨"java/util/List", "isEmpty", "()Z"⟩ yJx4a65c_isEmpty_aae02 wsJx4a65c_isEmpty_aae02) := goodIn_app (goodIn_of _ (by decide +kernel)) ggX12_dropWall_Jx4a65c_isEmpty_aae02
set_option maxRecDepth 20000 in
theorem ggX12_dropWall_X12_isWrong : GoodIn wsX12_dropWall wsX12_isWrong := goodIn_r _ [12, 13, 41, 42, 43, 44, 45] rfl (by decide +kernel)
set_option maxRecDepth 20000 in
theorem gX12_dropWall_X12_isWrong : GoodIn wsX12_dropWall (wsV RX12 39 RX12 yX12_isWrong wsX12_isWrong) := goodIn_app (goodIn_r _ [8, 9, 10, 11] rfl (by decide +kernel)) ggX12_dropWall_X12_isWrong
set_option maxRecDepth 20000 in
theorem ggX12_behind_X12_copy : GoodIn wsX12_behind wsX12_copy := goodIn_r _ [5, 6, 7, 8, 9, 10, 11] rfl (by decide +kernel)
set_option maxRecDepth 20000 in
theorem gX12_behind_X12_copy : GoodIn wsX12_behind (va_wsS RX12 46 yX12_copy wsX12_copy) := goodIn_app (goodIn_r _ [2, 3, 4] rfl (by decide +kernel)) ggX12_behind_X12_copy
set_option maxRecDepth 20000 in
theorem ggX12_pass_X12_isBetween : GoodIn wsX12_pass wsX12_isBetween := goodIn_r _ [6] rfl (by decide +kernel)
set_option maxRecDepth 20000 in
theorem gX12_pass_X12_isBetween : GoodIn wsX12_pass (va_wsS RX12 29 yX12_isBetween wsX12_isBetween) := goodIn_app (goodIn_r _ [3, 4, 5] rfl (by decide +kernel)) ggX12_pass_X12_isBetween
set_option maxRecDepth 20000 in
theorem ggX12_pass_X12_isWrong : GoodIn wsX12_pass wsX12_isWrong := goodIn_r _ [10, 11, 28, 29, 30, 31, 32] rfl (by decide +kernel)
set_option maxRecDepth 20000 in
theorem gX12_pass_X12_isWrong : GoodIn wsX12_pass (wsV RX12 39 RX12 yX12_isWrong wsX12_isWrong) := goodIn_app (goodIn_r _ [7, 8, 9, 5] rfl (by decide +kernel)) ggX12_pass_X12_isWrong
set_option maxRecDepth 20000 in
theorem ggX12_pass_X12_behind : GoodIn wsX12_pass wsX12_behind := goodIn_ca (goodIn_r _ [15, 2, 16, 17, 5, 18, 19, 20, 21, 22, 23, 24, 28, 29, 30, 31, 32] rfl (by decide +kernel)) (goodIn_sub (fun _ h => List.mem_cons_of_mem _ (List.mem_append_right _ h)) (by decide +kernel))
set_option maxRecDepth 20000 in
theorem gX12_pass_X12_behind : GoodIn wsX12_pass (wsV RX12 263 RX12 yX12_behind wsX12_behind) := goodIn_app (goodIn_r _ [12, 13, 14, 5] rfl (by decide +kernel)) ggX12_pass_X12_behind
set_option maxRecDepth 20000 in
theorem ggX12_checksum_Jx4a65c_size_8abf5 : GoodIn wsX12_checksum wsJx4a65c_size_8abf5 := goodIn_r _ [9, 10, 53, 54, 55] rfl (by decide +kernel)
set_option maxRecDepth 20000 in
theorem gX12_checksum_Jx4a65c_size_8abf5_f56Jx4a65c : GoodIn wsX12_checksum (va_wsF RX12 56 RJx4a65c ⟨"java/util/List", "size", "()I"⟩ yJx4a65c_size_8abf5 wsJx4a65c_size_8abf5) := goodIn_app (goodIn_of _ (by decide +kernel)) ggX12_checksum_Jx4a65c_size_8abf5
set_option maxRecDepth 20000 in
theorem ggX12_checksum_X12_countTriangles : GoodIn wsX12_checksum wsX12_countTriangles := goodIn_ca (goodIn_r _ [15, 16, 17, 18, 19, 14, 20, 21, 2, 22, 23, 24, 25, 26, 27, 28, 29, 30, 31, 32, 33, 34, 35, 36, 37, 38, 39, 40, 41, 42, 43, 44, 45, 46, 47, 48, 49, 50, 51, 52] rfl (by decide +kernel)) (goodIn_sub (fun _ h => List.mem_cons_of_mem _ (List.mem_append_right _ h)) (by decide +kernel))
set_option maxRecDepth 20000 in
theorem gX12_checksum_X12_countTriangles : GoodIn wsX12_checksum (wsV RX12 315 RX12 yX12_countTriangles wsX12_countTriangles) := goodIn_app (goodIn_r _ [11, 12, 13, 14] rfl (by decide +kernel)) ggX12_checksum_X12_countTriangles
set_option maxRecDepth 20000 in
theorem ggJx4a65c_init_da8c8_Jxc12de_init_da8c8 : GoodIn wsJx4a65c_init_da8c8 wsJxc12de_init_da8c8 := goodIn_r _ [6, 7, 8, 9, 10, 11, 12, 13, 14, 15, 16, 17] rfl (by decide +kernel)
set_option maxRecDepth 20000 in
theorem gJx4a65c_init_da8c8_Jxc12de_init_da8c8 : GoodIn wsJx4a65c_init_da8c8 (wsJxc12de_init_da8c8) := ggJx4a65c_init_da8c8_Jxc12de_init_da8c8
set_option maxRecDepth 20000 in
theorem ggJx4a65c_grow_d5877_Jx4a65c_grow_92f84 : GoodIn wsJx4a65c_grow_d5877 wsJx4a65c_grow_92f84 := goodIn_r _ [6, 7, 8, 9, 10, 11, 12, 13, 14, 15, 16, 17, 18, 19, 20, 21, 22, 23, 24, 25, 26, 27, 28, 29, 30, 31, 32, 33, 34, 35, 36, 37, 38, 39, 40, 41, 42, 43, 44, 45] rfl (by decide +kernel)
set_option maxRecDepth 20000 in
theorem gJx4a65c_grow_d5877_Jx4a65c_grow_92f84 : GoodIn wsJx4a65c_grow_d5877 (wsV RJx4a65c 69 RJx4a65c yJx4a65c_grow_92f84 wsJx4a65c_grow_92f84) := goodIn_app (goodIn_r _ [2, 3, 4, 5] rfl (by decide +kernel)) ggJx4a65c_grow_d5877_Jx4a65c_grow_92f84
set_option maxRecDepth 20000 in
theorem ggJx4a65c_add_72be8_Jx4a65c_grow_d5877 : GoodIn wsJx4a65c_add_72be8 wsJx4a65c_grow_d5877 := goodIn_r _ [6, 1, 7, 8, 9, 5, 10, 11, 12, 13, 14, 15, 16, 17, 18, 19, 20, 21, 22, 23, 24, 25, 26, 27, 28, 29, 30, 31, 32, 33, 34, 35, 36, 37, 38, 39, 40, 41, 42, 43, 44, 45, 46, 47, 48, 49] rfl (by decide +kernel)
set_option maxRecDepth 20000 in
theorem gJx4a65c_add_72be8_Jx4a65c_grow_d5877 : GoodIn wsJx4a65c_add_72be8 (wsV RJx4a65c 129 RJx4a65c yJx4a65c_grow_d5877 wsJx4a65c_grow_d5877) := goodIn_app (goodIn_r _ [2, 3, 4, 5] rfl (by decide +kernel)) ggJx4a65c_add_72be8_Jx4a65c_grow_d5877
set_option maxRecDepth 20000 in
theorem ggJx4a65c_add_9ea2d_Jx4a65c_add_72be8 : GoodIn wsJx4a65c_add_9ea2d wsJx4a65c_add_72be8 := goodIn_r _ [9, 4, 10, 11, 12, 8, 13, 14, 15, 16, 17, 3, 18, 19, 20, 21, 22, 23, 24, 25, 26, 27, 28, 29, 30, 31, 32, 33, 34, 35, 36, 37, 38, 39, 40, 41, 42, 43, 44, 45, 46, 47, 48, 49, 50, 51, 52, 53, 54, 55] rfl (by decide +kernel)
set_option maxRecDepth 20000 in
theorem gJx4a65c_add_9ea2d_Jx4a65c_add_72be8 : GoodIn wsJx4a65c_add_9ea2d (wsV RJx4a65c 131 RJx4a65c yJx4a65c_add_72be8 wsJx4a65c_add_72be8) := goodIn_app (goodIn_r _ [5, 6, 7, 8] rfl (by decide +kernel)) ggJx4a65c_add_9ea2d_Jx4a65c_add_72be8
set_option maxRecDepth 20000 in
theorem ggL_addPoint_X11_addPoint : GoodIn wsL_addPoint wsX11_addPoint := goodIn_ca (goodIn_ca (goodIn_ca (goodIn_ca (goodIn_r _ [8, 9, 10, 11, 12, 13, 14, 15, 16, 7, 17, 18, 19, 20, 21, 22, 23, 24, 25, 26, 27, 28, 29, 30, 31, 32, 33, 34, 35, 36, 37, 38, 39, 40, 41, 42, 43, 44, 45, 46, 47, 48, 49, 50, 51, 52, 53, 54, 55, 56, 57, 58, 59, 60, 61, 62, 63, 64, 65, 66, 67, 68, 69, 70, 71, 72, 73, 74, 75, 76, 77, 78, 79, 80, 81, 82, 83, 84, 85, 86, 87, 88] rfl (by decide +kernel)) (goodIn_sub (fun _ h => List.mem_cons_of_mem _ (List.mem_append_left _ (List.mem_append_left _ (List.mem_append_right _ h)))) (by decide +kernel))) (goodIn_sub (fun _ h => List.mem_cons_of_mem _ (List.mem_append_left _ (List.mem_append_right _ h))) (by decide +kernel))) (goodIn_sub (fun _ h => List.mem_cons_of_mem _ (List.mem_append_right _ h)) (by decide +kernel))) (goodIn_sub (fun _ h => List.mem_cons_of_mem _ (List.mem_append_left _ (List.mem_append_left _ (List.mem_append_left _ (List.mem_append_right _ h))))) (by decide +kernel))
set_option maxRecDepth 20000 in
theorem gL_addPoint_X11_addPoint : GoodIn wsL_addPoint (wsV RL 7 RX11 yX11_addPoint wsX11_addPoint) := goodIn_app (goodIn_r _ [4, 5, 6, 7] rfl (by decide +kernel)) ggL_addPoint_X11_addPoint
set_option maxRecDepth 20000 in
theorem ggL_remove_X11_remove : GoodIn wsL_remove wsX11_remove := goodIn_ca (goodIn_ca (goodIn_r _ [6, 7, 8, 9, 10, 11, 5, 12, 13, 14, 15, 16, 17, 18, 19, 20, 21, 22, 23, 24, 25, 26, 27, 28, 29, 30, 31, 32, 33, 34, 35, 36, 37, 38, 39, 40, 41, 42, 43, 44, 45, 46, 47, 48, 49, 50, 51, 52, 53, 54, 55, 56, 57, 58, 59, 60, 61, 62, 63, 64, 65, 66, 67, 68, 69, 70, 71, 72, 73, 74, 75, 76, 77, 78, 79, 80] rfl (by decide +kernel)) (goodIn_sub (fun _ h => List.mem_cons_of_mem _ (List.mem_append_right _ h)) (by decide +kernel))) (goodIn_sub (fun _ h => List.mem_cons_of_mem _ (List.mem_append_left _ (List.mem_append_right _ h))) (by decide +kernel))
set_option maxRecDepth 20000 in
theorem gL_remove_X11_remove : GoodIn wsL_remove (wsV RL 19 RX11 yX11_remove wsX11_remove) := goodIn_app (goodIn_r _ [2, 3, 4, 5] rfl (by decide +kernel)) ggL_remove_X11_remove
set_option maxRecDepth 20000 in
theorem ggL_move_X11_move : GoodIn wsL_move wsX11_move := goodIn_ca (goodIn_ca (goodIn_ca (goodIn_ca (goodIn_r _ [8, 9, 10, 11, 12, 13, 14, 15, 7, 16, 17, 18, 19, 20, 21, 22, 23, 24, 25, 26, 27, 28, 29, 30, 31, 32, 33, 34, 35, 36, 37, 38, 39, 40, 41, 42, 43, 44, 45, 46, 47, 48, 49, 50, 51, 52, 53, 54, 55, 56, 57, 58, 59, 60, 61, 62, 63, 64, 65, 66, 67, 68, 69, 70, 71, 72, 73, 74, 75, 76, 77, 78, 79, 80, 81, 82, 83, 84, 85, 86, 87, 88, 89, 90, 91, 92, 93, 94, 95] rfl (by decide +kernel)) (goodIn_sub (fun _ h => List.mem_cons_of_mem _ (List.mem_append_left _ (List.mem_append_left _ (List.mem_append_right _ h)))) (by decide +kernel))) (goodIn_sub (fun _ h => List.mem_cons_of_mem _ (List.mem_append_left _ (List.mem_append_right _ h))) (by decide +kernel))) (goodIn_sub (fun _ h => List.mem_cons_of_mem _ (List.mem_append_right _ h)) (by decide +kernel))) (goodIn_sub (fun _ h => List.mem_cons_of_mem _ (List.mem_append_left _ (List.mem_append_left _ (List.mem_append_left _ (List.mem_append_right _ h))))) (by decide +kernel))
set_option maxRecDepth 20000 in
theorem gL_move_X11_move : GoodIn wsL_move (wsV RL 25 RX11 yX11_move wsX11_move) := goodIn_app (goodIn_r _ [4, 5, 6, 7] rfl (by decide +kernel)) ggL_move_X11_move
set_option maxRecDepth 20000 in
theorem ggL_setWeight_X11_setWeight : GoodIn wsL_setWeight wsX11_setWeight := goodIn_ca (goodIn_ca (goodIn_ca (goodIn_r _ [7, 8, 9, 10, 11, 12, 6, 13, 14, 15, 16, 17, 18, 19, 20, 21, 22, 23, 24, 25, 26, 27, 28, 29, 30, 31, 32, 33, 34, 35, 36, 37, 38, 39, 40, 41, 42, 43, 44, 45] rfl (by decide +kernel)) (goodIn_sub (fun _ h => List.mem_cons_of_mem _ (List.mem_append_left _ (List.mem_append_left _ (List.mem_append_right _ h)))) (by decide +kernel))) (goodIn_sub (fun _ h => List.mem_cons_of_mem _ (List.mem_append_left _ (List.mem_append_right _ h))) (by decide +kernel))) (goodIn_sub (fun _ h => List.mem_cons_of_mem _ (List.mem_append_right _ h)) (by decide +kernel))
set_option maxRecDepth 20000 in
theorem gL_setWeight_X11_setWeight : GoodIn wsL_setWeight (wsV RL 29 RX11 yX11_setWeight wsX11_setWeight) := goodIn_app (goodIn_r _ [3, 4, 5, 6] rfl (by decide +kernel)) ggL_setWeight_X11_setWeight
set_option maxRecDepth 20000 in
theorem ggL_within_X11_within : GoodIn wsL_within wsX11_within := goodIn_ca (goodIn_ca (goodIn_r _ [6, 7, 8, 9, 10, 5, 11, 12, 13, 14, 15, 16, 17, 18, 19, 20, 21, 22, 23, 24, 25, 26, 27, 28, 29, 30, 31, 32, 33, 34, 35, 36, 37, 38, 39, 40, 41, 42, 43, 44, 45, 46, 47, 48, 49, 50, 51, 52, 53, 54, 55] rfl (by decide +kernel)) (goodIn_sub (fun _ h => List.mem_cons_of_mem _ (List.mem_append_right _ h)) (by decide +kernel))) (goodIn_sub (fun _ h => List.mem_cons_of_mem _ (List.mem_append_left _ (List.mem_append_right _ h))) (by decide +kernel))
set_option maxRecDepth 20000 in
theorem gL_within_X11_within : GoodIn wsL_within (wsV RL 55 RX11 yX11_within wsX11_within) := goodIn_app (goodIn_r _ [2, 3, 4, 5] rfl (by decide +kernel)) ggL_within_X11_within
set_option maxRecDepth 20000 in
theorem ggL_turn_X11_turn : GoodIn wsL_turn wsX11_turn := goodIn_ca (goodIn_ca (goodIn_r _ [6, 7, 8, 9, 10, 5, 11, 12, 13, 14, 15, 16, 17, 18, 19, 20, 21, 22, 23, 24, 25, 26, 27, 28, 29, 30, 31, 32, 33, 34, 35, 36, 37, 38, 39, 40, 41, 42, 43, 44, 45, 46, 47, 48, 49, 50] rfl (by decide +kernel)) (goodIn_sub (fun _ h => List.mem_cons_of_mem _ (List.mem_append_right _ h)) (by decide +kernel))) (goodIn_sub (fun _ h => List.mem_cons_of_mem _ (List.mem_append_left _ (List.mem_append_right _ h))) (by decide +kernel))
set_option maxRecDepth 20000 in
theorem gL_turn_X11_turn : GoodIn wsL_turn (wsV RL 62 RX11 yX11_turn wsX11_turn) := goodIn_app (goodIn_r _ [2, 3, 4, 5] rfl (by decide +kernel)) ggL_turn_X11_turn
set_option maxRecDepth 20000 in
theorem ggL_inCircle_X11_inCircle : GoodIn wsL_inCircle wsX11_inCircle := goodIn_ca (goodIn_ca (goodIn_ca (goodIn_r _ [7, 8, 9, 10, 11, 12, 13, 6, 14, 15, 16, 17, 18, 19, 20, 21, 22, 23, 24, 25, 26, 27, 28, 29, 30, 31, 32, 33, 34, 35, 36, 37, 38, 39, 40, 41, 42, 43, 44, 45, 46, 47, 48, 49, 50, 51, 52, 53, 54, 55, 56, 57, 58] rfl (by decide +kernel)) (goodIn_sub (fun _ h => List.mem_cons_of_mem _ (List.mem_append_left _ (List.mem_append_right _ h))) (by decide +kernel))) (goodIn_sub (fun _ h => List.mem_cons_of_mem _ (List.mem_append_right _ h)) (by decide +kernel))) (goodIn_sub (fun _ h => List.mem_cons_of_mem _ (List.mem_append_left _ (List.mem_append_left _ (List.mem_append_right _ h)))) (by decide +kernel))
set_option maxRecDepth 20000 in
theorem gL_inCircle_X11_inCircle : GoodIn wsL_inCircle (wsV RL 65 RX11 yX11_inCircle wsX11_inCircle) := goodIn_app (goodIn_r _ [3, 4, 5, 6] rfl (by decide +kernel)) ggL_inCircle_X11_inCircle
set_option maxRecDepth 20000 in
theorem ggL_isTriangle_X11_isTriangle : GoodIn wsL_isTriangle wsX11_isTriangle := goodIn_ca (goodIn_ca (goodIn_r _ [6, 7, 8, 9, 10, 11, 5, 12, 13, 14, 15, 16, 17, 18, 19, 20, 21, 22, 23, 24, 25, 26, 27, 28, 29, 30, 31, 32, 33, 34, 35, 36, 37, 38, 39, 40, 41, 42, 43, 44, 45, 46, 47, 48, 49, 50, 51, 52, 53, 54, 55, 56, 57, 58, 59, 60, 61, 62, 63, 64, 65, 66, 67, 68, 69, 70, 71, 72, 73, 74, 75, 76, 77, 78, 79, 80, 81, 82] rfl (by decide +kernel)) (goodIn_sub (fun _ h => List.mem_cons_of_mem _ (List.mem_append_right _ h)) (by decide +kernel))) (goodIn_sub (fun _ h => List.mem_cons_of_mem _ (List.mem_append_left _ (List.mem_append_right _ h))) (by decide +kernel))
set_option maxRecDepth 20000 in
theorem gL_isTriangle_X11_isTriangle : GoodIn wsL_isTriangle (wsV RL 69 RX11 yX11_isTriangle wsX11_isTriangle) := goodIn_app (goodIn_r _ [2, 3, 4, 5] rfl (by decide +kernel)) ggL_isTriangle_X11_isTriangle
set_option maxRecDepth 20000 in
theorem ggL_areNeighbours_X11_areNeighbours : GoodIn wsL_areNeighbours wsX11_areNeighbours := goodIn_ca (goodIn_ca (goodIn_r _ [6, 7, 8, 9, 10, 11, 5, 12, 13, 14, 15, 16, 17, 18, 19, 20, 21, 22, 23, 24, 25, 26, 27, 28, 29, 30, 31, 32, 33, 34, 35, 36, 37, 38, 39, 40, 41, 42, 43, 44, 45, 46, 47, 48, 49, 50, 51, 52, 53, 54, 55, 56, 57, 58, 59, 60, 61, 62, 63, 64, 65, 66, 67, 68, 69, 70, 71, 72, 73, 74, 75, 76, 77, 78, 79, 80, 81, 82] rfl (by decide +kernel)) (goodIn_sub (fun _ h => List.mem_cons_of_mem _ (List.mem_append_right _ h)) (by decide +kernel))) (goodIn_sub (fun _ h => List.mem_cons_of_mem _ (List.mem_append_left _ (List.mem_append_right _ h))) (by decide +kernel))
set_option maxRecDepth 20000 in
theorem gL_areNeighbours_X11_areNeighbours : GoodIn wsL_areNeighbours (wsV RL 73 RX11 yX11_areNeighbours wsX11_areNeighbours) := goodIn_app (goodIn_r _ [2, 3, 4, 5] rfl (by decide +kernel)) ggL_areNeighbours_X11_areNeighbours
set_option maxRecDepth 20000 in
theorem ggL_countNeighbours_X11_countNeighbours : GoodIn wsL_countNeighbours wsX11_countNeighbours := goodIn_ca (goodIn_ca (goodIn_r _ [6, 7, 8, 9, 10, 11, 12, 5, 13, 14, 15, 16, 17, 18, 19, 20, 21, 22, 23, 24, 25, 26, 27, 28, 29, 30, 31, 32, 33, 34, 35, 36, 37, 38, 39, 40, 41, 42, 43, 44, 45, 46, 47, 48, 49, 50, 51, 52, 53, 54, 55, 56, 57, 58, 59, 60, 61, 62, 63, 64, 65, 66, 67, 68, 69, 70, 71, 72, 73, 74, 75, 76, 77, 78, 79, 80, 81, 82, 83, 84, 85, 86] rfl (by decide +kernel)) (goodIn_sub (fun _ h => List.mem_cons_of_mem _ (List.mem_append_left _ (List.mem_append_right _ h))) (by decide +kernel))) (goodIn_sub (fun _ h => List.mem_cons_of_mem _ (List.mem_append_right _ h)) (by decide +kernel))
set_option maxRecDepth 20000 in
theorem gL_countNeighbours_X11_countNeighbours : GoodIn wsL_countNeighbours (wsV RL 77 RX11 yX11_countNeighbours wsX11_countNeighbours) := goodIn_app (goodIn_r _ [2, 3, 4, 5] rfl (by decide +kernel)) ggL_countNeighbours_X11_countNeighbours
set_option maxRecDepth 20000 in
theorem ggL_isJoined_X11_isJoined : GoodIn wsL_isJoined wsX11_isJoined := goodIn_ca (goodIn_ca (goodIn_ca (goodIn_r _ [7, 8, 9, 10, 11, 12, 13, 14, 6, 15, 16, 17, 18, 19, 20, 21, 22, 23, 24, 25, 26, 27, 28, 29, 30, 31, 32, 33, 34, 35, 36, 37, 38, 39, 40, 41, 42, 43, 44, 45, 46, 47, 48, 49, 50, 51, 52, 53, 54, 55, 56, 57, 58, 59, 60, 61, 62, 63, 64, 65, 66, 67, 68, 69, 70, 71, 72, 73, 74, 75, 76, 77, 78, 79, 80, 81, 82, 83, 84, 85, 86, 87, 88, 89, 90, 91, 92, 93, 94, 95, 96, 97, 98, 99, 100, 101, 102, 103, 104, 105, 106, 107, 108, 109, 110, 111, 112, 113, 114, 115, 116, 117] rfl (by decide +kernel)) (goodIn_sub (fun _ h => List.mem_cons_of_mem _ (List.mem_append_left _ (List.mem_append_right _ h))) (by decide +kernel))) (goodIn_sub (fun _ h => List.mem_cons_of_mem _ (List.mem_append_right _ h)) (by decide +kernel))) (goodIn_sub (fun _ h => List.mem_cons_of_mem _ (List.mem_append_left _ (List.mem_append_left _ (List.mem_append_right _ h)))) (by decide +kernel))
set_option maxRecDepth 20000 in
theorem gL_isJoined_X11_isJoined : GoodIn wsL_isJoined (wsV RL 80 RX11 yX11_isJoined wsX11_isJoined) := goodIn_app (goodIn_r _ [3, 4, 5, 6] rfl (by decide +kernel)) ggL_isJoined_X11_isJoined
set_option maxRecDepth 20000 in
theorem ggL_countJoined_X11_countJoined : GoodIn wsL_countJoined wsX11_countJoined := goodIn_ca (goodIn_ca (goodIn_r _ [6, 7, 8, 9, 10, 5, 11, 12, 13, 14, 15, 16, 17, 18, 19, 20, 21, 22, 23, 24, 25, 26, 27, 28, 29, 30, 31, 32, 33, 34, 35, 36, 37, 38, 39, 40, 41, 42, 43, 44, 45, 46, 47, 48, 49, 50, 51, 52, 53, 54, 55, 56, 57, 58, 59, 60, 61, 62, 63, 64, 65, 66, 67, 68, 69, 70, 71, 72, 73, 74, 75, 76, 77, 78, 79, 80, 81, 82, 83, 84, 85, 86, 87, 88, 89, 90, 91, 92, 93, 94, 95, 96, 97, 98, 99, 100, 101, 102, 103, 104, 105, 106, 107, 108, 109, 110, 111, 112, 113] rfl (by decide +kernel)) (goodIn_sub (fun _ h => List.mem_cons_of_mem _ (List.mem_append_right _ h)) (by decide +kernel))) (goodIn_sub (fun _ h => List.mem_cons_of_mem _ (List.mem_append_left _ (List.mem_append_right _ h))) (by decide +kernel))
set_option maxRecDepth 20000 in
theorem gL_countJoined_X11_countJoined : GoodIn wsL_countJoined (wsV RL 84 RX11 yX11_countJoined wsX11_countJoined) := goodIn_app (goodIn_r _ [2, 3, 4, 5] rfl (by decide +kernel)) ggL_countJoined_X11_countJoined
set_option maxRecDepth 20000 in
theorem ggL_layer_X11_layer : GoodIn wsL_layer wsX11_layer := goodIn_ca (goodIn_ca (goodIn_r _ [6, 7, 8, 9, 10, 11, 5, 12, 13, 14, 15, 16, 17, 18, 19, 20, 21, 22, 23, 24, 25, 26, 27, 28, 29, 30, 31, 32, 33, 34, 35, 36, 37, 38, 39, 40, 41, 42, 43, 44, 45, 46, 47, 48, 49, 50, 51, 52, 53, 54, 55, 56, 57, 58, 59, 60, 61, 62, 63, 64, 65, 66, 67, 68, 69] rfl (by decide +kernel)) (goodIn_sub (fun _ h => List.mem_cons_of_mem _ (List.mem_append_right _ h)) (by decide +kernel))) (goodIn_sub (fun _ h => List.mem_cons_of_mem _ (List.mem_append_left _ (List.mem_append_right _ h))) (by decide +kernel))
set_option maxRecDepth 20000 in
theorem gL_layer_X11_layer : GoodIn wsL_layer (wsV RL 94 RX11 yX11_layer wsX11_layer) := goodIn_app (goodIn_r _ [2, 3, 4, 5] rfl (by decide +kernel)) ggL_layer_X11_layer
set_option maxRecDepth 20000 in
theorem ggL_depth_X11_depth : GoodIn wsL_depth wsX11_depth := goodIn_ca (goodIn_ca (goodIn_r _ [6, 7, 8, 9, 10, 11, 5, 12, 13, 14, 15, 16, 17, 18, 19, 20, 21, 22, 23, 24, 25, 26, 27, 28, 29, 30, 31, 32, 33, 34, 35, 36, 37, 38, 39, 40, 41, 42, 43, 44, 45, 46, 47, 48, 49, 50, 51, 52, 53, 54, 55, 56, 57, 58, 59, 60, 61, 62, 63, 64, 65, 66, 67, 68, 69, 70, 71, 72, 73, 74, 75, 76, 77, 78, 79, 80, 81] rfl (by decide +kernel)) (goodIn_sub (fun _ h => List.mem_cons_of_mem _ (List.mem_append_right _ h)) (by decide +kernel))) (goodIn_sub (fun _ h => List.mem_cons_of_mem _ (List.mem_append_left _ (List.mem_append_right _ h))) (by decide +kernel))
set_option maxRecDepth 20000 in
theorem gL_depth_X11_depth : GoodIn wsL_depth (wsV RL 97 RX11 yX11_depth wsX11_depth) := goodIn_app (goodIn_r _ [2, 3, 4, 5] rfl (by decide +kernel)) ggL_depth_X11_depth
set_option maxRecDepth 20000 in
theorem ggL_countParts_X11_countParts : GoodIn wsL_countParts wsX11_countParts := goodIn_ca (goodIn_ca (goodIn_r _ [6, 7, 8, 9, 10, 11, 12, 13, 14, 5, 15, 16, 17, 18, 19, 20, 21, 22, 23, 24, 25, 26, 27, 28, 29, 30, 31, 32, 33, 34, 35, 36, 37, 38, 39, 40, 41, 42, 43, 44, 45, 46, 47, 48, 49, 50, 51, 52, 53, 54, 55, 56, 57, 58, 59, 60, 61, 62, 63, 64, 65, 66, 67, 68, 69, 70, 71, 72, 73, 74, 75, 76, 77, 78, 79, 80, 81, 82, 83, 84, 85, 86, 87, 88, 89, 90, 91, 92, 93, 94, 95, 96, 97, 98, 99, 100, 101, 102, 103, 104, 105, 106, 107, 108, 109, 110, 111, 112, 113, 114, 115, 116, 117, 118, 119, 120, 121, 122, 123, 124, 125, 126, 127, 128, 129, 130, 131, 132, 133, 134, 135, 136, 137, 138] rfl (by decide +kernel)) (goodIn_sub (fun _ h => List.mem_cons_of_mem _ (List.mem_append_right _ h)) (by decide +kernel))) (goodIn_sub (fun _ h => List.mem_cons_of_mem _ (List.mem_append_left _ (List.mem_append_right _ h))) (by decide +kernel))
set_option maxRecDepth 20000 in
theorem gL_countParts_X11_countParts : GoodIn wsL_countParts (wsV RL 100 RX11 yX11_countParts wsX11_countParts) := goodIn_app (goodIn_r _ [2, 3, 4, 5] rfl (by decide +kernel)) ggL_countParts_X11_countParts
set_option maxRecDepth 20000 in
theorem ggL_countHoles_X11_countHoles : GoodIn wsL_countHoles wsX11_countHoles := goodIn_ca (goodIn_ca (goodIn_r _ [6, 7, 8, 9, 10, 11, 12, 13, 14, 15, 16, 5, 17, 18, 19, 20, 21, 22, 23, 24, 25, 26, 27, 28, 29, 30, 31, 32, 33, 34, 35, 36, 37, 38, 39, 40, 41, 42, 43, 44, 45, 46, 47, 48, 49, 50, 51, 52, 53, 54, 55, 56, 57, 58, 59, 60, 61, 62, 63, 64, 65, 66, 67, 68, 69, 70, 71, 72, 73, 74, 75, 76, 77, 78, 79, 80, 81, 82, 83, 84, 85, 86, 87, 88, 89, 90, 91, 92, 93, 94, 95, 96, 97, 98, 99, 100, 101, 102, 103, 104, 105, 106, 107, 108, 109, 110, 111, 112, 113, 114, 115, 116, 117, 118, 119, 120, 121, 122, 123, 124, 125, 126, 127, 128, 129, 130, 131, 132, 133, 134, 135, 136, 137, 138, 139, 140, 141] rfl (by decide +kernel)) (goodIn_sub (fun _ h => List.mem_cons_of_mem _ (List.mem_append_right _ h)) (by decide +kernel))) (goodIn_sub (fun _ h => List.mem_cons_of_mem _ (List.mem_append_left _ (List.mem_append_right _ h))) (by decide +kernel))
set_option maxRecDepth 20000 in
theorem gL_countHoles_X11_countHoles : GoodIn wsL_countHoles (wsV RL 103 RX11 yX11_countHoles wsX11_countHoles) := goodIn_app (goodIn_r _ [2, 3, 4, 5] rfl (by decide +kernel)) ggL_countHoles_X11_countHoles
set_option maxRecDepth 20000 in
theorem ggL_addWall_X11_addWall : GoodIn wsL_addWall wsX11_addWall := goodIn_ca (goodIn_ca (goodIn_ca (goodIn_r _ [7, 8, 9, 10, 11, 12, 13, 14, 15, 6, 16, 17, 18, 19, 20, 21, 22, 23, 24, 25, 26, 27, 28, 29, 30, 31, 32, 33, 34, 35, 36, 37, 38, 39, 40, 41, 42, 43, 44] rfl (by decide +kernel)) (goodIn_sub (fun _ h => List.mem_cons_of_mem _ (List.mem_append_left _ (List.mem_append_right _ h))) (by decide +kernel))) (goodIn_sub (fun _ h => List.mem_cons_of_mem _ (List.mem_append_right _ h)) (by decide +kernel))) (goodIn_sub (fun _ h => List.mem_cons_of_mem _ (List.mem_append_left _ (List.mem_append_left _ (List.mem_append_right _ h)))) (by decide +kernel))
set_option maxRecDepth 20000 in
theorem gL_addWall_X11_addWall : GoodIn wsL_addWall (wsV RL 106 RX11 yX11_addWall wsX11_addWall) := goodIn_app (goodIn_r _ [3, 4, 5, 6] rfl (by decide +kernel)) ggL_addWall_X11_addWall
set_option maxRecDepth 20000 in
theorem ggL_sees_X11_sees : GoodIn wsL_sees wsX11_sees := goodIn_ca (goodIn_ca (goodIn_ca (goodIn_r _ [7, 8, 9, 10, 11, 12, 13, 14, 6, 15, 16, 17, 18, 19, 20, 21, 22, 23, 24, 25, 26, 27, 28, 29, 30, 31, 32, 33, 34, 35, 36, 37, 38, 39, 40, 41, 42, 43, 44, 45, 46, 47, 48, 49, 50, 51, 52, 53, 54, 55, 56, 57, 58, 59, 60, 61, 62, 63, 64, 65, 66, 67, 68, 69, 70, 71, 72, 73, 74, 75, 76, 77, 78, 79, 80, 81, 82, 83, 84, 85] rfl (by decide +kernel)) (goodIn_sub (fun _ h => List.mem_cons_of_mem _ (List.mem_append_left _ (List.mem_append_left _ (List.mem_append_right _ h)))) (by decide +kernel))) (goodIn_sub (fun _ h => List.mem_cons_of_mem _ (List.mem_append_left _ (List.mem_append_right _ h))) (by decide +kernel))) (goodIn_sub (fun _ h => List.mem_cons_of_mem _ (List.mem_append_right _ h)) (by decide +kernel))
set_option maxRecDepth 20000 in
theorem gL_sees_X11_sees : GoodIn wsL_sees (wsV RL 112 RX11 yX11_sees wsX11_sees) := goodIn_app (goodIn_r _ [3, 4, 5, 6] rfl (by decide +kernel)) ggL_sees_X11_sees
set_option maxRecDepth 20000 in
theorem ggL_countSeen_X11_countSeen : GoodIn wsL_countSeen wsX11_countSeen := goodIn_ca (goodIn_ca (goodIn_r _ [6, 7, 8, 9, 5, 10, 11, 12, 13, 14, 15, 16, 17, 18, 19, 20, 21, 22, 23, 24, 25, 26, 27, 28, 29, 30, 31, 32, 33, 34, 35, 36, 37, 38, 39, 40, 41, 42, 43, 44, 45, 46, 47, 48, 49, 50, 51, 52, 53, 54, 55, 56, 57, 58, 59, 60, 61, 62, 63, 64, 65, 66, 67, 68, 69, 70, 71, 72, 73, 74, 75, 76, 77, 78, 79, 80, 81, 82, 83, 84, 85, 86, 87] rfl (by decide +kernel)) (goodIn_sub (fun _ h => List.mem_cons_of_mem _ (List.mem_append_right _ h)) (by decide +kernel))) (goodIn_sub (fun _ h => List.mem_cons_of_mem _ (List.mem_append_left _ (List.mem_append_right _ h))) (by decide +kernel))
set_option maxRecDepth 20000 in
theorem gL_countSeen_X11_countSeen : GoodIn wsL_countSeen (wsV RL 115 RX11 yX11_countSeen wsX11_countSeen) := goodIn_app (goodIn_r _ [2, 3, 4, 5] rfl (by decide +kernel)) ggL_countSeen_X11_countSeen
set_option maxRecDepth 20000 in
theorem ggL_setSpeed_X11_setSpeed : GoodIn wsL_setSpeed wsX11_setSpeed := goodIn_ca (goodIn_ca (goodIn_ca (goodIn_r _ [7, 8, 9, 10, 11, 12, 13, 6, 14, 15, 16, 17, 18, 19, 20, 21, 22, 23, 24, 25, 26, 27, 28, 29, 30, 31, 32, 33, 34, 35, 36, 37, 38, 39, 40, 41, 42, 43, 44, 45, 46, 47, 48, 49, 50, 51, 52, 53, 54, 55] rfl (by decide +kernel)) (goodIn_sub (fun _ h => List.mem_cons_of_mem _ (List.mem_append_left _ (List.mem_append_left _ (List.mem_append_right _ h)))) (by decide +kernel))) (goodIn_sub (fun _ h => List.mem_cons_of_mem _ (List.mem_append_left _ (List.mem_append_right _ h))) (by decide +kernel))) (goodIn_sub (fun _ h => List.mem_cons_of_mem _ (List.mem_append_right _ h)) (by decide +kernel))
set_option maxRecDepth 20000 in
theorem gL_setSpeed_X11_setSpeed : GoodIn wsL_setSpeed (wsV RL 118 RX11 yX11_setSpeed wsX11_setSpeed) := goodIn_app (goodIn_r _ [3, 4, 5, 6] rfl (by decide +kernel)) ggL_setSpeed_X11_setSpeed
set_option maxRecDepth 20000 in
theorem ggL_pass_X11_pass : GoodIn wsL_pass wsX11_pass := goodIn_ca (goodIn_ca (goodIn_ca (goodIn_r _ [7, 8, 9, 10, 11, 12, 6, 13, 14, 15, 16, 17, 18, 19, 20, 21, 22, 23, 24, 25, 26, 27, 28, 29, 30, 31, 32, 33, 34, 35, 36, 37, 38, 39, 40, 41, 42, 43, 44, 45, 46, 47, 48, 49, 50, 51, 52, 53, 54, 55, 56, 57, 58, 59, 60, 61, 62, 63, 64, 65, 66, 67, 68, 69, 70, 71, 72, 73] rfl (by decide +kernel)) (goodIn_sub (fun _ h => List.mem_cons_of_mem _ (List.mem_append_left _ (List.mem_append_right _ h))) (by decide +kernel))) (goodIn_sub (fun _ h => List.mem_cons_of_mem _ (List.mem_append_right _ h)) (by decide +kernel))) (goodIn_sub (fun _ h => List.mem_cons_of_mem _ (List.mem_append_left _ (List.mem_append_left _ (List.mem_append_right _ h)))) (by decide +kernel))
set_option maxRecDepth 20000 in
theorem gL_pass_X11_pass : GoodIn wsL_pass (wsV RL 121 RX11 yX11_pass wsX11_pass) := goodIn_app (goodIn_r _ [3, 4, 5, 6] rfl (by decide +kernel)) ggL_pass_X11_pass
set_option maxRecDepth 20000 in
theorem ggL_cluster_X11_cluster : GoodIn wsL_cluster wsX11_cluster := goodIn_ca (goodIn_ca (goodIn_ca (goodIn_r _ [7, 8, 9, 10, 11, 12, 13, 14, 6, 15, 16, 17, 18, 19, 20, 21, 22, 23, 24, 25, 26, 27, 28, 29, 30, 31, 32, 33, 34, 35, 36, 37, 38, 39, 40, 41, 42, 43, 44, 45, 46, 47, 48, 49, 50, 51, 52, 53, 54, 55, 56, 57, 58, 59, 60, 61, 62, 63, 64, 65, 66, 67, 68, 69, 70, 71, 72, 73, 74, 75, 76, 77, 78, 79, 80, 81, 82, 83, 84, 85, 86, 87, 88, 89, 90, 91, 92, 93, 94, 95, 96, 97, 98, 99, 100, 101, 102, 103, 104, 105, 106, 107, 108, 109, 110, 111, 112, 113, 114, 115, 116] rfl (by decide +kernel)) (goodIn_sub (fun _ h => List.mem_cons_of_mem _ (List.mem_append_left _ (List.mem_append_left _ (List.mem_append_right _ h)))) (by decide +kernel))) (goodIn_sub (fun _ h => List.mem_cons_of_mem _ (List.mem_append_left _ (List.mem_append_right _ h))) (by decide +kernel))) (goodIn_sub (fun _ h => List.mem_cons_of_mem _ (List.mem_append_right _ h)) (by decide +kernel))
set_option maxRecDepth 20000 in
theorem gL_cluster_X11_cluster : GoodIn wsL_cluster (wsV RL 130 RX11 yX11_cluster wsX11_cluster) := goodIn_app (goodIn_r _ [3, 4, 5, 6] rfl (by decide +kernel)) ggL_cluster_X11_cluster
set_option maxRecDepth 20000 in
theorem ggL_joinedAt_X11_joinedAt : GoodIn wsL_joinedAt wsX11_joinedAt := goodIn_ca (goodIn_ca (goodIn_r _ [6, 7, 8, 9, 10, 11, 5, 12, 13, 14, 15, 16, 17, 18, 19, 20, 21, 22, 23, 24, 25, 26, 27, 28, 29, 30, 31, 32, 33, 34, 35, 36, 37, 38, 39, 40, 41, 42, 43, 44, 45, 46, 47, 48, 49, 50, 51, 52, 53, 54, 55, 56, 57, 58, 59, 60, 61, 62, 63, 64, 65, 66, 67, 68, 69, 70, 71, 72, 73, 74, 75, 76, 77, 78, 79, 80, 81, 82, 83, 84, 85, 86, 87, 88, 89, 90, 91, 92, 93, 94, 95, 96, 97, 98, 99, 100, 101, 102, 103, 104, 105, 106, 107] rfl (by decide +kernel)) (goodIn_sub (fun _ h => List.mem_cons_of_mem _ (List.mem_append_right _ h)) (by decide +kernel))) (goodIn_sub (fun _ h => List.mem_cons_of_mem _ (List.mem_append_left _ (List.mem_append_right _ h))) (by decide +kernel))
set_option maxRecDepth 20000 in
theorem gL_joinedAt_X11_joinedAt : GoodIn wsL_joinedAt (wsV RL 133 RX11 yX11_joinedAt wsX11_joinedAt) := goodIn_app (goodIn_r _ [2, 3, 4, 5] rfl (by decide +kernel)) ggL_joinedAt_X11_joinedAt
set_option maxRecDepth 20000 in
theorem ggL_countDiscs_X11_countDiscs : GoodIn wsL_countDiscs wsX11_countDiscs := goodIn_ca (goodIn_ca (goodIn_r _ [6, 7, 8, 9, 10, 11, 12, 13, 5, 14, 15, 16, 17, 18, 19, 20, 21, 22, 23, 24, 25, 26, 27, 28, 29, 30, 31, 32, 33, 34, 35, 36, 37, 38, 39, 40, 41, 42, 43, 44, 45, 46, 47, 48, 49, 50, 51, 52, 53, 54, 55, 56, 57, 58, 59, 60, 61, 62, 63, 64, 65, 66, 67, 68, 69] rfl (by decide +kernel)) (goodIn_sub (fun _ h => List.mem_cons_of_mem _ (List.mem_append_left _ (List.mem_append_right _ h))) (by decide +kernel))) (goodIn_sub (fun _ h => List.mem_cons_of_mem _ (List.mem_append_right _ h)) (by decide +kernel))
set_option maxRecDepth 20000 in
theorem gL_countDiscs_X11_countDiscs : GoodIn wsL_countDiscs (wsV RL 142 RX11 yX11_countDiscs wsX11_countDiscs) := goodIn_app (goodIn_r _ [2, 3, 4, 5] rfl (by decide +kernel)) ggL_countDiscs_X11_countDiscs
set_option maxRecDepth 20000 in
theorem ggL_getHullShare_X11_getHullShare : GoodIn wsL_getHullShare wsX11_getHullShare := goodIn_ca (goodIn_ca (goodIn_r _ [6, 7, 8, 9, 10, 11, 12, 13, 14, 15, 16, 17, 18, 19, 20, 21, 22, 23, 24, 25, 26, 27, 28, 29, 30, 31, 32, 33, 34, 35, 36, 37, 38, 39, 5, 40, 41, 42, 43, 44, 45, 46, 47, 48, 49, 50, 51, 52, 53, 54, 55, 56, 57, 58, 59, 60, 61, 62, 63, 64, 65, 66, 67, 68, 69, 70, 71, 72, 73, 74, 75, 76, 77, 78, 79, 80, 81, 82, 83] rfl (by decide +kernel)) (goodIn_sub (fun _ h => List.mem_cons_of_mem _ (List.mem_append_right _ h)) (by decide +kernel))) (goodIn_sub (fun _ h => List.mem_cons_of_mem _ (List.mem_append_left _ (List.mem_append_right _ h))) (by decide +kernel))
set_option maxRecDepth 20000 in
theorem gL_getHullShare_X11_getHullShare : GoodIn wsL_getHullShare (wsV RL 145 RX11 yX11_getHullShare wsX11_getHullShare) := goodIn_app (goodIn_r _ [2, 3, 4, 5] rfl (by decide +kernel)) ggL_getHullShare_X11_getHullShare
set_option maxRecDepth 20000 in
theorem ggL_getMeanNeighbours_X11_getMeanNeighbours : GoodIn wsL_getMeanNeighbours wsX11_getMeanNeighbours := goodIn_ca (goodIn_ca (goodIn_r _ [6, 7, 8, 9, 10, 11, 12, 13, 14, 15, 16, 17, 18, 19, 20, 21, 22, 23, 24, 25, 26, 27, 28, 29, 30, 31, 32, 33, 34, 35, 36, 37, 5, 38, 39, 40, 41, 42, 43, 44, 45, 46, 47, 48, 49, 50, 51, 52, 53, 54, 55, 56, 57, 58, 59, 60, 61, 62, 63, 64, 65, 66, 67, 68, 69, 70, 71, 72, 73, 74, 75, 76, 77, 78, 79, 80, 81, 82, 83, 84, 85, 86, 87, 88, 89] rfl (by decide +kernel)) (goodIn_sub (fun _ h => List.mem_cons_of_mem _ (List.mem_append_right _ h)) (by decide +kernel))) (goodIn_sub (fun _ h => List.mem_cons_of_mem _ (List.mem_append_left _ (List.mem_append_right _ h))) (by decide +kernel))
set_option maxRecDepth 20000 in
theorem gL_getMeanNeighbours_X11_getMeanNeighbours : GoodIn wsL_getMeanNeighbours (wsV RL 151 RX11 yX11_getMeanNeighbours wsX11_getMeanNeighbours) := goodIn_app (goodIn_r _ [2, 3, 4, 5] rfl (by decide +kernel)) ggL_getMeanNeighbours_X11_getMeanNeighbours

set_option maxHeartbeats 20000000 in
set_option maxRecDepth 20000 in
theorem ggL_law_X11_init : GoodIn wsL_law wsX11_init := goodIn_r _ [10, 11, 12, 13, 14, 15, 16, 17, 18, 19, 20, 21, 22, 23, 24, 25, 26, 27, 28, 29, 30, 31, 32, 33, 34, 35, 36, 37, 38, 39, 40, 41, 42, 43, 44, 45, 46, 47, 48, 49, 50, 51, 52, 53, 54, 55, 56, 57, 58, 59, 60, 61, 62, 63, 64, 65, 66, 67, 68, 69, 70, 71, 72, 73, 74, 75, 76, 77, 78, 79, 80, 81, 82, 83, 84, 85, 86, 87, 88, 89, 90, 91, 92, 93, 94, 95, 96, 97, 98, 99, 100, 101, 102, 103, 104, 105, 106, 107, 108, 109, 110, 111, 112, 113, 114, 115, 116, 1505, 1506, 1507, 1508, 1509, 1510, 1511, 1490, 1491, 1492, 1493, 1494, 1495, 1496, 1497, 1498, 1499, 1512, 1513, 1514, 1515, 1516, 1517, 1518, 1519, 1520, 1521, 1522, 1523, 1524, 1525, 1526, 1527, 1528, 1529, 1530, 1531, 1532, 1533, 1534, 1535, 1536, 1537, 1538, 1539, 1540] (by decide +kernel) (by decide +kernel)
set_option maxHeartbeats 20000000 in
set_option maxRecDepth 20000 in
theorem gL_law_X11_init : GoodIn wsL_law (wsX11_init) := ggL_law_X11_init
set_option maxHeartbeats 20000000 in
set_option maxRecDepth 20000 in
theorem ggL_law_X12_init : GoodIn wsL_law wsX12_init := goodIn_r _ [119, 120, 12, 13, 121, 122, 123, 124, 125, 126, 127, 128, 129, 130, 131, 132, 133, 134, 135, 136, 137, 138, 139, 140, 141, 142, 1500, 1501, 1502, 1503, 1504, 1541, 1542, 1543] (by decide +kernel) (by decide +kernel)
set_option maxHeartbeats 20000000 in
set_option maxRecDepth 20000 in
theorem gL_law_X12_init : GoodIn wsL_law (wsX12_init) := ggL_law_X12_init
set_option maxHeartbeats 20000000 in
set_option maxRecDepth 20000 in
theorem ggL_law_L_addPoint : GoodIn wsL_law wsL_addPoint := goodIn_ca (goodIn_ca (goodIn_ca (goodIn_ca (goodIn_r _ [146, 147, 148, 149, 150, 151, 152, 2, 153, 154, 155, 156, 157, 17, 21, 158, 159, 160, 161, 162, 163, 164, 165, 166, 167, 168, 16, 169, 58, 59, 170, 171, 172, 173, 174, 175, 176, 177, 178, 179, 180, 181, 182, 183, 20, 184, 67, 185, 186, 187, 188, 189, 190, 191, 192, 193, 194, 60, 61, 62, 195, 196, 197, 198, 199, 200, 201, 202, 203, 1490, 1491, 1492, 1493, 1494, 1495, 1496, 1497, 1498, 1499, 1505, 1506, 1507, 1508, 1509, 1510, 1511, 1512, 1513, 1514] (by decide +kernel) (by decide +kernel)) (goodIn_sub (fun _ h => List.mem_append_left _ (List.mem_append_left _ (List.mem_append_left _ (List.mem_append_left _ (List.mem_append_left _ (List.mem_append_left _ (List.mem_append_left _ (List.mem_append_right _ h)))))))) (by decide +kernel))) (goodIn_sub (fun _ h => List.mem_append_left _ (List.mem_append_left _ (List.mem_append_left _ (List.mem_append_left _ (List.mem_append_left _ (List.mem_append_left _ (List.mem_append_right _ h))))))) (by decide +kernel))) (goodIn_sub (fun _ h => List.mem_append_left _ (List.mem_append_left _ (List.mem_append_left _ (List.mem_append_left _ (List.mem_append_left _ (List.mem_append_right _ h)))))) (by decide +kernel))) (goodIn_sub (fun _ h => List.mem_append_left _ (List.mem_append_left _ (List.mem_append_left _ (List.mem_append_left _ (List.mem_append_right _ h))))) (by decide +kernel))
set_option maxHeartbeats 20000000 in
set_option maxRecDepth 20000 in
theorem gL_law_L_addPoint : GoodIn wsL_law (va_wsS RL 159 yL_addPoint wsL_addPoint) := goodIn_app (goodIn_of _ (by decide +kernel)) ggL_law_L_addPoint
set_option maxHeartbeats 20000000 in
set_option maxRecDepth 20000 in
theorem ggL_law_X12_addPoint : GoodIn wsL_law wsX12_addPoint := goodIn_ca (goodIn_r _ [207, 122, 57, 208, 209, 5, 210, 211, 212, 213, 214, 215, 216, 217, 218, 219, 220, 221, 222, 223, 224, 225, 226, 227, 228, 229, 230, 126, 231, 232, 233, 121, 234, 235, 236, 237, 238, 239, 240, 241, 125, 242, 243, 244, 132, 245, 246, 247, 248, 249, 250, 251, 252, 253, 254, 255, 256, 257, 131, 258, 259, 189, 260, 261, 262, 263, 264, 265, 266, 267, 268, 269, 270, 271, 272, 273, 274, 275, 276, 277, 278, 279, 280, 281, 282, 283, 284, 188, 190, 285, 286, 287, 288, 289, 290, 291, 292, 293, 294, 295, 296, 297, 298, 299, 300, 301, 302, 303, 304, 305, 306, 307, 308, 309, 1500, 1501, 1502, 1503, 1504, 1541, 1542, 1543] (by decide +kernel) (by decide +kernel)) (goodIn_sub (fun _ h => List.mem_append_left _ (List.mem_append_left _ (List.mem_append_left _ (List.mem_append_left _ (List.mem_append_left _ (List.mem_append_left _ (List.mem_append_left _ (List.mem_append_right _ h)))))))) (by decide +kernel))
set_option maxHeartbeats 20000000 in
set_option maxRecDepth 20000 in
theorem gL_law_X12_addPoint : GoodIn wsL_law (wsV RL 164 RX12 yX12_addPoint wsX12_addPoint) := goodIn_app (goodIn_of _ (by decide +kernel)) ggL_law_X12_addPoint
set_option maxHeartbeats 20000000 in
set_option maxRecDepth 20000 in
theorem ggL_law_X12_thrown : GoodIn wsL_law wsX12_thrown := goodIn_r _ [313, 226, 1500, 1501, 1502, 1503, 1504] (by decide +kernel) (by decide +kernel)
set_option maxHeartbeats 20000000 in
set_option maxRecDepth 20000 in
theorem gL_law_X12_thrown : GoodIn wsL_law (wsV RL 165 RX12 yX12_thrown wsX12_thrown) := goodIn_app (goodIn_of _ (by decide +kernel)) ggL_law_X12_thrown
set_option maxHeartbeats 20000000 in
set_option maxRecDepth 20000 in
theorem ggL_law_L_remove : GoodIn wsL_law wsL_remove := goodIn_ca (goodIn_ca (goodIn_r _ [316, 317, 318, 319, 320, 2, 321, 21, 17, 322, 323, 324, 325, 326, 327, 328, 171, 172, 16, 173, 174, 175, 176, 181, 182, 183, 20, 184, 67, 185, 186, 187, 188, 189, 190, 191, 192, 193, 194, 58, 59, 60, 61, 62, 170, 329, 330, 331, 332, 203, 333, 334, 335, 336, 337, 338, 339, 340, 341, 342, 343, 1490, 1491, 1492, 1493, 1494, 1495, 1496, 1497, 1498, 1499, 1505, 1506, 1507, 1508, 1509, 1510, 1511, 1512, 1513, 1514] (by decide +kernel) (by decide +kernel)) (goodIn_sub (fun _ h => List.mem_append_left _ (List.mem_append_left _ (List.mem_append_left _ (List.mem_append_left _ (List.mem_append_left _ (List.mem_append_left _ (List.mem_append_left _ (List.mem_append_right _ h)))))))) (by decide +kernel))) (goodIn_sub (fun _ h => List.mem_append_left _ (List.mem_append_left _ (List.mem_append_left _ (List.mem_append_right _ h)))) (by decide +kernel))
set_option maxHeartbeats 20000000 in
set_option maxRecDepth 20000 in
theorem gL_law_L_remove : GoodIn wsL_law (va_wsS RL 168 yL_remove wsL_remove) := goodIn_app (goodIn_of _ (by decide +kernel)) ggL_law_L_remove
set_option maxHeartbeats 20000000 in
set_option maxRecDepth 20000 in
theorem ggL_law_X12_remove : GoodIn wsL_law wsX12_remove := goodIn_r _ [347, 122, 348, 349, 350, 5, 351, 352, 353, 354, 355, 356, 211, 212, 213, 222, 223, 224, 225, 226, 227, 228, 229, 230, 126, 231, 232, 233, 121, 234, 235, 236, 237, 238, 239, 240, 241, 125, 242, 243, 244, 132, 245, 246, 247, 248, 249, 250, 251, 252, 253, 254, 255, 256, 257, 131, 258, 259, 189, 260, 261, 262, 263, 264, 265, 266, 267, 268, 269, 270, 271, 272, 273, 274, 275, 276, 277, 278, 279, 280, 281, 282, 283, 284, 188, 190, 285, 286, 287, 288, 289, 290, 291, 292, 293, 294, 295, 296, 297, 298, 299, 300, 301, 302, 303, 304, 305, 306, 307, 308, 309, 218, 219, 220, 221, 1500, 1501, 1502, 1503, 1504, 1541, 1542, 1543] (by decide +kernel) (by decide +kernel)
set_option maxHeartbeats 20000000 in
set_option maxRecDepth 20000 in
theorem gL_law_X12_remove : GoodIn wsL_law (wsV RL 171 RX12 yX12_remove wsX12_remove) := goodIn_app (goodIn_of _ (by decide +kernel)) ggL_law_X12_remove
set_option maxHeartbeats 20000000 in
set_option maxRecDepth 20000 in
theorem ggL_law_L_move : GoodIn wsL_law wsL_move := goodIn_ca (goodIn_ca (goodIn_ca (goodIn_ca (goodIn_r _ [359, 317, 147, 148, 360, 361, 362, 2, 363, 154, 155, 17, 21, 322, 323, 324, 325, 326, 327, 328, 171, 172, 16, 173, 174, 175, 176, 158, 159, 160, 161, 162, 163, 164, 165, 166, 167, 168, 169, 58, 59, 170, 364, 365, 366, 367, 368, 369, 189, 370, 371, 259, 260, 60, 181, 182, 183, 20, 184, 67, 185, 186, 187, 188, 190, 191, 192, 193, 194, 61, 62, 372, 200, 201, 202, 203, 1490, 1491, 1492, 1493, 1494, 1495, 1496, 1497, 1498, 1499, 1505, 1506, 1507, 1508, 1509, 1510, 1511, 1512, 1513, 1514] (by decide +kernel) (by decide +kernel)) (goodIn_sub (fun _ h => List.mem_append_left _ (List.mem_append_left _ (List.mem_append_left _ (List.mem_append_left _ (List.mem_append_left _ (List.mem_append_left _ (List.mem_append_left _ (List.mem_append_right _ h)))))))) (by decide +kernel))) (goodIn_sub (fun _ h => List.mem_append_left _ (List.mem_append_left _ (List.mem_append_left _ (List.mem_append_left _ (List.mem_append_left _ (List.mem_append_left _ (List.mem_append_right _ h))))))) (by decide +kernel))) (goodIn_sub (fun _ h => List.mem_append_left _ (List.mem_append_left _ (List.mem_append_left _ (List.mem_append_right _ h)))) (by decide +kernel))) (goodIn_sub (fun _ h => List.mem_append_left _ (List.mem_append_left _ (List.mem_append_left _ (List.mem_append_left _ (List.mem_append_right _ h))))) (by decide +kernel))
set_option maxHeartbeats 20000000 in
set_option maxRecDepth 20000 in
theorem gL_law_L_move : GoodIn wsL_law (va_wsS RL 172 yL_move wsL_move) := goodIn_app (goodIn_of _ (by decide +kernel)) ggL_law_L_move
set_option maxHeartbeats 20000000 in
set_option maxRecDepth 20000 in
theorem ggL_law_X12_move : GoodIn wsL_law wsX12_move := goodIn_ca (goodIn_r _ [376, 122, 348, 349, 350, 5, 351, 352, 353, 354, 355, 356, 211, 212, 213, 222, 223, 224, 225, 226, 208, 209, 210, 214, 215, 216, 217, 227, 228, 229, 230, 126, 231, 232, 233, 121, 234, 235, 236, 237, 238, 239, 240, 241, 125, 242, 243, 244, 132, 245, 246, 247, 248, 249, 250, 251, 252, 253, 254, 255, 256, 257, 131, 258, 259, 189, 260, 261, 262, 263, 264, 265, 266, 267, 268, 269, 270, 271, 272, 273, 274, 275, 276, 277, 278, 279, 280, 281, 282, 283, 284, 188, 190, 285, 286, 287, 288, 289, 290, 291, 292, 293, 294, 295, 296, 297, 298, 299, 300, 301, 302, 303, 304, 305, 306, 307, 308, 309, 377, 378, 379, 1500, 1501, 1502, 1503, 1504, 1541, 1542, 1543] (by decide +kernel) (by decide +kernel)) (goodIn_sub (fun _ h => List.mem_append_left _ (List.mem_append_left _ (List.mem_append_left _ (List.mem_append_left _ (List.mem_append_left _ (List.mem_append_left _ (List.mem_append_left _ (List.mem_append_right _ h)))))))) (by decide +kernel))
set_option maxHeartbeats 20000000 in
set_option maxRecDepth 20000 in
theorem gL_law_X12_move : GoodIn wsL_law (wsV RL 175 RX12 yX12_move wsX12_move) := goodIn_app (goodIn_of _ (by decide +kernel)) ggL_law_X12_move
set_option maxHeartbeats 20000000 in
set_option maxRecDepth 20000 in
theorem ggL_law_L_setWeight : GoodIn wsL_law wsL_setWeight := goodIn_ca (goodIn_ca (goodIn_ca (goodIn_r _ [382, 317, 147, 383, 384, 385, 2, 386, 17, 387, 322, 323, 324, 325, 326, 327, 328, 171, 172, 16, 173, 174, 175, 176, 161, 162, 163, 164, 165, 1490, 1491, 1492, 1493, 1494, 1495, 1496, 1497, 1498, 1499, 1505, 1506, 1507, 1508, 1509, 1510, 1511] (by decide +kernel) (by decide +kernel)) (goodIn_sub (fun _ h => List.mem_append_left _ (List.mem_append_left _ (List.mem_append_left _ (List.mem_append_left _ (List.mem_append_left _ (List.mem_append_left _ (List.mem_append_left _ (List.mem_append_right _ h)))))))) (by decide +kernel))) (goodIn_sub (fun _ h => List.mem_append_left _ (List.mem_append_left _ (List.mem_append_left _ (List.mem_append_right _ h)))) (by decide +kernel))) (goodIn_sub (fun _ h => List.mem_append_left _ (List.mem_append_left _ (List.mem_append_left _ (List.mem_append_left _ (List.mem_append_right _ h))))) (by decide +kernel))
set_option maxHeartbeats 20000000 in
set_option maxRecDepth 20000 in
theorem gL_law_L_setWeight : GoodIn wsL_law (va_wsS RL 176 yL_setWeight wsL_setWeight) := goodIn_app (goodIn_of _ (by decide +kernel)) ggL_law_L_setWeight
set_option maxHeartbeats 20000000 in
set_option maxRecDepth 20000 in
theorem ggL_law_X12_setWeight : GoodIn wsL_law wsX12_setWeight := goodIn_ca (goodIn_r _ [391, 392, 122, 348, 349, 350, 5, 351, 352, 353, 354, 355, 356, 211, 212, 213, 222, 223, 224, 225, 226, 1500, 1501, 1502, 1503, 1504] (by decide +kernel) (by decide +kernel)) (goodIn_sub (fun _ h => List.mem_append_left _ (List.mem_append_left _ (List.mem_append_left _ (List.mem_append_left _ (List.mem_append_left _ (List.mem_append_left _ (List.mem_append_left _ (List.mem_append_right _ h)))))))) (by decide +kernel))
set_option maxHeartbeats 20000000 in
set_option maxRecDepth 20000 in
theorem gL_law_X12_setWeight : GoodIn wsL_law (wsV RL 178 RX12 yX12_setWeight wsX12_setWeight) := goodIn_app (goodIn_of _ (by decide +kernel)) ggL_law_X12_setWeight
set_option maxHeartbeats 20000000 in
set_option maxRecDepth 20000 in
theorem ggL_law_X11_countPoints : GoodIn wsL_law wsX11_countPoints := goodIn_r _ [396, 17, 333, 334, 335, 16, 336, 174, 337, 338, 339, 340, 341, 342, 343, 1490, 1491, 1492, 1493, 1494, 1495, 1496, 1497, 1498, 1499, 1505, 1506, 1507, 1508, 1509, 1510, 1511] (by decide +kernel) (by decide +kernel)
set_option maxHeartbeats 20000000 in
set_option maxRecDepth 20000 in
theorem gL_law_X11_countPoints : GoodIn wsL_law (wsV RL 179 RX11 yX11_countPoints wsX11_countPoints) := goodIn_app (goodIn_of _ (by decide +kernel)) ggL_law_X11_countPoints
set_option maxHeartbeats 20000000 in
set_option maxRecDepth 20000 in
theorem ggL_law_X12_countPoints : GoodIn wsL_law wsX12_countPoints := goodIn_r _ [400, 226, 218, 219, 220, 5, 221, 122, 1500, 1501, 1502, 1503, 1504] (by decide +kernel) (by decide +kernel)
set_option maxHeartbeats 20000000 in
set_option maxRecDepth 20000 in
theorem gL_law_X12_countPoints : GoodIn wsL_law (wsV RL 182 RX12 yX12_countPoints wsX12_countPoints) := goodIn_app (goodIn_of _ (by decide +kernel)) ggL_law_X12_countPoints
set_option maxHeartbeats 20000000 in
set_option maxRecDepth 20000 in
theorem yggL_law_L_pointAt : GoodIn wsL_law zsL_pointAt := goodIn_ca (goodIn_ca (goodIn_r _ [403, 404, 405, 406, 407, 2, 408, 409, 410, 17, 166, 167, 168, 16, 169, 58, 59, 170, 171, 172, 173, 174, 175, 176, 1490, 1491, 1492, 1493, 1494, 1495, 1496, 1497, 1498, 1499, 1505, 1506, 1507, 1508, 1509, 1510, 1511] (by decide +kernel) (by decide +kernel)) (goodIn_sub (fun _ h => List.mem_append_left _ (List.mem_append_left _ (List.mem_append_left _ (List.mem_append_left _ (List.mem_append_left _ (List.mem_append_left _ (List.mem_append_left _ (List.mem_append_right _ h)))))))) (by decide +kernel))) (goodIn_sub (fun _ h => List.mem_append_left _ (List.mem_append_left _ (List.mem_append_right _ h))) (by decide +kernel))
set_option maxHeartbeats 20000000 in
set_option maxRecDepth 20000 in
theorem ygL_law_L_pointAt : GoodIn wsL_law (va_wsS RL 183 yL_pointAt zsL_pointAt) := goodIn_app (goodIn_of _ (by decide +kernel)) yggL_law_L_pointAt
set_option maxHeartbeats 20000000 in
set_option maxRecDepth 20000 in
theorem ggL_law_X12_pointAt : GoodIn wsL_law wsX12_pointAt := goodIn_ca (goodIn_r _ [414, 214, 215, 216, 5, 217, 122, 222, 223, 224, 225, 226, 1500, 1501, 1502, 1503, 1504] (by decide +kernel) (by decide +kernel)) (goodIn_sub (fun _ h => List.mem_append_left _ (List.mem_append_left _ (List.mem_append_left _ (List.mem_append_left _ (List.mem_append_left _ (List.mem_append_left _ (List.mem_append_left _ (List.mem_append_right _ h)))))))) (by decide +kernel))
set_option maxHeartbeats 20000000 in
set_option maxRecDepth 20000 in
theorem gL_law_X12_pointAt : GoodIn wsL_law (wsV RL 185 RX12 yX12_pointAt wsX12_pointAt) := goodIn_app (goodIn_of _ (by decide +kernel)) ggL_law_X12_pointAt
set_option maxHeartbeats 20000000 in
set_option maxRecDepth 20000 in
theorem yggL_law_L_undo : GoodIn wsL_law zsL_undo := goodIn_ca (goodIn_ca (goodIn_r _ [417, 404, 418, 419, 420, 2, 421, 409, 410, 21, 422, 17, 423, 424, 425, 20, 426, 185, 186, 67, 427, 428, 429, 16, 430, 174, 58, 59, 60, 61, 62, 203, 1490, 1491, 1492, 1493, 1494, 1495, 1496, 1497, 1498, 1499, 1512, 1513, 1514, 1505, 1506, 1507, 1508, 1509, 1510, 1511] (by decide +kernel) (by decide +kernel)) (goodIn_sub (fun _ h => List.mem_append_left _ (List.mem_append_left _ (List.mem_append_left _ (List.mem_append_left _ (List.mem_append_left _ (List.mem_append_left _ (List.mem_append_left _ (List.mem_append_right _ h)))))))) (by decide +kernel))) (goodIn_sub (fun _ h => List.mem_append_left _ (List.mem_append_left _ (List.mem_append_right _ h))) (by decide +kernel))
set_option maxHeartbeats 20000000 in
set_option maxRecDepth 20000 in
theorem ygL_law_L_undo : GoodIn wsL_law (va_wsS RL 186 yL_undo zsL_undo) := goodIn_app (goodIn_of _ (by decide +kernel)) yggL_law_L_undo
set_option maxHeartbeats 20000000 in
set_option maxRecDepth 20000 in
theorem ggL_law_X12_undo : GoodIn wsL_law wsX12_undo := goodIn_r _ [434, 126, 435, 122, 436, 437, 438, 125, 439, 245, 222, 223, 224, 5, 225, 226, 289, 290, 291, 292, 293, 294, 295, 296, 132, 297, 298, 299, 300, 301, 302, 303, 304, 305, 306, 307, 308, 243, 244, 309, 286, 287, 288, 1500, 1501, 1502, 1503, 1504, 1541, 1542, 1543] (by decide +kernel) (by decide +kernel)
set_option maxHeartbeats 20000000 in
set_option maxRecDepth 20000 in
theorem gL_law_X12_undo : GoodIn wsL_law (wsV RL 189 RX12 yX12_undo wsX12_undo) := goodIn_app (goodIn_of _ (by decide +kernel)) ggL_law_X12_undo
set_option maxHeartbeats 20000000 in
set_option maxRecDepth 20000 in
theorem yggL_law_L_nearest : GoodIn wsL_law zsL_nearest := goodIn_ca (goodIn_ca (goodIn_ca (goodIn_r _ [442, 147, 404, 443, 444, 445, 2, 446, 17, 447, 448, 449, 164, 165, 158, 159, 160, 161, 162, 163, 450, 451, 452, 453, 409, 410, 454, 455, 456, 457, 16, 458, 170, 171, 172, 173, 174, 175, 176, 459, 365, 366, 367, 58, 368, 369, 189, 370, 59, 371, 259, 260, 60, 1490, 1491, 1492, 1493, 1494, 1495, 1496, 1497, 1498, 1499, 1505, 1506, 1507, 1508, 1509, 1510, 1511] (by decide +kernel) (by decide +kernel)) (goodIn_sub (fun _ h => List.mem_append_left _ (List.mem_append_left _ (List.mem_append_left _ (List.mem_append_left _ (List.mem_append_left _ (List.mem_append_left _ (List.mem_append_left _ (List.mem_append_right _ h)))))))) (by decide +kernel))) (goodIn_sub (fun _ h => List.mem_append_left _ (List.mem_append_left _ (List.mem_append_left _ (List.mem_append_left _ (List.mem_append_right _ h))))) (by decide +kernel))) (goodIn_sub (fun _ h => List.mem_append_left _ (List.mem_append_left _ (List.mem_append_right _ h))) (by decide +kernel))
set_option maxHeartbeats 20000000 in
set_option maxRecDepth 20000 in
theorem ygL_law_L_nearest : GoodIn wsL_law (va_wsS RL 190 yL_nearest zsL_nearest) := goodIn_app (goodIn_of _ (by decide +kernel)) yggL_law_L_nearest
set_option maxHeartbeats 20000000 in
set_option maxRecDepth 20000 in
theorem ggL_law_X12_nearest : GoodIn wsL_law wsX12_nearest := goodIn_ca (goodIn_r _ [463, 464, 465, 466, 5, 467, 468, 469, 470, 471, 472, 473, 474, 208, 209, 210, 211, 212, 213, 218, 219, 220, 221, 122, 222, 223, 224, 225, 226, 475, 476, 477, 478, 57, 479, 480, 481, 482, 369, 189, 370, 483, 259, 260, 377, 378, 379, 1500, 1501, 1502, 1503, 1504] (by decide +kernel) (by decide +kernel)) (goodIn_sub (fun _ h => List.mem_append_left _ (List.mem_append_left _ (List.mem_append_left _ (List.mem_append_left _ (List.mem_append_left _ (List.mem_append_left _ (List.mem_append_left _ (List.mem_append_right _ h)))))))) (by decide +kernel))
set_option maxHeartbeats 20000000 in
set_option maxRecDepth 20000 in
theorem gL_law_X12_nearest : GoodIn wsL_law (wsV RL 193 RX12 yX12_nearest wsX12_nearest) := goodIn_app (goodIn_of _ (by decide +kernel)) ggL_law_X12_nearest
set_option maxHeartbeats 20000000 in
set_option maxRecDepth 20000 in
theorem yggL_law_L_nearness : GoodIn wsL_law zsL_nearness := goodIn_ca (goodIn_ca (goodIn_ca (goodIn_r _ [486, 147, 404, 487, 488, 489, 2, 490, 17, 447, 448, 449, 164, 165, 158, 159, 160, 161, 162, 163, 450, 451, 452, 453, 409, 410, 454, 455, 456, 457, 16, 458, 170, 171, 172, 173, 174, 175, 176, 459, 365, 366, 367, 58, 368, 369, 189, 370, 59, 371, 259, 260, 60, 328, 364, 1490, 1491, 1492, 1493, 1494, 1495, 1496, 1497, 1498, 1499, 1505, 1506, 1507, 1508, 1509, 1510, 1511] (by decide +kernel) (by decide +kernel)) (goodIn_sub (fun _ h => List.mem_append_left _ (List.mem_append_left _ (List.mem_append_left _ (List.mem_append_left _ (List.mem_append_left _ (List.mem_append_left _ (List.mem_append_left _ (List.mem_append_right _ h)))))))) (by decide +kernel))) (goodIn_sub (fun _ h => List.mem_append_left _ (List.mem_append_left _ (List.mem_append_left _ (List.mem_append_left _ (List.mem_append_right _ h))))) (by decide +kernel))) (goodIn_sub (fun _ h => List.mem_append_left _ (List.mem_append_left _ (List.mem_append_right _ h))) (by decide +kernel))
set_option maxHeartbeats 20000000 in
set_option maxRecDepth 20000 in
theorem ygL_law_L_nearness : GoodIn wsL_law (va_wsS RL 194 yL_nearness zsL_nearness) := goodIn_app (goodIn_of _ (by decide +kernel)) yggL_law_L_nearness
set_option maxHeartbeats 20000000 in
set_option maxRecDepth 20000 in
theorem ggL_law_X12_nearness_ : GoodIn wsL_law wsX12_nearness_ := goodIn_ca (goodIn_r _ [494, 122, 468, 469, 470, 5, 471, 472, 473, 474, 208, 209, 210, 211, 212, 213, 218, 219, 220, 221, 222, 223, 224, 225, 226, 475, 476, 477, 478, 57, 479, 480, 481, 482, 369, 189, 370, 483, 259, 260, 377, 378, 379, 1500, 1501, 1502, 1503, 1504] (by decide +kernel) (by decide +kernel)) (goodIn_sub (fun _ h => List.mem_append_left _ (List.mem_append_left _ (List.mem_append_left _ (List.mem_append_left _ (List.mem_append_left _ (List.mem_append_left _ (List.mem_append_left _ (List.mem_append_right _ h)))))))) (by decide +kernel))
set_option maxHeartbeats 20000000 in
set_option maxRecDepth 20000 in
theorem gL_law_X12_nearness_ : GoodIn wsL_law (wsV RL 196 RX12 yX12_nearness_ wsX12_nearness_) := goodIn_app (goodIn_of _ (by decide +kernel)) ggL_law_X12_nearness_
set_option maxHeartbeats 20000000 in
set_option maxRecDepth 20000 in
theorem yggL_law_L_farthest : GoodIn wsL_law zsL_farthest := goodIn_ca (goodIn_ca (goodIn_ca (goodIn_r _ [497, 147, 404, 498, 499, 500, 2, 501, 17, 447, 448, 449, 164, 165, 158, 159, 160, 161, 162, 163, 450, 451, 452, 453, 409, 410, 454, 502, 503, 504, 16, 505, 170, 171, 172, 173, 174, 175, 176, 459, 365, 366, 367, 58, 368, 369, 189, 370, 59, 371, 259, 260, 60, 1490, 1491, 1492, 1493, 1494, 1495, 1496, 1497, 1498, 1499, 1505, 1506, 1507, 1508, 1509, 1510, 1511] (by decide +kernel) (by decide +kernel)) (goodIn_sub (fun _ h => List.mem_append_left _ (List.mem_append_left _ (List.mem_append_left _ (List.mem_append_left _ (List.mem_append_left _ (List.mem_append_left _ (List.mem_append_left _ (List.mem_append_right _ h)))))))) (by decide +kernel))) (goodIn_sub (fun _ h => List.mem_append_left _ (List.mem_append_left _ (List.mem_append_left _ (List.mem_append_left _ (List.mem_append_right _ h))))) (by decide +kernel))) (goodIn_sub (fun _ h => List.mem_append_left _ (List.mem_append_left _ (List.mem_append_right _ h))) (by decide +kernel))
set_option maxHeartbeats 20000000 in
set_option maxRecDepth 20000 in
theorem ygL_law_L_farthest : GoodIn wsL_law (va_wsS RL 197 yL_farthest zsL_farthest) := goodIn_app (goodIn_of _ (by decide +kernel)) yggL_law_L_farthest
set_option maxHeartbeats 20000000 in
set_option maxRecDepth 20000 in
theorem ggL_law_X12_farthest : GoodIn wsL_law wsX12_farthest := goodIn_ca (goodIn_r _ [509, 122, 468, 469, 470, 5, 471, 472, 473, 474, 208, 209, 210, 211, 212, 213, 218, 219, 220, 221, 222, 223, 224, 225, 226, 479, 480, 481, 482, 369, 189, 370, 483, 259, 260, 377, 378, 379, 1500, 1501, 1502, 1503, 1504] (by decide +kernel) (by decide +kernel)) (goodIn_sub (fun _ h => List.mem_append_left _ (List.mem_append_left _ (List.mem_append_left _ (List.mem_append_left _ (List.mem_append_left _ (List.mem_append_left _ (List.mem_append_left _ (List.mem_append_right _ h)))))))) (by decide +kernel))
set_option maxHeartbeats 20000000 in
set_option maxRecDepth 20000 in
theorem gL_law_X12_farthest : GoodIn wsL_law (wsV RL 199 RX12 yX12_farthest wsX12_farthest) := goodIn_app (goodIn_of _ (by decide +kernel)) ggL_law_X12_farthest
set_option maxHeartbeats 20000000 in
set_option maxRecDepth 20000 in
theorem yggL_law_L_nearestAt : GoodIn wsL_law zsL_nearestAt := goodIn_ca (goodIn_ca (goodIn_ca (goodIn_r _ [512, 147, 404, 513, 514, 515, 2, 516, 409, 410, 17, 447, 448, 449, 164, 165, 158, 159, 160, 161, 162, 163, 328, 171, 172, 16, 173, 174, 175, 176, 517, 518, 519, 520, 459, 365, 366, 367, 58, 368, 369, 189, 370, 59, 371, 259, 260, 60, 170, 521, 522, 523, 1490, 1491, 1492, 1493, 1494, 1495, 1496, 1497, 1498, 1499, 1505, 1506, 1507, 1508, 1509, 1510, 1511] (by decide +kernel) (by decide +kernel)) (goodIn_sub (fun _ h => List.mem_append_left _ (List.mem_append_left _ (List.mem_append_left _ (List.mem_append_left _ (List.mem_append_left _ (List.mem_append_left _ (List.mem_append_left _ (List.mem_append_right _ h)))))))) (by decide +kernel))) (goodIn_sub (fun _ h => List.mem_append_left _ (List.mem_append_left _ (List.mem_append_right _ h))) (by decide +kernel))) (goodIn_sub (fun _ h => List.mem_append_left _ (List.mem_append_left _ (List.mem_append_left _ (List.mem_append_left _ (List.mem_append_right _ h))))) (by decide +kernel))
set_option maxHeartbeats 20000000 in
set_option maxRecDepth 20000 in
theorem ygL_law_L_nearestAt : GoodIn wsL_law (va_wsS RL 200 yL_nearestAt zsL_nearestAt) := goodIn_app (goodIn_of _ (by decide +kernel)) yggL_law_L_nearestAt
set_option maxHeartbeats 20000000 in
set_option maxRecDepth 20000 in
theorem ggL_law_X12_nearestAt : GoodIn wsL_law wsX12_nearestAt := goodIn_ca (goodIn_r _ [467, 468, 469, 470, 5, 471, 472, 473, 474, 208, 209, 210, 211, 212, 213, 218, 219, 220, 221, 122, 222, 223, 224, 225, 226, 475, 476, 477, 478, 57, 479, 480, 481, 482, 369, 189, 370, 483, 259, 260, 377, 378, 379, 1500, 1501, 1502, 1503, 1504] (by decide +kernel) (by decide +kernel)) (goodIn_sub (fun _ h => List.mem_append_left _ (List.mem_append_left _ (List.mem_append_left _ (List.mem_append_left _ (List.mem_append_left _ (List.mem_append_left _ (List.mem_append_left _ (List.mem_append_right _ h)))))))) (by decide +kernel))
set_option maxHeartbeats 20000000 in
set_option maxRecDepth 20000 in
theorem gL_law_X12_nearestAt : GoodIn wsL_law (wsV RL 203 RX12 yX12_nearestAt wsX12_nearestAt) := goodIn_app (goodIn_of _ (by decide +kernel)) ggL_law_X12_nearestAt
set_option maxHeartbeats 20000000 in
set_option maxRecDepth 20000 in
theorem ggL_law_L_within : GoodIn wsL_law wsL_within := goodIn_ca (goodIn_ca (goodIn_r _ [527, 147, 528, 529, 530, 2, 531, 532, 17, 158, 159, 160, 161, 162, 163, 164, 165, 328, 171, 172, 16, 173, 174, 175, 176, 364, 365, 366, 367, 58, 368, 369, 189, 370, 59, 371, 259, 260, 60, 1490, 1491, 1492, 1493, 1494, 1495, 1496, 1497, 1498, 1499, 1505, 1506, 1507, 1508, 1509, 1510, 1511] (by decide +kernel) (by decide +kernel)) (goodIn_sub (fun _ h => List.mem_append_left _ (List.mem_append_left _ (List.mem_append_left _ (List.mem_append_left _ (List.mem_append_left _ (List.mem_append_left _ (List.mem_append_left _ (List.mem_append_right _ h)))))))) (by decide +kernel))) (goodIn_sub (fun _ h => List.mem_append_left _ (List.mem_append_left _ (List.mem_append_left _ (List.mem_append_left _ (List.mem_append_right _ h))))) (by decide +kernel))
set_option maxHeartbeats 20000000 in
set_option maxRecDepth 20000 in
theorem gL_law_L_within : GoodIn wsL_law (va_wsS RL 204 yL_within wsL_within) := goodIn_app (goodIn_of _ (by decide +kernel)) ggL_law_L_within
set_option maxHeartbeats 20000000 in
set_option maxRecDepth 20000 in
theorem ggL_law_X12_within : GoodIn wsL_law wsX12_within := goodIn_ca (goodIn_r _ [536, 537, 122, 208, 209, 5, 210, 211, 212, 213, 222, 223, 224, 225, 226, 377, 378, 379, 1500, 1501, 1502, 1503, 1504] (by decide +kernel) (by decide +kernel)) (goodIn_sub (fun _ h => List.mem_append_left _ (List.mem_append_left _ (List.mem_append_left _ (List.mem_append_left _ (List.mem_append_left _ (List.mem_append_left _ (List.mem_append_left _ (List.mem_append_right _ h)))))))) (by decide +kernel))
set_option maxHeartbeats 20000000 in
set_option maxRecDepth 20000 in
theorem gL_law_X12_within : GoodIn wsL_law (wsV RL 206 RX12 yX12_within wsX12_within) := goodIn_app (goodIn_of _ (by decide +kernel)) ggL_law_X12_within
set_option maxHeartbeats 20000000 in
set_option maxRecDepth 20000 in
theorem ggL_law_L_cell : GoodIn wsL_law wsL_cell := goodIn_ca (goodIn_ca (goodIn_ca (goodIn_r _ [540, 317, 147, 541, 542, 543, 2, 544, 17, 322, 323, 324, 325, 326, 327, 328, 171, 172, 16, 173, 174, 175, 176, 447, 448, 449, 164, 165, 545, 546, 547, 548, 459, 365, 366, 367, 58, 368, 369, 189, 370, 59, 371, 259, 260, 60, 170, 521, 522, 523, 1490, 1491, 1492, 1493, 1494, 1495, 1496, 1497, 1498, 1499, 1505, 1506, 1507, 1508, 1509, 1510, 1511] (by decide +kernel) (by decide +kernel)) (goodIn_sub (fun _ h => List.mem_append_left _ (List.mem_append_left _ (List.mem_append_left _ (List.mem_append_left _ (List.mem_append_left _ (List.mem_append_left _ (List.mem_append_left _ (List.mem_append_right _ h)))))))) (by decide +kernel))) (goodIn_sub (fun _ h => List.mem_append_left _ (List.mem_append_left _ (List.mem_append_left _ (List.mem_append_right _ h)))) (by decide +kernel))) (goodIn_sub (fun _ h => List.mem_append_left _ (List.mem_append_left _ (List.mem_append_left _ (List.mem_append_left _ (List.mem_append_right _ h))))) (by decide +kernel))
set_option maxHeartbeats 20000000 in
set_option maxRecDepth 20000 in
theorem gL_law_L_cell : GoodIn wsL_law (va_wsS RL 207 yL_cell wsL_cell) := goodIn_app (goodIn_of _ (by decide +kernel)) ggL_law_L_cell
set_option maxHeartbeats 20000000 in
set_option maxRecDepth 20000 in
theorem ggL_law_X12_cell : GoodIn wsL_law wsX12_cell := goodIn_ca (goodIn_r _ [552, 122, 348, 349, 350, 5, 351, 352, 353, 354, 355, 356, 211, 212, 213, 222, 223, 224, 225, 226, 472, 473, 474, 479, 480, 481, 482, 369, 189, 370, 483, 259, 260, 377, 378, 379, 1500, 1501, 1502, 1503, 1504] (by decide +kernel) (by decide +kernel)) (goodIn_sub (fun _ h => List.mem_append_left _ (List.mem_append_left _ (List.mem_append_left _ (List.mem_append_left _ (List.mem_append_left _ (List.mem_append_left _ (List.mem_append_left _ (List.mem_append_right _ h)))))))) (by decide +kernel))
set_option maxHeartbeats 20000000 in
set_option maxRecDepth 20000 in
theorem gL_law_X12_cell : GoodIn wsL_law (wsV RL 210 RX12 yX12_cell wsX12_cell) := goodIn_app (goodIn_of _ (by decide +kernel)) ggL_law_X12_cell
set_option maxHeartbeats 20000000 in
set_option maxRecDepth 20000 in
theorem ggL_law_L_turn : GoodIn wsL_law wsL_turn := goodIn_ca (goodIn_ca (goodIn_r _ [555, 317, 556, 557, 558, 2, 559, 17, 322, 323, 324, 325, 326, 327, 328, 171, 172, 16, 173, 174, 175, 176, 560, 561, 562, 563, 564, 565, 566, 567, 58, 59, 568, 569, 1490, 1491, 1492, 1493, 1494, 1495, 1496, 1497, 1498, 1499, 1505, 1506, 1507, 1508, 1509, 1510, 1511] (by decide +kernel) (by decide +kernel)) (goodIn_sub (fun _ h => List.mem_append_left _ (List.mem_append_left _ (List.mem_append_left _ (List.mem_append_left _ (List.mem_append_left _ (List.mem_append_left _ (List.mem_append_left _ (List.mem_append_right _ h)))))))) (by decide +kernel))) (goodIn_sub (fun _ h => List.mem_append_left _ (List.mem_append_left _ (List.mem_append_left _ (List.mem_append_right _ h)))) (by decide +kernel))
set_option maxHeartbeats 20000000 in
set_option maxRecDepth 20000 in
theorem gL_law_L_turn : GoodIn wsL_law (va_wsS RL 211 yL_turn wsL_turn) := goodIn_app (goodIn_of _ (by decide +kernel)) ggL_law_L_turn
set_option maxHeartbeats 20000000 in
set_option maxRecDepth 20000 in
theorem ggL_law_X12_turn : GoodIn wsL_law wsX12_turn := goodIn_ca (goodIn_r _ [573, 574, 575, 576, 5, 577, 352, 353, 354, 355, 356, 122, 211, 212, 213, 222, 223, 224, 225, 226, 578, 579, 580, 581, 582, 583, 584, 585, 586, 587, 588, 1500, 1501, 1502, 1503, 1504] (by decide +kernel) (by decide +kernel)) (goodIn_sub (fun _ h => List.mem_append_left _ (List.mem_append_left _ (List.mem_append_left _ (List.mem_append_left _ (List.mem_append_left _ (List.mem_append_left _ (List.mem_append_left _ (List.mem_append_right _ h)))))))) (by decide +kernel))
set_option maxHeartbeats 20000000 in
set_option maxRecDepth 20000 in
theorem gL_law_X12_turn : GoodIn wsL_law (wsV RL 213 RX12 yX12_turn wsX12_turn) := goodIn_app (goodIn_of _ (by decide +kernel)) ggL_law_X12_turn
set_option maxHeartbeats 20000000 in
set_option maxRecDepth 20000 in
theorem ggL_law_L_inCircle : GoodIn wsL_law wsL_inCircle := goodIn_ca (goodIn_ca (goodIn_ca (goodIn_r _ [591, 317, 148, 592, 593, 594, 2, 595, 154, 155, 17, 322, 323, 324, 325, 326, 327, 328, 171, 172, 16, 173, 174, 175, 176, 560, 561, 562, 563, 564, 565, 566, 567, 58, 59, 568, 569, 596, 597, 598, 599, 600, 1490, 1491, 1492, 1493, 1494, 1495, 1496, 1497, 1498, 1499, 1505, 1506, 1507, 1508, 1509, 1510, 1511] (by decide +kernel) (by decide +kernel)) (goodIn_sub (fun _ h => List.mem_append_left _ (List.mem_append_left _ (List.mem_append_left _ (List.mem_append_left _ (List.mem_append_left _ (List.mem_append_left _ (List.mem_append_left _ (List.mem_append_right _ h)))))))) (by decide +kernel))) (goodIn_sub (fun _ h => List.mem_append_left _ (List.mem_append_left _ (List.mem_append_left _ (List.mem_append_left _ (List.mem_append_left _ (List.mem_append_left _ (List.mem_append_right _ h))))))) (by decide +kernel))) (goodIn_sub (fun _ h => List.mem_append_left _ (List.mem_append_left _ (List.mem_append_left _ (List.mem_append_right _ h)))) (by decide +kernel))
set_option maxHeartbeats 20000000 in
set_option maxRecDepth 20000 in
theorem gL_law_L_inCircle : GoodIn wsL_law (va_wsS RL 214 yL_inCircle wsL_inCircle) := goodIn_app (goodIn_of _ (by decide +kernel)) ggL_law_L_inCircle
set_option maxHeartbeats 20000000 in
set_option maxRecDepth 20000 in
theorem ggL_law_X12_inCircle : GoodIn wsL_law wsX12_inCircle := goodIn_ca (goodIn_r _ [604, 352, 353, 354, 5, 355, 356, 122, 211, 212, 213, 578, 579, 580, 581, 582, 583, 584, 585, 586, 587, 588, 222, 223, 224, 225, 226, 605, 606, 607, 608, 1500, 1501, 1502, 1503, 1504] (by decide +kernel) (by decide +kernel)) (goodIn_sub (fun _ h => List.mem_append_left _ (List.mem_append_left _ (List.mem_append_left _ (List.mem_append_left _ (List.mem_append_left _ (List.mem_append_left _ (List.mem_append_left _ (List.mem_append_right _ h)))))))) (by decide +kernel))
set_option maxHeartbeats 20000000 in
set_option maxRecDepth 20000 in
theorem gL_law_X12_inCircle : GoodIn wsL_law (wsV RL 217 RX12 yX12_inCircle wsX12_inCircle) := goodIn_app (goodIn_of _ (by decide +kernel)) ggL_law_X12_inCircle
set_option maxHeartbeats 20000000 in
set_option maxRecDepth 20000 in
theorem ggL_law_X11_countTriangles : GoodIn wsL_law wsX11_countTriangles := goodIn_ca (goodIn_r _ [612, 25, 17, 613, 614, 615, 616, 24, 617, 73, 618, 619, 72, 620, 171, 172, 16, 173, 174, 175, 2, 176, 621, 622, 623, 624, 71, 625, 626, 627, 628, 561, 562, 563, 564, 565, 566, 567, 58, 59, 568, 569, 629, 597, 598, 599, 600, 1490, 1491, 1492, 1493, 1494, 1495, 1496, 1497, 1498, 1499, 1515, 1516, 1517, 1518, 1505, 1506, 1507, 1508, 1509, 1510, 1511] (by decide +kernel) (by decide +kernel)) (goodIn_sub (fun _ h => List.mem_append_left _ (List.mem_append_left _ (List.mem_append_left _ (List.mem_append_left _ (List.mem_append_left _ (List.mem_append_left _ (List.mem_append_left _ (List.mem_append_right _ h)))))))) (by decide +kernel))
set_option maxHeartbeats 20000000 in
set_option maxRecDepth 20000 in
theorem gL_law_X11_countTriangles : GoodIn wsL_law (wsV RL 218 RX11 yX11_countTriangles wsX11_countTriangles) := goodIn_app (goodIn_of _ (by decide +kernel)) ggL_law_X11_countTriangles
set_option maxHeartbeats 20000000 in
set_option maxRecDepth 20000 in
theorem ggL_law_X12_countTriangles : GoodIn wsL_law wsX12_countTriangles := goodIn_ca (goodIn_r _ [633, 226, 352, 353, 354, 5, 355, 356, 122, 211, 212, 213, 634, 635, 636, 637, 638, 188, 189, 190, 578, 579, 580, 581, 582, 583, 584, 585, 586, 587, 588, 605, 606, 607, 608, 1500, 1501, 1502, 1503, 1504] (by decide +kernel) (by decide +kernel)) (goodIn_sub (fun _ h => List.mem_append_left _ (List.mem_append_left _ (List.mem_append_left _ (List.mem_append_left _ (List.mem_append_left _ (List.mem_append_left _ (List.mem_append_left _ (List.mem_append_right _ h)))))))) (by decide +kernel))
set_option maxHeartbeats 20000000 in
set_option maxRecDepth 20000 in
theorem gL_law_X12_countTriangles : GoodIn wsL_law (wsV RL 221 RX12 yX12_countTriangles wsX12_countTriangles) := goodIn_app (goodIn_of _ (by decide +kernel)) ggL_law_X12_countTriangles
set_option maxHeartbeats 20000000 in
set_option maxRecDepth 20000 in
theorem ggL_law_L_isTriangle : GoodIn wsL_law wsL_isTriangle := goodIn_ca (goodIn_ca (goodIn_r _ [641, 317, 642, 643, 644, 2, 645, 25, 17, 322, 323, 324, 325, 326, 327, 328, 171, 172, 16, 173, 174, 175, 176, 614, 615, 616, 24, 617, 73, 618, 619, 72, 620, 621, 622, 623, 624, 71, 625, 626, 627, 628, 561, 562, 563, 564, 565, 566, 567, 58, 59, 568, 569, 629, 597, 598, 599, 600, 646, 647, 648, 649, 1490, 1491, 1492, 1493, 1494, 1495, 1496, 1497, 1498, 1499, 1505, 1506, 1507, 1508, 1509, 1510, 1511, 1515, 1516, 1517, 1518] (by decide +kernel) (by decide +kernel)) (goodIn_sub (fun _ h => List.mem_append_left _ (List.mem_append_left _ (List.mem_append_left _ (List.mem_append_left _ (List.mem_append_left _ (List.mem_append_left _ (List.mem_append_left _ (List.mem_append_right _ h)))))))) (by decide +kernel))) (goodIn_sub (fun _ h => List.mem_append_left _ (List.mem_append_left _ (List.mem_append_left _ (List.mem_append_right _ h)))) (by decide +kernel))
set_option maxHeartbeats 20000000 in
set_option maxRecDepth 20000 in
theorem gL_law_L_isTriangle : GoodIn wsL_law (va_wsS RL 222 yL_isTriangle wsL_isTriangle) := goodIn_app (goodIn_of _ (by decide +kernel)) ggL_law_L_isTriangle
set_option maxHeartbeats 20000000 in
set_option maxRecDepth 20000 in
theorem ggL_law_X12_isTriangle : GoodIn wsL_law wsX12_isTriangle := goodIn_ca (goodIn_r _ [653, 574, 575, 576, 5, 577, 352, 353, 354, 355, 356, 122, 211, 212, 213, 222, 223, 224, 225, 226, 634, 635, 636, 637, 638, 188, 189, 190, 578, 579, 580, 581, 582, 583, 584, 585, 586, 587, 588, 605, 606, 607, 608, 1500, 1501, 1502, 1503, 1504] (by decide +kernel) (by decide +kernel)) (goodIn_sub (fun _ h => List.mem_append_left _ (List.mem_append_left _ (List.mem_append_left _ (List.mem_append_left _ (List.mem_append_left _ (List.mem_append_left _ (List.mem_append_left _ (List.mem_append_right _ h)))))))) (by decide +kernel))
set_option maxHeartbeats 20000000 in
set_option maxRecDepth 20000 in
theorem gL_law_X12_isTriangle : GoodIn wsL_law (wsV RL 224 RX12 yX12_isTriangle wsX12_isTriangle) := goodIn_app (goodIn_of _ (by decide +kernel)) ggL_law_X12_isTriangle
set_option maxHeartbeats 20000000 in
set_option maxRecDepth 20000 in
theorem ggL_law_L_areNeighbours : GoodIn wsL_law wsL_areNeighbours := goodIn_ca (goodIn_ca (goodIn_r _ [656, 317, 657, 658, 659, 2, 660, 25, 17, 322, 323, 324, 325, 326, 327, 328, 171, 172, 16, 173, 174, 175, 176, 614, 615, 616, 24, 617, 73, 618, 619, 72, 620, 621, 622, 623, 624, 71, 625, 626, 627, 628, 561, 562, 563, 564, 565, 566, 567, 58, 59, 568, 569, 629, 597, 598, 599, 600, 661, 662, 663, 664, 1490, 1491, 1492, 1493, 1494, 1495, 1496, 1497, 1498, 1499, 1505, 1506, 1507, 1508, 1509, 1510, 1511, 1515, 1516, 1517, 1518] (by decide +kernel) (by decide +kernel)) (goodIn_sub (fun _ h => List.mem_append_left _ (List.mem_append_left _ (List.mem_append_left _ (List.mem_append_left _ (List.mem_append_left _ (List.mem_append_left _ (List.mem_append_left _ (List.mem_append_right _ h)))))))) (by decide +kernel))) (goodIn_sub (fun _ h => List.mem_append_left _ (List.mem_append_left _ (List.mem_append_left _ (List.mem_append_right _ h)))) (by decide +kernel))
set_option maxHeartbeats 20000000 in
set_option maxRecDepth 20000 in
theorem gL_law_L_areNeighbours : GoodIn wsL_law (va_wsS RL 225 yL_areNeighbours wsL_areNeighbours) := goodIn_app (goodIn_of _ (by decide +kernel)) ggL_law_L_areNeighbours
set_option maxHeartbeats 20000000 in
set_option maxRecDepth 20000 in
theorem ggL_law_X12_areNeighbours : GoodIn wsL_law wsX12_areNeighbours := goodIn_ca (goodIn_r _ [668, 669, 670, 671, 5, 672, 352, 353, 354, 355, 356, 122, 211, 212, 213, 222, 223, 224, 225, 226, 673, 674, 675, 676, 634, 635, 636, 637, 638, 188, 189, 190, 578, 579, 580, 581, 582, 583, 584, 585, 586, 587, 588, 605, 606, 607, 608, 1500, 1501, 1502, 1503, 1504] (by decide +kernel) (by decide +kernel)) (goodIn_sub (fun _ h => List.mem_append_left _ (List.mem_append_left _ (List.mem_append_left _ (List.mem_append_left _ (List.mem_append_left _ (List.mem_append_left _ (List.mem_append_left _ (List.mem_append_right _ h)))))))) (by decide +kernel))
set_option maxHeartbeats 20000000 in
set_option maxRecDepth 20000 in
theorem gL_law_X12_areNeighbours : GoodIn wsL_law (wsV RL 227 RX12 yX12_areNeighbours wsX12_areNeighbours) := goodIn_app (goodIn_of _ (by decide +kernel)) ggL_law_X12_areNeighbours
set_option maxHeartbeats 20000000 in
set_option maxRecDepth 20000 in
theorem ggL_law_L_countNeighbours : GoodIn wsL_law wsL_countNeighbours := goodIn_ca (goodIn_ca (goodIn_r _ [679, 317, 680, 681, 682, 2, 683, 25, 17, 684, 322, 323, 324, 325, 326, 327, 328, 171, 172, 16, 173, 174, 175, 176, 614, 615, 616, 24, 617, 73, 618, 619, 72, 620, 621, 622, 623, 624, 71, 625, 626, 627, 628, 561, 562, 563, 564, 565, 566, 567, 58, 59, 568, 569, 629, 597, 598, 599, 600, 685, 338, 339, 340, 341, 342, 343, 1490, 1491, 1492, 1493, 1494, 1495, 1496, 1497, 1498, 1499, 1515, 1516, 1517, 1518, 1505, 1506, 1507, 1508, 1509, 1510, 1511] (by decide +kernel) (by decide +kernel)) (goodIn_sub (fun _ h => List.mem_append_left _ (List.mem_append_left _ (List.mem_append_left _ (List.mem_append_left _ (List.mem_append_left _ (List.mem_append_left _ (List.mem_append_left _ (List.mem_append_right _ h)))))))) (by decide +kernel))) (goodIn_sub (fun _ h => List.mem_append_left _ (List.mem_append_left _ (List.mem_append_left _ (List.mem_append_right _ h)))) (by decide +kernel))
set_option maxHeartbeats 20000000 in
set_option maxRecDepth 20000 in
theorem gL_law_L_countNeighbours : GoodIn wsL_law (va_wsS RL 228 yL_countNeighbours wsL_countNeighbours) := goodIn_app (goodIn_of _ (by decide +kernel)) ggL_law_L_countNeighbours
set_option maxHeartbeats 20000000 in
set_option maxRecDepth 20000 in
theorem ggL_law_X12_countNeighbours : GoodIn wsL_law wsX12_countNeighbours := goodIn_ca (goodIn_r _ [689, 348, 349, 350, 5, 351, 352, 353, 354, 355, 356, 122, 211, 212, 213, 222, 223, 224, 225, 226, 690, 691, 692, 693, 673, 674, 675, 676, 634, 635, 636, 637, 638, 188, 189, 190, 578, 579, 580, 581, 582, 583, 584, 585, 586, 587, 588, 605, 606, 607, 608, 1500, 1501, 1502, 1503, 1504] (by decide +kernel) (by decide +kernel)) (goodIn_sub (fun _ h => List.mem_append_left _ (List.mem_append_left _ (List.mem_append_left _ (List.mem_append_left _ (List.mem_append_left _ (List.mem_append_left _ (List.mem_append_left _ (List.mem_append_right _ h)))))))) (by decide +kernel))
set_option maxHeartbeats 20000000 in
set_option maxRecDepth 20000 in
theorem gL_law_X12_countNeighbours : GoodIn wsL_law (wsV RL 230 RX12 yX12_countNeighbours wsX12_countNeighbours) := goodIn_app (goodIn_of _ (by decide +kernel)) ggL_law_X12_countNeighbours
set_option maxHeartbeats 20000000 in
set_option maxRecDepth 20000 in
theorem ggL_law_L_isJoined : GoodIn wsL_law wsL_isJoined := goodIn_ca (goodIn_ca (goodIn_ca (goodIn_r _ [696, 317, 147, 697, 698, 699, 2, 700, 164, 165, 29, 17, 322, 323, 324, 325, 326, 327, 328, 171, 172, 16, 173, 174, 175, 176, 701, 702, 703, 704, 705, 706, 28, 707, 82, 708, 80, 709, 81, 710, 711, 712, 79, 713, 86, 714, 715, 716, 334, 335, 336, 337, 338, 339, 340, 341, 342, 343, 717, 718, 719, 720, 721, 722, 723, 724, 725, 726, 727, 728, 729, 730, 58, 59, 731, 732, 733, 734, 735, 188, 189, 190, 736, 259, 260, 737, 738, 739, 740, 741, 742, 743, 744, 745, 746, 1490, 1491, 1492, 1493, 1494, 1495, 1496, 1497, 1498, 1499, 1505, 1506, 1507, 1508, 1509, 1510, 1511, 1519, 1520, 1521, 1522, 1539, 1540] (by decide +kernel) (by decide +kernel)) (goodIn_sub (fun _ h => List.mem_append_left _ (List.mem_append_left _ (List.mem_append_left _ (List.mem_append_left _ (List.mem_append_left _ (List.mem_append_left _ (List.mem_append_left _ (List.mem_append_right _ h)))))))) (by decide +kernel))) (goodIn_sub (fun _ h => List.mem_append_left _ (List.mem_append_left _ (List.mem_append_left _ (List.mem_append_left _ (List.mem_append_right _ h))))) (by decide +kernel))) (goodIn_sub (fun _ h => List.mem_append_left _ (List.mem_append_left _ (List.mem_append_left _ (List.mem_append_right _ h)))) (by decide +kernel))
set_option maxHeartbeats 20000000 in
set_option maxRecDepth 20000 in
theorem gL_law_L_isJoined : GoodIn wsL_law (va_wsS RL 231 yL_isJoined wsL_isJoined) := goodIn_app (goodIn_of _ (by decide +kernel)) ggL_law_L_isJoined
set_option maxHeartbeats 20000000 in
set_option maxRecDepth 20000 in
theorem ggL_law_X12_isJoined : GoodIn wsL_law wsX12_isJoined := goodIn_ca (goodIn_r _ [750, 669, 670, 671, 5, 672, 352, 353, 354, 355, 356, 122, 211, 212, 213, 222, 223, 224, 225, 226, 751, 752, 753, 754, 755, 756, 757, 758, 759, 57, 218, 219, 220, 221, 760, 761, 762, 763, 377, 378, 379, 764, 765, 766, 767, 768, 769, 189, 770, 771, 772, 773, 774, 1500, 1501, 1502, 1503, 1504] (by decide +kernel) (by decide +kernel)) (goodIn_sub (fun _ h => List.mem_append_left _ (List.mem_append_left _ (List.mem_append_left _ (List.mem_append_left _ (List.mem_append_left _ (List.mem_append_left _ (List.mem_append_left _ (List.mem_append_right _ h)))))))) (by decide +kernel))
set_option maxHeartbeats 20000000 in
set_option maxRecDepth 20000 in
theorem gL_law_X12_isJoined : GoodIn wsL_law (wsV RL 233 RX12 yX12_isJoined wsX12_isJoined) := goodIn_app (goodIn_of _ (by decide +kernel)) ggL_law_X12_isJoined
set_option maxHeartbeats 20000000 in
set_option maxRecDepth 20000 in
theorem ggL_law_L_countJoined : GoodIn wsL_law wsL_countJoined := goodIn_ca (goodIn_ca (goodIn_r _ [777, 147, 778, 779, 780, 2, 781, 29, 17, 701, 702, 703, 164, 165, 704, 705, 706, 28, 707, 82, 708, 80, 709, 81, 710, 711, 712, 79, 713, 86, 714, 715, 171, 172, 16, 173, 174, 175, 176, 716, 334, 335, 336, 337, 338, 339, 340, 341, 342, 343, 717, 718, 719, 720, 721, 722, 723, 724, 725, 726, 727, 728, 729, 730, 58, 59, 731, 732, 733, 734, 735, 188, 189, 190, 736, 259, 260, 782, 783, 784, 785, 786, 738, 739, 740, 741, 742, 743, 744, 745, 746, 1490, 1491, 1492, 1493, 1494, 1495, 1496, 1497, 1498, 1499, 1519, 1520, 1521, 1522, 1505, 1506, 1507, 1508, 1509, 1510, 1511, 1539, 1540] (by decide +kernel) (by decide +kernel)) (goodIn_sub (fun _ h => List.mem_append_left _ (List.mem_append_left _ (List.mem_append_left _ (List.mem_append_left _ (List.mem_append_left _ (List.mem_append_left _ (List.mem_append_left _ (List.mem_append_right _ h)))))))) (by decide +kernel))) (goodIn_sub (fun _ h => List.mem_append_left _ (List.mem_append_left _ (List.mem_append_left _ (List.mem_append_left _ (List.mem_append_right _ h))))) (by decide +kernel))
set_option maxHeartbeats 20000000 in
set_option maxRecDepth 20000 in
theorem gL_law_L_countJoined : GoodIn wsL_law (va_wsS RL 234 yL_countJoined wsL_countJoined) := goodIn_app (goodIn_of _ (by decide +kernel)) ggL_law_L_countJoined
set_option maxHeartbeats 20000000 in
set_option maxRecDepth 20000 in
theorem ggL_law_X12_countJoined : GoodIn wsL_law wsX12_countJoined := goodIn_ca (goodIn_r _ [790, 751, 752, 5, 753, 222, 223, 224, 225, 226, 754, 755, 756, 757, 758, 759, 57, 122, 218, 219, 220, 221, 760, 761, 762, 763, 377, 378, 379, 352, 353, 354, 355, 356, 211, 212, 213, 764, 765, 766, 767, 768, 769, 189, 770, 771, 772, 773, 774, 1500, 1501, 1502, 1503, 1504] (by decide +kernel) (by decide +kernel)) (goodIn_sub (fun _ h => List.mem_append_left _ (List.mem_append_left _ (List.mem_append_left _ (List.mem_append_left _ (List.mem_append_left _ (List.mem_append_left _ (List.mem_append_left _ (List.mem_append_right _ h)))))))) (by decide +kernel))
set_option maxHeartbeats 20000000 in
set_option maxRecDepth 20000 in
theorem gL_law_X12_countJoined : GoodIn wsL_law (wsV RL 237 RX12 yX12_countJoined wsX12_countJoined) := goodIn_app (goodIn_of _ (by decide +kernel)) ggL_law_X12_countJoined
set_option maxHeartbeats 20000000 in
set_option maxRecDepth 20000 in
theorem ggL_law_X11_treeSum : GoodIn wsL_law wsX11_treeSum := goodIn_ca (goodIn_r _ [794, 29, 17, 795, 704, 705, 706, 28, 707, 82, 708, 80, 709, 81, 710, 711, 712, 79, 713, 86, 714, 715, 171, 172, 16, 173, 174, 175, 2, 176, 716, 334, 335, 336, 337, 338, 339, 340, 341, 342, 343, 717, 718, 719, 720, 721, 722, 723, 724, 725, 726, 727, 728, 729, 730, 58, 59, 731, 732, 733, 734, 735, 188, 189, 190, 736, 259, 260, 1490, 1491, 1492, 1493, 1494, 1495, 1496, 1497, 1498, 1499, 1519, 1520, 1521, 1522, 1505, 1506, 1507, 1508, 1509, 1510, 1511, 1539, 1540] (by decide +kernel) (by decide +kernel)) (goodIn_sub (fun _ h => List.mem_append_left _ (List.mem_append_left _ (List.mem_append_left _ (List.mem_append_left _ (List.mem_append_left _ (List.mem_append_left _ (List.mem_append_left _ (List.mem_append_right _ h)))))))) (by decide +kernel))
set_option maxHeartbeats 20000000 in
set_option maxRecDepth 20000 in
theorem gL_law_X11_treeSum : GoodIn wsL_law (wsV RL 238 RX11 yX11_treeSum wsX11_treeSum) := goodIn_app (goodIn_of _ (by decide +kernel)) ggL_law_X11_treeSum
set_option maxHeartbeats 20000000 in
set_option maxRecDepth 20000 in
theorem ggL_law_X12_treeSum : GoodIn wsL_law wsX12_treeSum := goodIn_ca (goodIn_r _ [799, 226, 754, 755, 756, 5, 757, 758, 759, 57, 122, 218, 219, 220, 221, 760, 761, 762, 763, 377, 378, 379, 1500, 1501, 1502, 1503, 1504] (by decide +kernel) (by decide +kernel)) (goodIn_sub (fun _ h => List.mem_append_left _ (List.mem_append_left _ (List.mem_append_left _ (List.mem_append_left _ (List.mem_append_left _ (List.mem_append_left _ (List.mem_append_left _ (List.mem_append_right _ h)))))))) (by decide +kernel))
set_option maxHeartbeats 20000000 in
set_option maxRecDepth 20000 in
theorem gL_law_X12_treeSum : GoodIn wsL_law (wsV RL 241 RX12 yX12_treeSum wsX12_treeSum) := goodIn_app (goodIn_of _ (by decide +kernel)) ggL_law_X12_treeSum
set_option maxHeartbeats 20000000 in
set_option maxRecDepth 20000 in
theorem yggL_law_L_steps : GoodIn wsL_law zsL_steps := goodIn_ca (goodIn_ca (goodIn_ca (goodIn_r _ [802, 317, 404, 803, 804, 805, 2, 806, 409, 410, 25, 17, 322, 323, 324, 325, 326, 327, 328, 171, 172, 16, 173, 174, 175, 176, 614, 615, 616, 24, 617, 73, 618, 619, 72, 620, 621, 622, 623, 624, 71, 625, 626, 627, 628, 561, 562, 563, 564, 565, 566, 567, 58, 59, 568, 569, 629, 597, 598, 599, 600, 807, 808, 809, 810, 811, 812, 813, 814, 1490, 1491, 1492, 1493, 1494, 1495, 1496, 1497, 1498, 1499, 1505, 1506, 1507, 1508, 1509, 1510, 1511, 1515, 1516, 1517, 1518] (by decide +kernel) (by decide +kernel)) (goodIn_sub (fun _ h => List.mem_append_left _ (List.mem_append_left _ (List.mem_append_left _ (List.mem_append_left _ (List.mem_append_left _ (List.mem_append_left _ (List.mem_append_left _ (List.mem_append_right _ h)))))))) (by decide +kernel))) (goodIn_sub (fun _ h => List.mem_append_left _ (List.mem_append_left _ (List.mem_append_right _ h))) (by decide +kernel))) (goodIn_sub (fun _ h => List.mem_append_left _ (List.mem_append_left _ (List.mem_append_left _ (List.mem_append_right _ h)))) (by decide +kernel))
set_option maxHeartbeats 20000000 in
set_option maxRecDepth 20000 in
theorem ygL_law_L_steps : GoodIn wsL_law (va_wsS RL 242 yL_steps zsL_steps) := goodIn_app (goodIn_of _ (by decide +kernel)) yggL_law_L_steps
set_option maxHeartbeats 20000000 in
set_option maxRecDepth 20000 in
theorem ggL_law_X12_steps : GoodIn wsL_law wsX12_steps := goodIn_ca (goodIn_r _ [818, 669, 670, 671, 5, 672, 352, 353, 354, 355, 356, 122, 211, 212, 213, 222, 223, 224, 225, 226, 819, 820, 821, 822, 758, 759, 673, 674, 675, 676, 634, 635, 636, 637, 638, 188, 189, 190, 578, 579, 580, 581, 582, 583, 584, 585, 586, 587, 588, 605, 606, 607, 608, 1500, 1501, 1502, 1503, 1504] (by decide +kernel) (by decide +kernel)) (goodIn_sub (fun _ h => List.mem_append_left _ (List.mem_append_left _ (List.mem_append_left _ (List.mem_append_left _ (List.mem_append_left _ (List.mem_append_left _ (List.mem_append_left _ (List.mem_append_right _ h)))))))) (by decide +kernel))
set_option maxHeartbeats 20000000 in
set_option maxRecDepth 20000 in
theorem gL_law_X12_steps : GoodIn wsL_law (wsV RL 244 RX12 yX12_steps wsX12_steps) := goodIn_app (goodIn_of _ (by decide +kernel)) ggL_law_X12_steps
set_option maxHeartbeats 20000000 in
set_option maxRecDepth 20000 in
theorem ggL_law_X11_countHull : GoodIn wsL_law wsX11_countHull := goodIn_ca (goodIn_r _ [826, 33, 17, 827, 828, 829, 830, 32, 831, 832, 90, 833, 834, 835, 836, 171, 172, 16, 173, 174, 175, 2, 176, 837, 838, 839, 840, 841, 842, 843, 844, 845, 561, 562, 563, 564, 565, 566, 567, 58, 59, 568, 569, 846, 728, 729, 730, 1490, 1491, 1492, 1493, 1494, 1495, 1496, 1497, 1498, 1499, 1523, 1524, 1505, 1506, 1507, 1508, 1509, 1510, 1511] (by decide +kernel) (by decide +kernel)) (goodIn_sub (fun _ h => List.mem_append_left _ (List.mem_append_left _ (List.mem_append_left _ (List.mem_append_left _ (List.mem_append_left _ (List.mem_append_left _ (List.mem_append_left _ (List.mem_append_right _ h)))))))) (by decide +kernel))
set_option maxHeartbeats 20000000 in
set_option maxRecDepth 20000 in
theorem gL_law_X11_countHull : GoodIn wsL_law (wsV RL 245 RX11 yX11_countHull wsX11_countHull) := goodIn_app (goodIn_of _ (by decide +kernel)) ggL_law_X11_countHull
set_option maxHeartbeats 20000000 in
set_option maxRecDepth 20000 in
theorem ggL_law_X12_countHull : GoodIn wsL_law wsX12_countHull := goodIn_ca (goodIn_r _ [850, 226, 851, 852, 853, 5, 854, 122, 855, 856, 857, 858, 123, 124, 125, 128, 129, 130, 131, 132, 133, 134, 135, 136, 137, 138, 139, 140, 141, 142, 12, 13, 859, 860, 861, 862, 436, 437, 438, 439, 245, 863, 864, 339, 865, 866, 867, 868, 869, 870, 871, 872, 873, 874, 875, 876, 877, 878, 239, 240, 241, 242, 243, 244, 246, 247, 248, 249, 250, 251, 252, 253, 254, 255, 256, 257, 258, 259, 189, 260, 261, 262, 263, 264, 265, 266, 267, 268, 269, 270, 271, 272, 273, 274, 275, 276, 277, 278, 279, 280, 281, 282, 283, 284, 188, 190, 285, 286, 287, 288, 578, 579, 580, 581, 582, 583, 584, 585, 586, 587, 588, 760, 761, 762, 763, 377, 378, 379, 289, 290, 291, 292, 1500, 1501, 1502, 1503, 1504, 1541, 1542, 1543, 1544] (by decide +kernel) (by decide +kernel)) (goodIn_sub (fun _ h => List.mem_append_left _ (List.mem_append_left _ (List.mem_append_left _ (List.mem_append_left _ (List.mem_append_left _ (List.mem_append_left _ (List.mem_append_left _ (List.mem_append_right _ h)))))))) (by decide +kernel))
set_option maxHeartbeats 20000000 in
set_option maxRecDepth 20000 in
theorem gL_law_X12_countHull : GoodIn wsL_law (wsV RL 248 RX12 yX12_countHull wsX12_countHull) := goodIn_app (goodIn_of _ (by decide +kernel)) ggL_law_X12_countHull
set_option maxHeartbeats 20000000 in
set_option maxRecDepth 20000 in
theorem yggL_law_L_hullAt : GoodIn wsL_law zsL_hullAt := goodIn_ca (goodIn_ca (goodIn_r _ [881, 404, 882, 883, 884, 2, 885, 409, 410, 33, 17, 827, 886, 828, 829, 830, 32, 831, 832, 90, 833, 834, 835, 836, 171, 172, 16, 173, 174, 175, 176, 837, 838, 839, 840, 841, 842, 843, 844, 845, 561, 562, 563, 564, 565, 566, 567, 58, 59, 568, 569, 846, 728, 729, 730, 1490, 1491, 1492, 1493, 1494, 1495, 1496, 1497, 1498, 1499, 1523, 1524, 1505, 1506, 1507, 1508, 1509, 1510, 1511] (by decide +kernel) (by decide +kernel)) (goodIn_sub (fun _ h => List.mem_append_left _ (List.mem_append_left _ (List.mem_append_left _ (List.mem_append_left _ (List.mem_append_left _ (List.mem_append_left _ (List.mem_append_left _ (List.mem_append_right _ h)))))))) (by decide +kernel))) (goodIn_sub (fun _ h => List.mem_append_left _ (List.mem_append_left _ (List.mem_append_right _ h))) (by decide +kernel))
set_option maxHeartbeats 20000000 in
set_option maxRecDepth 20000 in
theorem ygL_law_L_hullAt : GoodIn wsL_law (va_wsS RL 249 yL_hullAt zsL_hullAt) := goodIn_app (goodIn_of _ (by decide +kernel)) yggL_law_L_hullAt
set_option maxHeartbeats 20000000 in
set_option maxRecDepth 20000 in
theorem ggL_law_X12_hullAt : GoodIn wsL_law wsX12_hullAt := goodIn_ca (goodIn_r _ [890, 891, 851, 852, 853, 5, 854, 122, 855, 856, 857, 858, 123, 124, 125, 128, 129, 130, 131, 132, 133, 134, 135, 136, 137, 138, 139, 140, 141, 142, 12, 13, 859, 860, 861, 862, 436, 437, 438, 439, 245, 863, 864, 339, 865, 866, 867, 868, 869, 870, 871, 872, 873, 874, 875, 876, 877, 878, 239, 240, 241, 242, 243, 244, 246, 247, 248, 249, 250, 251, 252, 253, 254, 255, 256, 257, 258, 259, 189, 260, 261, 262, 263, 264, 265, 266, 267, 268, 269, 270, 271, 272, 273, 274, 275, 276, 277, 278, 279, 280, 281, 282, 283, 284, 188, 190, 285, 286, 287, 288, 578, 579, 580, 581, 582, 583, 584, 585, 586, 587, 588, 760, 761, 762, 763, 377, 378, 379, 289, 290, 291, 292, 211, 212, 213, 222, 223, 224, 225, 226, 892, 893, 894, 895, 297, 298, 299, 300, 301, 302, 303, 304, 896, 897, 898, 899, 900, 901, 902, 903, 1500, 1501, 1502, 1503, 1504, 1541, 1542, 1543, 1544] (by decide +kernel) (by decide +kernel)) (goodIn_sub (fun _ h => List.mem_append_left _ (List.mem_append_left _ (List.mem_append_left _ (List.mem_append_left _ (List.mem_append_left _ (List.mem_append_left _ (List.mem_append_left _ (List.mem_append_right _ h)))))))) (by decide +kernel))
set_option maxHeartbeats 20000000 in
set_option maxRecDepth 20000 in
theorem gL_law_X12_hullAt : GoodIn wsL_law (wsV RL 251 RX12 yX12_hullAt wsX12_hullAt) := goodIn_app (goodIn_of _ (by decide +kernel)) ggL_law_X12_hullAt
set_option maxHeartbeats 20000000 in
set_option maxRecDepth 20000 in
theorem ggL_law_X11_hullArea : GoodIn wsL_law wsX11_hullArea := goodIn_ca (goodIn_r _ [907, 33, 17, 828, 829, 830, 32, 831, 832, 90, 833, 834, 835, 836, 171, 172, 16, 173, 174, 175, 2, 176, 837, 838, 839, 840, 841, 842, 843, 844, 845, 561, 562, 563, 564, 565, 566, 567, 58, 59, 568, 569, 846, 728, 729, 730, 908, 909, 910, 911, 912, 1490, 1491, 1492, 1493, 1494, 1495, 1496, 1497, 1498, 1499, 1523, 1524, 1505, 1506, 1507, 1508, 1509, 1510, 1511] (by decide +kernel) (by decide +kernel)) (goodIn_sub (fun _ h => List.mem_append_left _ (List.mem_append_left _ (List.mem_append_left _ (List.mem_append_left _ (List.mem_append_left _ (List.mem_append_left _ (List.mem_append_left _ (List.mem_append_right _ h)))))))) (by decide +kernel))
set_option maxHeartbeats 20000000 in
set_option maxRecDepth 20000 in
theorem gL_law_X11_hullArea : GoodIn wsL_law (wsV RL 252 RX11 yX11_hullArea wsX11_hullArea) := goodIn_app (goodIn_of _ (by decide +kernel)) ggL_law_X11_hullArea
set_option maxHeartbeats 20000000 in
set_option maxRecDepth 20000 in
theorem ggL_law_X12_hullArea : GoodIn wsL_law wsX12_hullArea := goodIn_ca (goodIn_r _ [916, 226, 122, 891, 851, 852, 853, 5, 854, 855, 856, 857, 858, 123, 124, 125, 128, 129, 130, 131, 132, 133, 134, 135, 136, 137, 138, 139, 140, 141, 142, 12, 13, 859, 860, 861, 862, 436, 437, 438, 439, 245, 863, 864, 339, 865, 866, 867, 868, 869, 870, 871, 872, 873, 874, 875, 876, 877, 878, 239, 240, 241, 242, 243, 244, 246, 247, 248, 249, 250, 251, 252, 253, 254, 255, 256, 257, 258, 259, 189, 260, 261, 262, 263, 264, 265, 266, 267, 268, 269, 270, 271, 272, 273, 274, 275, 276, 277, 278, 279, 280, 281, 282, 283, 284, 188, 190, 285, 286, 287, 288, 578, 579, 580, 581, 582, 583, 584, 585, 586, 587, 588, 760, 761, 762, 763, 377, 378, 379, 289, 290, 291, 292, 892, 893, 894, 895, 297, 298, 299, 300, 301, 302, 303, 304, 896, 897, 898, 899, 900, 901, 902, 903, 1500, 1501, 1502, 1503, 1504, 1541, 1542, 1543, 1544] (by decide +kernel) (by decide +kernel)) (goodIn_sub (fun _ h => List.mem_append_left _ (List.mem_append_left _ (List.mem_append_left _ (List.mem_append_left _ (List.mem_append_left _ (List.mem_append_left _ (List.mem_append_left _ (List.mem_append_right _ h)))))))) (by decide +kernel))
set_option maxHeartbeats 20000000 in
set_option maxRecDepth 20000 in
theorem gL_law_X12_hullArea : GoodIn wsL_law (wsV RL 255 RX12 yX12_hullArea wsX12_hullArea) := goodIn_app (goodIn_of _ (by decide +kernel)) ggL_law_X12_hullArea
set_option maxHeartbeats 20000000 in
set_option maxRecDepth 20000 in
theorem ggL_law_L_layer : GoodIn wsL_law wsL_layer := goodIn_ca (goodIn_ca (goodIn_r _ [919, 317, 920, 921, 922, 2, 923, 33, 17, 322, 323, 324, 325, 326, 327, 328, 171, 172, 16, 173, 174, 175, 176, 924, 925, 926, 32, 927, 928, 929, 930, 931, 932, 933, 934, 935, 936, 937, 938, 939, 940, 845, 561, 562, 563, 564, 565, 566, 567, 58, 59, 568, 569, 1490, 1491, 1492, 1493, 1494, 1495, 1496, 1497, 1498, 1499, 1505, 1506, 1507, 1508, 1509, 1510, 1511] (by decide +kernel) (by decide +kernel)) (goodIn_sub (fun _ h => List.mem_append_left _ (List.mem_append_left _ (List.mem_append_left _ (List.mem_append_left _ (List.mem_append_left _ (List.mem_append_left _ (List.mem_append_left _ (List.mem_append_right _ h)))))))) (by decide +kernel))) (goodIn_sub (fun _ h => List.mem_append_left _ (List.mem_append_left _ (List.mem_append_left _ (List.mem_append_right _ h)))) (by decide +kernel))
set_option maxHeartbeats 20000000 in
set_option maxRecDepth 20000 in
theorem gL_law_L_layer : GoodIn wsL_law (va_wsS RL 256 yL_layer wsL_layer) := goodIn_app (goodIn_of _ (by decide +kernel)) ggL_law_L_layer
set_option maxHeartbeats 20000000 in
set_option maxRecDepth 20000 in
theorem ggL_law_X12_layer : GoodIn wsL_law wsX12_layer := goodIn_ca (goodIn_ca (goodIn_r _ [944, 348, 349, 350, 5, 351, 352, 353, 354, 355, 356, 122, 211, 212, 213, 222, 223, 224, 225, 226, 851, 852, 853, 854, 855, 856, 857, 858, 123, 124, 125, 128, 129, 130, 131, 132, 133, 134, 135, 136, 137, 138, 139, 140, 141, 142, 12, 13, 859, 860, 861, 862, 436, 437, 438, 439, 245, 863, 864, 339, 865, 866, 867, 868, 869, 870, 871, 872, 873, 874, 875, 876, 877, 878, 239, 240, 241, 242, 243, 244, 246, 247, 248, 249, 250, 251, 252, 253, 254, 255, 256, 257, 258, 259, 189, 260, 261, 262, 263, 264, 265, 266, 267, 268, 269, 270, 271, 272, 273, 274, 275, 276, 277, 278, 279, 280, 281, 282, 283, 284, 188, 190, 285, 286, 287, 288, 578, 579, 580, 581, 582, 583, 584, 585, 586, 587, 588, 760, 761, 762, 763, 377, 378, 379, 945, 946, 947, 948, 891, 289, 290, 291, 292, 892, 893, 894, 895, 297, 298, 299, 300, 301, 302, 303, 304, 896, 897, 898, 899, 900, 901, 902, 903, 1500, 1501, 1502, 1503, 1504, 1541, 1542, 1543, 1544] (by decide +kernel) (by decide +kernel)) (goodIn_sub (fun _ h => List.mem_append_left _ (List.mem_append_left _ (List.mem_append_left _ (List.mem_append_left _ (List.mem_append_left _ (List.mem_append_left _ (List.mem_append_left _ (List.mem_append_right _ h)))))))) (by decide +kernel))) (goodIn_sub (fun _ h => List.mem_append_left _ (List.mem_append_right _ h)) (by decide +kernel))
set_option maxHeartbeats 20000000 in
set_option maxRecDepth 20000 in
theorem gL_law_X12_layer : GoodIn wsL_law (wsV RL 258 RX12 yX12_layer wsX12_layer) := goodIn_app (goodIn_of _ (by decide +kernel)) ggL_law_X12_layer
set_option maxHeartbeats 20000000 in
set_option maxRecDepth 20000 in
theorem ggL_law_L_depth : GoodIn wsL_law wsL_depth := goodIn_ca (goodIn_ca (goodIn_r _ [951, 317, 952, 953, 954, 2, 955, 33, 17, 322, 323, 324, 325, 326, 327, 328, 171, 172, 16, 173, 174, 175, 176, 956, 957, 958, 32, 959, 928, 960, 188, 189, 190, 961, 334, 335, 336, 337, 338, 339, 340, 341, 342, 343, 836, 938, 939, 940, 845, 561, 562, 563, 564, 565, 566, 567, 58, 59, 568, 569, 962, 963, 964, 841, 840, 1490, 1491, 1492, 1493, 1494, 1495, 1496, 1497, 1498, 1499, 1505, 1506, 1507, 1508, 1509, 1510, 1511] (by decide +kernel) (by decide +kernel)) (goodIn_sub (fun _ h => List.mem_append_left _ (List.mem_append_left _ (List.mem_append_left _ (List.mem_append_left _ (List.mem_append_left _ (List.mem_append_left _ (List.mem_append_left _ (List.mem_append_right _ h)))))))) (by decide +kernel))) (goodIn_sub (fun _ h => List.mem_append_left _ (List.mem_append_left _ (List.mem_append_left _ (List.mem_append_right _ h)))) (by decide +kernel))
set_option maxHeartbeats 20000000 in
set_option maxRecDepth 20000 in
theorem gL_law_L_depth : GoodIn wsL_law (va_wsS RL 259 yL_depth wsL_depth) := goodIn_app (goodIn_of _ (by decide +kernel)) ggL_law_L_depth
set_option maxHeartbeats 20000000 in
set_option maxRecDepth 20000 in
theorem ggL_law_X12_depth : GoodIn wsL_law wsX12_depth := goodIn_ca (goodIn_r _ [968, 122, 638, 188, 189, 190, 348, 349, 350, 5, 351, 352, 353, 354, 355, 356, 211, 212, 213, 222, 223, 224, 225, 226, 218, 219, 220, 221, 578, 579, 580, 581, 582, 583, 584, 585, 586, 587, 588, 1500, 1501, 1502, 1503, 1504] (by decide +kernel) (by decide +kernel)) (goodIn_sub (fun _ h => List.mem_append_left _ (List.mem_append_left _ (List.mem_append_left _ (List.mem_append_left _ (List.mem_append_left _ (List.mem_append_left _ (List.mem_append_left _ (List.mem_append_right _ h)))))))) (by decide +kernel))
set_option maxHeartbeats 20000000 in
set_option maxRecDepth 20000 in
theorem gL_law_X12_depth : GoodIn wsL_law (wsV RL 261 RX12 yX12_depth wsX12_depth) := goodIn_app (goodIn_of _ (by decide +kernel)) ggL_law_X12_depth
set_option maxHeartbeats 20000000 in
set_option maxRecDepth 20000 in
theorem ggL_law_L_countParts : GoodIn wsL_law wsL_countParts := goodIn_ca (goodIn_ca (goodIn_r _ [971, 147, 972, 973, 974, 2, 975, 976, 25, 17, 37, 977, 978, 161, 162, 163, 164, 165, 614, 615, 616, 24, 617, 73, 618, 619, 72, 620, 171, 172, 16, 173, 174, 175, 176, 621, 622, 623, 624, 71, 625, 626, 627, 628, 561, 562, 563, 564, 565, 566, 567, 58, 59, 568, 569, 629, 597, 598, 599, 600, 979, 980, 981, 36, 982, 95, 983, 984, 985, 986, 711, 712, 79, 713, 86, 714, 715, 716, 334, 335, 336, 337, 338, 339, 340, 341, 342, 343, 987, 662, 663, 664, 988, 728, 729, 730, 989, 732, 733, 734, 735, 188, 189, 190, 736, 259, 260, 990, 991, 992, 993, 994, 995, 1490, 1491, 1492, 1493, 1494, 1495, 1496, 1497, 1498, 1499, 1525, 1526, 1527, 1539, 1540, 1515, 1516, 1517, 1518, 1505, 1506, 1507, 1508, 1509, 1510, 1511] (by decide +kernel) (by decide +kernel)) (goodIn_sub (fun _ h => List.mem_append_left _ (List.mem_append_left _ (List.mem_append_left _ (List.mem_append_left _ (List.mem_append_left _ (List.mem_append_left _ (List.mem_append_left _ (List.mem_append_right _ h)))))))) (by decide +kernel))) (goodIn_sub (fun _ h => List.mem_append_left _ (List.mem_append_left _ (List.mem_append_left _ (List.mem_append_left _ (List.mem_append_right _ h))))) (by decide +kernel))
set_option maxHeartbeats 20000000 in
set_option maxRecDepth 20000 in
theorem gL_law_L_countParts : GoodIn wsL_law (va_wsS RL 262 yL_countParts wsL_countParts) := goodIn_app (goodIn_of _ (by decide +kernel)) ggL_law_L_countParts
set_option maxHeartbeats 20000000 in
set_option maxRecDepth 20000 in
theorem ggL_law_X12_countParts : GoodIn wsL_law wsX12_countParts := goodIn_ca (goodIn_r _ [999, 1000, 211, 212, 5, 213, 222, 223, 224, 225, 226, 1001, 1002, 1003, 1004, 1005, 819, 820, 821, 822, 758, 759, 673, 674, 675, 676, 352, 353, 354, 355, 356, 122, 634, 635, 636, 637, 638, 188, 189, 190, 578, 579, 580, 581, 582, 583, 584, 585, 586, 587, 588, 605, 606, 607, 608, 760, 761, 762, 763, 377, 378, 379, 851, 852, 853, 854, 1006, 1007, 1008, 1500, 1501, 1502, 1503, 1504] (by decide +kernel) (by decide +kernel)) (goodIn_sub (fun _ h => List.mem_append_left _ (List.mem_append_left _ (List.mem_append_left _ (List.mem_append_left _ (List.mem_append_left _ (List.mem_append_left _ (List.mem_append_left _ (List.mem_append_right _ h)))))))) (by decide +kernel))
set_option maxHeartbeats 20000000 in
set_option maxRecDepth 20000 in
theorem gL_law_X12_countParts : GoodIn wsL_law (wsV RL 264 RX12 yX12_countParts wsX12_countParts) := goodIn_app (goodIn_of _ (by decide +kernel)) ggL_law_X12_countParts
set_option maxHeartbeats 20000000 in
set_option maxRecDepth 20000 in
theorem ggL_law_L_countHoles : GoodIn wsL_law wsL_countHoles := goodIn_ca (goodIn_ca (goodIn_r _ [1011, 147, 1012, 1013, 1014, 2, 1015, 976, 25, 17, 37, 1016, 977, 978, 1017, 161, 162, 163, 164, 165, 614, 615, 616, 24, 617, 73, 618, 619, 72, 620, 171, 172, 16, 173, 174, 175, 176, 621, 622, 623, 624, 71, 625, 626, 627, 628, 561, 562, 563, 564, 565, 566, 567, 58, 59, 568, 569, 629, 597, 598, 599, 600, 979, 980, 981, 36, 982, 95, 983, 984, 985, 986, 711, 712, 79, 713, 86, 714, 715, 716, 334, 335, 336, 337, 338, 339, 340, 341, 342, 343, 987, 662, 663, 664, 988, 728, 729, 730, 989, 732, 733, 734, 735, 188, 189, 190, 736, 259, 260, 990, 991, 992, 993, 994, 995, 333, 1490, 1491, 1492, 1493, 1494, 1495, 1496, 1497, 1498, 1499, 1525, 1526, 1527, 1539, 1540, 1515, 1516, 1517, 1518, 1505, 1506, 1507, 1508, 1509, 1510, 1511] (by decide +kernel) (by decide +kernel)) (goodIn_sub (fun _ h => List.mem_append_left _ (List.mem_append_left _ (List.mem_append_left _ (List.mem_append_left _ (List.mem_append_left _ (List.mem_append_left _ (List.mem_append_left _ (List.mem_append_right _ h)))))))) (by decide +kernel))) (goodIn_sub (fun _ h => List.mem_append_left _ (List.mem_append_left _ (List.mem_append_left _ (List.mem_append_left _ (List.mem_append_right _ h))))) (by decide +kernel))
set_option maxHeartbeats 20000000 in
set_option maxRecDepth 20000 in
theorem gL_law_L_countHoles : GoodIn wsL_law (va_wsS RL 265 yL_countHoles wsL_countHoles) := goodIn_app (goodIn_of _ (by decide +kernel)) ggL_law_L_countHoles
set_option maxHeartbeats 20000000 in
set_option maxRecDepth 20000 in
theorem ggL_law_X12_countHoles : GoodIn wsL_law wsX12_countHoles := goodIn_ca (goodIn_r _ [1021, 1000, 211, 212, 5, 213, 222, 223, 224, 225, 226, 1001, 1002, 1003, 1004, 1005, 819, 820, 821, 822, 758, 759, 673, 674, 675, 676, 352, 353, 354, 355, 356, 122, 634, 635, 636, 637, 638, 188, 189, 190, 578, 579, 580, 581, 582, 583, 584, 585, 586, 587, 588, 605, 606, 607, 608, 760, 761, 762, 763, 377, 378, 379, 851, 852, 853, 854, 1006, 1007, 1008, 218, 219, 220, 221, 1022, 1023, 1024, 1025, 1500, 1501, 1502, 1503, 1504] (by decide +kernel) (by decide +kernel)) (goodIn_sub (fun _ h => List.mem_append_left _ (List.mem_append_left _ (List.mem_append_left _ (List.mem_append_left _ (List.mem_append_left _ (List.mem_append_left _ (List.mem_append_left _ (List.mem_append_right _ h)))))))) (by decide +kernel))
set_option maxHeartbeats 20000000 in
set_option maxRecDepth 20000 in
theorem gL_law_X12_countHoles : GoodIn wsL_law (wsV RL 267 RX12 yX12_countHoles wsX12_countHoles) := goodIn_app (goodIn_of _ (by decide +kernel)) ggL_law_X12_countHoles
set_option maxHeartbeats 20000000 in
set_option maxRecDepth 20000 in
theorem ggL_law_L_addWall : GoodIn wsL_law wsL_addWall := goodIn_ca (goodIn_ca (goodIn_ca (goodIn_r _ [1028, 147, 149, 1029, 1030, 1031, 2, 1032, 164, 165, 156, 157, 41, 1033, 158, 159, 160, 161, 162, 163, 1034, 1035, 1036, 40, 1037, 1038, 99, 100, 101, 102, 1490, 1491, 1492, 1493, 1494, 1495, 1496, 1497, 1498, 1499, 1528, 1529, 1530, 1531, 1532] (by decide +kernel) (by decide +kernel)) (goodIn_sub (fun _ h => List.mem_append_left _ (List.mem_append_left _ (List.mem_append_left _ (List.mem_append_left _ (List.mem_append_left _ (List.mem_append_left _ (List.mem_append_left _ (List.mem_append_right _ h)))))))) (by decide +kernel))) (goodIn_sub (fun _ h => List.mem_append_left _ (List.mem_append_left _ (List.mem_append_left _ (List.mem_append_left _ (List.mem_append_right _ h))))) (by decide +kernel))) (goodIn_sub (fun _ h => List.mem_append_left _ (List.mem_append_left _ (List.mem_append_left _ (List.mem_append_left _ (List.mem_append_left _ (List.mem_append_right _ h)))))) (by decide +kernel))
set_option maxHeartbeats 20000000 in
set_option maxRecDepth 20000 in
theorem gL_law_L_addWall : GoodIn wsL_law (va_wsS RL 268 yL_addWall wsL_addWall) := goodIn_app (goodIn_of _ (by decide +kernel)) ggL_law_L_addWall
set_option maxHeartbeats 20000000 in
set_option maxRecDepth 20000 in
theorem ggL_law_X12_addWall : GoodIn wsL_law wsX12_addWall := goodIn_ca (goodIn_r _ [1042, 127, 57, 208, 209, 5, 210, 211, 212, 213, 289, 290, 291, 125, 292, 245, 222, 223, 224, 225, 226, 239, 240, 241, 242, 243, 244, 132, 246, 247, 248, 249, 250, 251, 252, 253, 254, 255, 256, 257, 131, 258, 259, 189, 260, 261, 262, 263, 264, 265, 266, 267, 268, 269, 270, 271, 272, 273, 274, 275, 276, 277, 278, 279, 280, 281, 282, 283, 284, 188, 190, 285, 286, 287, 288, 1500, 1501, 1502, 1503, 1504, 1541, 1542, 1543] (by decide +kernel) (by decide +kernel)) (goodIn_sub (fun _ h => List.mem_append_left _ (List.mem_append_left _ (List.mem_append_left _ (List.mem_append_left _ (List.mem_append_left _ (List.mem_append_left _ (List.mem_append_left _ (List.mem_append_right _ h)))))))) (by decide +kernel))
set_option maxHeartbeats 20000000 in
set_option maxRecDepth 20000 in
theorem gL_law_X12_addWall : GoodIn wsL_law (wsV RL 270 RX12 yX12_addWall wsX12_addWall) := goodIn_app (goodIn_of _ (by decide +kernel)) ggL_law_X12_addWall
set_option maxHeartbeats 20000000 in
set_option maxRecDepth 20000 in
theorem yggL_law_L_dropWall : GoodIn wsL_law zsL_dropWall := goodIn_ca (goodIn_ca (goodIn_r _ [1045, 404, 1046, 1047, 1048, 2, 1049, 409, 410, 41, 1033, 1490, 1491, 1492, 1493, 1494, 1495, 1496, 1497, 1498, 1499, 1528, 1529, 1530, 1531, 1532] (by decide +kernel) (by decide +kernel)) (goodIn_sub (fun _ h => List.mem_append_left _ (List.mem_append_left _ (List.mem_append_left _ (List.mem_append_left _ (List.mem_append_left _ (List.mem_append_left _ (List.mem_append_left _ (List.mem_append_right _ h)))))))) (by decide +kernel))) (goodIn_sub (fun _ h => List.mem_append_left _ (List.mem_append_left _ (List.mem_append_right _ h))) (by decide +kernel))
set_option maxHeartbeats 20000000 in
set_option maxRecDepth 20000 in
theorem ygL_law_L_dropWall : GoodIn wsL_law (va_wsS RL 271 yL_dropWall zsL_dropWall) := goodIn_app (goodIn_of _ (by decide +kernel)) yggL_law_L_dropWall
set_option maxHeartbeats 20000000 in
set_option maxRecDepth 20000 in
theorem ggL_law_X12_dropWall : GoodIn wsL_law wsX12_dropWall := goodIn_r _ [1053, 127, 436, 437, 438, 125, 439, 245, 222, 223, 224, 5, 225, 226, 289, 290, 291, 292, 293, 294, 295, 296, 132, 297, 298, 299, 300, 301, 302, 303, 304, 305, 306, 307, 308, 243, 244, 309, 286, 287, 288, 1500, 1501, 1502, 1503, 1504, 1541, 1542, 1543] (by decide +kernel) (by decide +kernel)
set_option maxHeartbeats 20000000 in
set_option maxRecDepth 20000 in
theorem gL_law_X12_dropWall : GoodIn wsL_law (wsV RL 273 RX12 yX12_dropWall wsX12_dropWall) := goodIn_app (goodIn_of _ (by decide +kernel)) ggL_law_X12_dropWall
set_option maxHeartbeats 20000000 in
set_option maxRecDepth 20000 in
theorem ggL_law_L_sees : GoodIn wsL_law wsL_sees := goodIn_ca (goodIn_ca (goodIn_ca (goodIn_r _ [1056, 317, 147, 1057, 1058, 1059, 2, 1060, 41, 17, 1061, 1062, 322, 323, 324, 325, 326, 327, 328, 171, 172, 16, 173, 174, 175, 176, 158, 159, 160, 161, 162, 163, 164, 165, 1063, 1064, 1065, 40, 1066, 1038, 1067, 1068, 1069, 1070, 1071, 188, 189, 190, 99, 101, 1072, 259, 260, 100, 102, 1073, 1074, 1075, 1076, 1077, 1078, 1079, 568, 569, 1490, 1491, 1492, 1493, 1494, 1495, 1496, 1497, 1498, 1499, 1505, 1506, 1507, 1508, 1509, 1510, 1511, 1528, 1529, 1530, 1531, 1532] (by decide +kernel) (by decide +kernel)) (goodIn_sub (fun _ h => List.mem_append_left _ (List.mem_append_left _ (List.mem_append_left _ (List.mem_append_left _ (List.mem_append_left _ (List.mem_append_left _ (List.mem_append_left _ (List.mem_append_right _ h)))))))) (by decide +kernel))) (goodIn_sub (fun _ h => List.mem_append_left _ (List.mem_append_left _ (List.mem_append_left _ (List.mem_append_right _ h)))) (by decide +kernel))) (goodIn_sub (fun _ h => List.mem_append_left _ (List.mem_append_left _ (List.mem_append_left _ (List.mem_append_left _ (List.mem_append_right _ h))))) (by decide +kernel))
set_option maxHeartbeats 20000000 in
set_option maxRecDepth 20000 in
theorem gL_law_L_sees : GoodIn wsL_law (va_wsS RL 274 yL_sees wsL_sees) := goodIn_app (goodIn_of _ (by decide +kernel)) ggL_law_L_sees
set_option maxHeartbeats 20000000 in
set_option maxRecDepth 20000 in
theorem ggL_law_X12_sees : GoodIn wsL_law wsX12_sees := goodIn_ca (goodIn_r _ [1083, 348, 349, 350, 5, 351, 352, 353, 354, 355, 356, 122, 211, 212, 213, 222, 223, 224, 225, 226, 208, 209, 210, 1084, 1085, 1086, 1087, 57, 127, 121, 1088, 1089, 1090, 125, 1091, 1092, 1093, 1094, 1095, 1096, 1097, 1098, 1099, 12, 13, 1100, 1101, 244, 1102, 1103, 1104, 1105, 1106, 1107, 1108, 1109, 1110, 1111, 1112, 1113, 1114, 1115, 1116, 1117, 1118, 1119, 582, 583, 584, 585, 586, 587, 588, 1120, 1121, 1122, 638, 188, 189, 190, 483, 259, 260, 1500, 1501, 1502, 1503, 1504, 1545, 1546, 1547, 1548, 1541, 1542, 1543] (by decide +kernel) (by decide +kernel)) (goodIn_sub (fun _ h => List.mem_append_left _ (List.mem_append_left _ (List.mem_append_left _ (List.mem_append_left _ (List.mem_append_left _ (List.mem_append_left _ (List.mem_append_left _ (List.mem_append_right _ h)))))))) (by decide +kernel))
set_option maxHeartbeats 20000000 in
set_option maxRecDepth 20000 in
theorem gL_law_X12_sees : GoodIn wsL_law (wsV RL 276 RX12 yX12_sees wsX12_sees) := goodIn_app (goodIn_of _ (by decide +kernel)) ggL_law_X12_sees
set_option maxHeartbeats 20000000 in
set_option maxRecDepth 20000 in
theorem ggL_law_L_countSeen : GoodIn wsL_law wsL_countSeen := goodIn_ca (goodIn_ca (goodIn_r _ [1125, 317, 1126, 1127, 1128, 2, 1129, 322, 323, 324, 325, 326, 327, 17, 328, 171, 172, 16, 173, 174, 175, 176, 1130, 1131, 1132, 1133, 41, 1061, 1062, 1063, 1064, 1065, 40, 1066, 1038, 1067, 1068, 1069, 1070, 1071, 188, 189, 190, 99, 101, 1072, 259, 260, 100, 102, 1073, 1074, 1075, 1076, 1077, 1078, 1079, 568, 569, 685, 338, 339, 340, 341, 342, 343, 1490, 1491, 1492, 1493, 1494, 1495, 1496, 1497, 1498, 1499, 1505, 1506, 1507, 1508, 1509, 1510, 1511, 1528, 1529, 1530, 1531, 1532] (by decide +kernel) (by decide +kernel)) (goodIn_sub (fun _ h => List.mem_append_left _ (List.mem_append_left _ (List.mem_append_left _ (List.mem_append_left _ (List.mem_append_left _ (List.mem_append_left _ (List.mem_append_left _ (List.mem_append_right _ h)))))))) (by decide +kernel))) (goodIn_sub (fun _ h => List.mem_append_left _ (List.mem_append_left _ (List.mem_append_left _ (List.mem_append_right _ h)))) (by decide +kernel))
set_option maxHeartbeats 20000000 in
set_option maxRecDepth 20000 in
theorem gL_law_L_countSeen : GoodIn wsL_law (va_wsS RL 277 yL_countSeen wsL_countSeen) := goodIn_app (goodIn_of _ (by decide +kernel)) ggL_law_L_countSeen
set_option maxHeartbeats 20000000 in
set_option maxRecDepth 20000 in
theorem ggL_law_X12_countSeen : GoodIn wsL_law wsX12_countSeen := goodIn_ca (goodIn_r _ [1137, 348, 349, 350, 5, 351, 352, 353, 354, 355, 356, 122, 211, 212, 213, 222, 223, 224, 225, 226, 1138, 1139, 1140, 1141, 1084, 1085, 1086, 1087, 57, 127, 121, 1088, 1089, 1090, 125, 1091, 1092, 1093, 1094, 1095, 1096, 1097, 1098, 1099, 12, 13, 1100, 1101, 244, 1102, 1103, 1104, 1105, 1106, 1107, 1108, 1109, 1110, 1111, 1112, 1113, 1114, 1115, 1116, 1117, 1118, 1119, 582, 583, 584, 585, 586, 587, 588, 1120, 1121, 1122, 638, 188, 189, 190, 483, 259, 260, 1142, 338, 339, 340, 341, 342, 343, 1500, 1501, 1502, 1503, 1504, 1545, 1546, 1547, 1548, 1541, 1542, 1543] (by decide +kernel) (by decide +kernel)) (goodIn_sub (fun _ h => List.mem_append_left _ (List.mem_append_left _ (List.mem_append_left _ (List.mem_append_left _ (List.mem_append_left _ (List.mem_append_left _ (List.mem_append_left _ (List.mem_append_right _ h)))))))) (by decide +kernel))
set_option maxHeartbeats 20000000 in
set_option maxRecDepth 20000 in
theorem gL_law_X12_countSeen : GoodIn wsL_law (wsV RL 279 RX12 yX12_countSeen wsX12_countSeen) := goodIn_app (goodIn_of _ (by decide +kernel)) ggL_law_X12_countSeen
set_option maxHeartbeats 20000000 in
set_option maxRecDepth 20000 in
theorem ggL_law_X11_leastGuards : GoodIn wsL_law wsX11_leastGuards := goodIn_ca (goodIn_r _ [1146, 45, 1147, 17, 454, 328, 171, 172, 16, 173, 174, 175, 2, 176, 1130, 1131, 1132, 1133, 41, 1061, 1062, 1063, 1064, 1065, 40, 1066, 1038, 1067, 1068, 1069, 1070, 1071, 188, 189, 190, 99, 101, 1072, 259, 260, 100, 102, 1073, 1074, 1075, 1076, 1077, 1078, 1079, 568, 569, 1148, 1149, 1150, 44, 1151, 1152, 338, 339, 340, 341, 342, 343, 1153, 1154, 1155, 1156, 106, 1490, 1491, 1492, 1493, 1494, 1495, 1496, 1497, 1498, 1499, 1533, 1505, 1506, 1507, 1508, 1509, 1510, 1511, 1528, 1529, 1530, 1531, 1532] (by decide +kernel) (by decide +kernel)) (goodIn_sub (fun _ h => List.mem_append_left _ (List.mem_append_left _ (List.mem_append_left _ (List.mem_append_left _ (List.mem_append_left _ (List.mem_append_left _ (List.mem_append_left _ (List.mem_append_right _ h)))))))) (by decide +kernel))
set_option maxHeartbeats 20000000 in
set_option maxRecDepth 20000 in
theorem gL_law_X11_leastGuards : GoodIn wsL_law (wsV RL 280 RX11 yX11_leastGuards wsX11_leastGuards) := goodIn_app (goodIn_of _ (by decide +kernel)) ggL_law_X11_leastGuards
set_option maxHeartbeats 20000000 in
set_option maxRecDepth 20000 in
theorem ggL_law_X12_leastGuards : GoodIn wsL_law wsX12_leastGuards := goodIn_ca (goodIn_r _ [1160, 226, 57, 122, 1138, 1139, 1140, 5, 1141, 1084, 1085, 1086, 1087, 127, 121, 1088, 1089, 1090, 125, 1091, 1092, 1093, 1094, 1095, 1096, 1097, 1098, 1099, 12, 13, 1100, 1101, 244, 1102, 1103, 1104, 1105, 1106, 1107, 1108, 1109, 1110, 1111, 1112, 1113, 1114, 1115, 1116, 1117, 1118, 1119, 582, 583, 584, 585, 586, 587, 588, 1120, 1121, 1122, 638, 188, 189, 190, 483, 259, 260, 211, 212, 213, 1161, 1162, 1163, 1164, 218, 219, 220, 221, 1142, 338, 339, 340, 341, 342, 343, 851, 852, 853, 854, 1500, 1501, 1502, 1503, 1504, 1545, 1546, 1547, 1548, 1541, 1542, 1543] (by decide +kernel) (by decide +kernel)) (goodIn_sub (fun _ h => List.mem_append_left _ (List.mem_append_left _ (List.mem_append_left _ (List.mem_append_left _ (List.mem_append_left _ (List.mem_append_left _ (List.mem_append_left _ (List.mem_append_right _ h)))))))) (by decide +kernel))
set_option maxHeartbeats 20000000 in
set_option maxRecDepth 20000 in
theorem gL_law_X12_leastGuards : GoodIn wsL_law (wsV RL 283 RX12 yX12_leastGuards wsX12_leastGuards) := goodIn_app (goodIn_of _ (by decide +kernel)) ggL_law_X12_leastGuards
set_option maxHeartbeats 20000000 in
set_option maxRecDepth 20000 in
theorem ggL_law_L_setSpeed : GoodIn wsL_law wsL_setSpeed := goodIn_ca (goodIn_ca (goodIn_ca (goodIn_r _ [1167, 317, 147, 1168, 1169, 1170, 2, 1171, 17, 1172, 1173, 322, 323, 324, 325, 326, 327, 328, 171, 172, 16, 173, 174, 175, 176, 158, 159, 160, 161, 162, 163, 164, 165, 1174, 1175, 1176, 1177, 61, 62, 1490, 1491, 1492, 1493, 1494, 1495, 1496, 1497, 1498, 1499, 1505, 1506, 1507, 1508, 1509, 1510, 1511] (by decide +kernel) (by decide +kernel)) (goodIn_sub (fun _ h => List.mem_append_left _ (List.mem_append_left _ (List.mem_append_left _ (List.mem_append_left _ (List.mem_append_left _ (List.mem_append_left _ (List.mem_append_left _ (List.mem_append_right _ h)))))))) (by decide +kernel))) (goodIn_sub (fun _ h => List.mem_append_left _ (List.mem_append_left _ (List.mem_append_left _ (List.mem_append_right _ h)))) (by decide +kernel))) (goodIn_sub (fun _ h => List.mem_append_left _ (List.mem_append_left _ (List.mem_append_left _ (List.mem_append_left _ (List.mem_append_right _ h))))) (by decide +kernel))
set_option maxHeartbeats 20000000 in
set_option maxRecDepth 20000 in
theorem gL_law_L_setSpeed : GoodIn wsL_law (va_wsS RL 284 yL_setSpeed wsL_setSpeed) := goodIn_app (goodIn_of _ (by decide +kernel)) ggL_law_L_setSpeed
set_option maxHeartbeats 20000000 in
set_option maxRecDepth 20000 in
theorem ggL_law_X12_setSpeed : GoodIn wsL_law wsX12_setSpeed := goodIn_ca (goodIn_r _ [1181, 122, 348, 349, 350, 5, 351, 352, 353, 354, 355, 356, 211, 212, 213, 222, 223, 224, 225, 226, 208, 209, 210, 1500, 1501, 1502, 1503, 1504] (by decide +kernel) (by decide +kernel)) (goodIn_sub (fun _ h => List.mem_append_left _ (List.mem_append_left _ (List.mem_append_left _ (List.mem_append_left _ (List.mem_append_left _ (List.mem_append_left _ (List.mem_append_left _ (List.mem_append_right _ h)))))))) (by decide +kernel))
set_option maxHeartbeats 20000000 in
set_option maxRecDepth 20000 in
theorem gL_law_X12_setSpeed : GoodIn wsL_law (wsV RL 286 RX12 yX12_setSpeed wsX12_setSpeed) := goodIn_app (goodIn_of _ (by decide +kernel)) ggL_law_X12_setSpeed
set_option maxHeartbeats 20000000 in
set_option maxRecDepth 20000 in
theorem ggL_law_L_pass : GoodIn wsL_law wsL_pass := goodIn_ca (goodIn_ca (goodIn_ca (goodIn_r _ [1184, 147, 148, 1185, 1186, 1187, 2, 1188, 154, 155, 17, 161, 162, 163, 164, 165, 1189, 1190, 1191, 16, 1192, 170, 171, 172, 173, 174, 175, 176, 1193, 1194, 1195, 1196, 58, 61, 368, 369, 189, 370, 59, 62, 1197, 1198, 1199, 1200, 1201, 1202, 1203, 1204, 1205, 1175, 1176, 1177, 199, 200, 201, 202, 203, 1490, 1491, 1492, 1493, 1494, 1495, 1496, 1497, 1498, 1499, 1505, 1506, 1507, 1508, 1509, 1510, 1511] (by decide +kernel) (by decide +kernel)) (goodIn_sub (fun _ h => List.mem_append_left _ (List.mem_append_left _ (List.mem_append_left _ (List.mem_append_left _ (List.mem_append_left _ (List.mem_append_left _ (List.mem_append_left _ (List.mem_append_right _ h)))))))) (by decide +kernel))) (goodIn_sub (fun _ h => List.mem_append_left _ (List.mem_append_left _ (List.mem_append_left _ (List.mem_append_left _ (List.mem_append_left _ (List.mem_append_left _ (List.mem_append_right _ h))))))) (by decide +kernel))) (goodIn_sub (fun _ h => List.mem_append_left _ (List.mem_append_left _ (List.mem_append_left _ (List.mem_append_left _ (List.mem_append_right _ h))))) (by decide +kernel))
set_option maxHeartbeats 20000000 in
set_option maxRecDepth 20000 in
theorem gL_law_L_pass : GoodIn wsL_law (va_wsS RL 287 yL_pass wsL_pass) := goodIn_app (goodIn_of _ (by decide +kernel)) ggL_law_L_pass
set_option maxHeartbeats 20000000 in
set_option maxRecDepth 20000 in
theorem ggL_law_X12_pass : GoodIn wsL_law wsX12_pass := goodIn_ca (goodIn_r _ [1209, 1210, 122, 211, 212, 5, 213, 222, 223, 224, 225, 226, 1211, 1212, 1213, 1214, 231, 232, 233, 121, 234, 235, 236, 237, 238, 208, 209, 210, 1500, 1501, 1502, 1503, 1504] (by decide +kernel) (by decide +kernel)) (goodIn_sub (fun _ h => List.mem_append_left _ (List.mem_append_left _ (List.mem_append_left _ (List.mem_append_left _ (List.mem_append_left _ (List.mem_append_left _ (List.mem_append_left _ (List.mem_append_right _ h)))))))) (by decide +kernel))
set_option maxHeartbeats 20000000 in
set_option maxRecDepth 20000 in
theorem gL_law_X12_pass : GoodIn wsL_law (wsV RL 289 RX12 yX12_pass wsX12_pass) := goodIn_app (goodIn_of _ (by decide +kernel)) ggL_law_X12_pass
set_option maxHeartbeats 20000000 in
set_option maxRecDepth 20000 in
theorem yggL_law_L_nextNearest : GoodIn wsL_law zsL_nextNearest := goodIn_ca (goodIn_ca (goodIn_ca (goodIn_r _ [1217, 147, 404, 1218, 1219, 1220, 2, 1221, 17, 158, 159, 160, 161, 162, 163, 164, 165, 1222, 1223, 1224, 1225, 409, 410, 450, 451, 452, 453, 454, 1226, 1227, 1228, 16, 1229, 58, 61, 59, 62, 170, 171, 172, 173, 174, 175, 176, 1490, 1491, 1492, 1493, 1494, 1495, 1496, 1497, 1498, 1499, 1505, 1506, 1507, 1508, 1509, 1510, 1511] (by decide +kernel) (by decide +kernel)) (goodIn_sub (fun _ h => List.mem_append_left _ (List.mem_append_left _ (List.mem_append_left _ (List.mem_append_left _ (List.mem_append_left _ (List.mem_append_left _ (List.mem_append_left _ (List.mem_append_right _ h)))))))) (by decide +kernel))) (goodIn_sub (fun _ h => List.mem_append_left _ (List.mem_append_left _ (List.mem_append_left _ (List.mem_append_left _ (List.mem_append_right _ h))))) (by decide +kernel))) (goodIn_sub (fun _ h => List.mem_append_left _ (List.mem_append_left _ (List.mem_append_right _ h))) (by decide +kernel))
set_option maxHeartbeats 20000000 in
set_option maxRecDepth 20000 in
theorem ygL_law_L_nextNearest : GoodIn wsL_law (va_wsS RL 290 yL_nextNearest zsL_nextNearest) := goodIn_app (goodIn_of _ (by decide +kernel)) yggL_law_L_nextNearest
set_option maxHeartbeats 20000000 in
set_option maxRecDepth 20000 in
theorem ggL_law_X12_nextNearest : GoodIn wsL_law wsX12_nextNearest := goodIn_ca (goodIn_r _ [1233, 1234, 1235, 1236, 5, 1237, 208, 209, 210, 211, 212, 213, 218, 219, 220, 221, 122, 1238, 1239, 1240, 1241, 1242, 1243, 1244, 377, 378, 379, 1211, 1212, 1213, 1214, 231, 232, 233, 121, 234, 235, 236, 237, 238, 222, 223, 224, 225, 226, 1500, 1501, 1502, 1503, 1504] (by decide +kernel) (by decide +kernel)) (goodIn_sub (fun _ h => List.mem_append_left _ (List.mem_append_left _ (List.mem_append_left _ (List.mem_append_left _ (List.mem_append_left _ (List.mem_append_left _ (List.mem_append_left _ (List.mem_append_right _ h)))))))) (by decide +kernel))
set_option maxHeartbeats 20000000 in
set_option maxRecDepth 20000 in
theorem gL_law_X12_nextNearest : GoodIn wsL_law (wsV RL 292 RX12 yX12_nextNearest wsX12_nextNearest) := goodIn_app (goodIn_of _ (by decide +kernel)) ggL_law_X12_nextNearest
set_option maxHeartbeats 20000000 in
set_option maxRecDepth 20000 in
theorem yggL_law_L_nextTime : GoodIn wsL_law zsL_nextTime := goodIn_ca (goodIn_ca (goodIn_ca (goodIn_r _ [1247, 147, 404, 1248, 1249, 1250, 2, 1251, 158, 159, 160, 161, 162, 163, 164, 165, 1222, 1223, 1224, 1225, 409, 410, 17, 450, 451, 452, 453, 454, 1226, 1227, 1228, 16, 1229, 58, 61, 59, 62, 170, 171, 172, 173, 174, 175, 176, 1490, 1491, 1492, 1493, 1494, 1495, 1496, 1497, 1498, 1499, 1505, 1506, 1507, 1508, 1509, 1510, 1511] (by decide +kernel) (by decide +kernel)) (goodIn_sub (fun _ h => List.mem_append_left _ (List.mem_append_left _ (List.mem_append_left _ (List.mem_append_left _ (List.mem_append_left _ (List.mem_append_left _ (List.mem_append_left _ (List.mem_append_right _ h)))))))) (by decide +kernel))) (goodIn_sub (fun _ h => List.mem_append_left _ (List.mem_append_left _ (List.mem_append_left _ (List.mem_append_left _ (List.mem_append_right _ h))))) (by decide +kernel))) (goodIn_sub (fun _ h => List.mem_append_left _ (List.mem_append_left _ (List.mem_append_right _ h))) (by decide +kernel))
set_option maxHeartbeats 20000000 in
set_option maxRecDepth 20000 in
theorem ygL_law_L_nextTime : GoodIn wsL_law (va_wsS RL 293 yL_nextTime zsL_nextTime) := goodIn_app (goodIn_of _ (by decide +kernel)) yggL_law_L_nextTime
set_option maxHeartbeats 20000000 in
set_option maxRecDepth 20000 in
theorem ggL_law_X12_nextTime : GoodIn wsL_law wsX12_nextTime := goodIn_ca (goodIn_r _ [1255, 1234, 1235, 1236, 5, 1237, 208, 209, 210, 211, 212, 213, 218, 219, 220, 221, 122, 1238, 1239, 1240, 1241, 1242, 1243, 1244, 377, 378, 379, 1211, 1212, 1213, 1214, 231, 232, 233, 121, 234, 235, 236, 237, 238, 222, 223, 224, 225, 226, 1500, 1501, 1502, 1503, 1504] (by decide +kernel) (by decide +kernel)) (goodIn_sub (fun _ h => List.mem_append_left _ (List.mem_append_left _ (List.mem_append_left _ (List.mem_append_left _ (List.mem_append_left _ (List.mem_append_left _ (List.mem_append_left _ (List.mem_append_right _ h)))))))) (by decide +kernel))
set_option maxHeartbeats 20000000 in
set_option maxRecDepth 20000 in
theorem gL_law_X12_nextTime : GoodIn wsL_law (wsV RL 295 RX12 yX12_nextTime wsX12_nextTime) := goodIn_app (goodIn_of _ (by decide +kernel)) ggL_law_X12_nextTime
set_option maxHeartbeats 20000000 in
set_option maxRecDepth 20000 in
theorem ggL_law_L_cluster : GoodIn wsL_law wsL_cluster := goodIn_ca (goodIn_ca (goodIn_ca (goodIn_r _ [1258, 317, 147, 1259, 1260, 1261, 2, 1262, 17, 49, 1263, 1264, 322, 323, 324, 325, 326, 327, 328, 171, 172, 16, 173, 174, 175, 176, 1265, 1266, 1267, 164, 165, 333, 334, 335, 336, 337, 338, 339, 340, 341, 342, 343, 161, 162, 163, 1268, 1269, 1270, 48, 1271, 111, 1272, 113, 1273, 711, 712, 79, 713, 86, 714, 715, 716, 1274, 1275, 728, 729, 730, 58, 59, 1276, 1277, 1278, 1279, 1280, 1281, 1282, 1283, 1284, 1285, 732, 733, 734, 735, 188, 189, 190, 736, 259, 260, 1286, 1287, 1288, 1289, 1290, 1291, 1490, 1491, 1492, 1493, 1494, 1495, 1496, 1497, 1498, 1499, 1534, 1535, 1536, 1539, 1540, 1505, 1506, 1507, 1508, 1509, 1510, 1511] (by decide +kernel) (by decide +kernel)) (goodIn_sub (fun _ h => List.mem_append_left _ (List.mem_append_left _ (List.mem_append_left _ (List.mem_append_left _ (List.mem_append_left _ (List.mem_append_left _ (List.mem_append_left _ (List.mem_append_right _ h)))))))) (by decide +kernel))) (goodIn_sub (fun _ h => List.mem_append_left _ (List.mem_append_left _ (List.mem_append_left _ (List.mem_append_right _ h)))) (by decide +kernel))) (goodIn_sub (fun _ h => List.mem_append_left _ (List.mem_append_left _ (List.mem_append_left _ (List.mem_append_left _ (List.mem_append_right _ h))))) (by decide +kernel))
set_option maxHeartbeats 20000000 in
set_option maxRecDepth 20000 in
theorem gL_law_L_cluster : GoodIn wsL_law (va_wsS RL 296 yL_cluster wsL_cluster) := goodIn_app (goodIn_of _ (by decide +kernel)) ggL_law_L_cluster
set_option maxHeartbeats 20000000 in
set_option maxRecDepth 20000 in
theorem ggL_law_X12_cluster : GoodIn wsL_law wsX12_cluster := goodIn_ca (goodIn_r _ [1295, 348, 349, 350, 5, 351, 352, 353, 354, 355, 356, 122, 211, 212, 213, 222, 223, 224, 225, 226, 218, 219, 220, 221, 1296, 1297, 1298, 1299, 1300, 1301, 1302, 1303, 57, 1304, 1305, 1306, 1307, 1308, 1309, 1310, 1311, 189, 1312, 768, 769, 770, 760, 761, 762, 763, 377, 378, 379, 1500, 1501, 1502, 1503, 1504] (by decide +kernel) (by decide +kernel)) (goodIn_sub (fun _ h => List.mem_append_left _ (List.mem_append_left _ (List.mem_append_left _ (List.mem_append_left _ (List.mem_append_left _ (List.mem_append_left _ (List.mem_append_left _ (List.mem_append_right _ h)))))))) (by decide +kernel))
set_option maxHeartbeats 20000000 in
set_option maxRecDepth 20000 in
theorem gL_law_X12_cluster : GoodIn wsL_law (wsV RL 298 RX12 yX12_cluster wsX12_cluster) := goodIn_app (goodIn_of _ (by decide +kernel)) ggL_law_X12_cluster
set_option maxHeartbeats 20000000 in
set_option maxRecDepth 20000 in
theorem ggL_law_L_joinedAt : GoodIn wsL_law wsL_joinedAt := goodIn_ca (goodIn_ca (goodIn_r _ [1315, 147, 1316, 1317, 1318, 2, 1319, 17, 49, 1320, 1265, 1266, 1267, 164, 165, 333, 334, 335, 16, 336, 174, 337, 338, 339, 340, 341, 342, 343, 161, 162, 163, 1268, 1269, 1270, 48, 1271, 111, 1272, 113, 1273, 711, 712, 79, 713, 86, 714, 715, 171, 172, 173, 175, 176, 716, 1274, 1275, 728, 729, 730, 58, 59, 1276, 1277, 1278, 1279, 1280, 1281, 1282, 1283, 1284, 1285, 732, 733, 734, 735, 188, 189, 190, 736, 259, 260, 1286, 1287, 1288, 1289, 1290, 1291, 1490, 1491, 1492, 1493, 1494, 1495, 1496, 1497, 1498, 1499, 1534, 1535, 1536, 1505, 1506, 1507, 1508, 1509, 1510, 1511, 1539, 1540] (by decide +kernel) (by decide +kernel)) (goodIn_sub (fun _ h => List.mem_append_left _ (List.mem_append_left _ (List.mem_append_left _ (List.mem_append_left _ (List.mem_append_left _ (List.mem_append_left _ (List.mem_append_left _ (List.mem_append_right _ h)))))))) (by decide +kernel))) (goodIn_sub (fun _ h => List.mem_append_left _ (List.mem_append_left _ (List.mem_append_left _ (List.mem_append_left _ (List.mem_append_right _ h))))) (by decide +kernel))
set_option maxHeartbeats 20000000 in
set_option maxRecDepth 20000 in
theorem gL_law_L_joinedAt : GoodIn wsL_law (va_wsS RL 299 yL_joinedAt wsL_joinedAt) := goodIn_app (goodIn_of _ (by decide +kernel)) ggL_law_L_joinedAt
set_option maxHeartbeats 20000000 in
set_option maxRecDepth 20000 in
theorem ggL_law_X12_joinedAt : GoodIn wsL_law wsX12_joinedAt := goodIn_ca (goodIn_r _ [1324, 1304, 218, 219, 220, 5, 221, 122, 1296, 1297, 1298, 1299, 211, 212, 213, 222, 223, 224, 225, 226, 1300, 1301, 1302, 1303, 57, 1305, 1306, 1307, 1308, 1309, 1310, 1311, 189, 1312, 768, 769, 770, 760, 761, 762, 763, 377, 378, 379, 1500, 1501, 1502, 1503, 1504] (by decide +kernel) (by decide +kernel)) (goodIn_sub (fun _ h => List.mem_append_left _ (List.mem_append_left _ (List.mem_append_left _ (List.mem_append_left _ (List.mem_append_left _ (List.mem_append_left _ (List.mem_append_left _ (List.mem_append_right _ h)))))))) (by decide +kernel))
set_option maxHeartbeats 20000000 in
set_option maxRecDepth 20000 in
theorem gL_law_X12_joinedAt : GoodIn wsL_law (wsV RL 301 RX12 yX12_joinedAt wsX12_joinedAt) := goodIn_app (goodIn_of _ (by decide +kernel)) ggL_law_X12_joinedAt
set_option maxHeartbeats 20000000 in
set_option maxRecDepth 20000 in
theorem yggL_law_L_centreDistance : GoodIn wsL_law zsL_centreDistance := goodIn_ca (goodIn_ca (goodIn_ca (goodIn_r _ [1327, 147, 404, 1328, 1329, 1330, 2, 1331, 53, 17, 1332, 161, 162, 163, 164, 165, 1333, 1334, 1335, 1336, 409, 410, 333, 334, 335, 16, 336, 174, 337, 338, 339, 340, 341, 342, 343, 1337, 1338, 1339, 52, 1340, 1341, 1342, 1343, 1344, 1345, 1346, 1347, 1348, 259, 189, 260, 1349, 171, 172, 173, 175, 176, 1350, 1351, 1352, 1353, 1354, 188, 190, 1355, 728, 729, 730, 58, 59, 1356, 1357, 1358, 1490, 1491, 1492, 1493, 1494, 1495, 1496, 1497, 1498, 1499, 1537, 1538, 1505, 1506, 1507, 1508, 1509, 1510, 1511] (by decide +kernel) (by decide +kernel)) (goodIn_sub (fun _ h => List.mem_append_left _ (List.mem_append_left _ (List.mem_append_left _ (List.mem_append_left _ (List.mem_append_left _ (List.mem_append_left _ (List.mem_append_left _ (List.mem_append_right _ h)))))))) (by decide +kernel))) (goodIn_sub (fun _ h => List.mem_append_left _ (List.mem_append_left _ (List.mem_append_left _ (List.mem_append_left _ (List.mem_append_right _ h))))) (by decide +kernel))) (goodIn_sub (fun _ h => List.mem_append_left _ (List.mem_append_left _ (List.mem_append_right _ h))) (by decide +kernel))
set_option maxHeartbeats 20000000 in
set_option maxRecDepth 20000 in
theorem ygL_law_L_centreDistance : GoodIn wsL_law (va_wsS RL 302 yL_centreDistance zsL_centreDistance) := goodIn_app (goodIn_of _ (by decide +kernel)) yggL_law_L_centreDistance
set_option maxHeartbeats 20000000 in
set_option maxRecDepth 20000 in
theorem ggL_law_X12_centreDistance : GoodIn wsL_law wsX12_centreDistance := goodIn_ca (goodIn_r _ [1362, 1005, 211, 212, 5, 213, 218, 219, 220, 221, 122, 222, 223, 224, 225, 226, 1363, 1364, 1365, 1366, 1142, 338, 339, 340, 341, 342, 343, 851, 852, 853, 854, 1367, 1368, 1369, 1370, 1371, 1310, 1311, 189, 1312, 768, 769, 770, 760, 761, 762, 763, 377, 378, 379, 1372, 1373, 1374, 1500, 1501, 1502, 1503, 1504] (by decide +kernel) (by decide +kernel)) (goodIn_sub (fun _ h => List.mem_append_left _ (List.mem_append_left _ (List.mem_append_left _ (List.mem_append_left _ (List.mem_append_left _ (List.mem_append_left _ (List.mem_append_left _ (List.mem_append_right _ h)))))))) (by decide +kernel))
set_option maxHeartbeats 20000000 in
set_option maxRecDepth 20000 in
theorem gL_law_X12_centreDistance : GoodIn wsL_law (wsV RL 304 RX12 yX12_centreDistance wsX12_centreDistance) := goodIn_app (goodIn_of _ (by decide +kernel)) ggL_law_X12_centreDistance
set_option maxHeartbeats 20000000 in
set_option maxRecDepth 20000 in
theorem yggL_law_L_centre : GoodIn wsL_law zsL_centre := goodIn_ca (goodIn_ca (goodIn_ca (goodIn_r _ [1377, 147, 404, 1378, 1379, 1380, 2, 1381, 53, 17, 161, 162, 163, 164, 165, 1333, 1334, 1335, 1336, 409, 410, 333, 334, 335, 16, 336, 174, 337, 338, 339, 340, 341, 342, 343, 1337, 1338, 1339, 52, 1340, 1341, 1342, 1343, 1344, 1345, 1346, 1347, 1348, 259, 189, 260, 1349, 171, 172, 173, 175, 176, 1350, 1351, 1352, 1353, 1354, 188, 190, 1355, 728, 729, 730, 58, 59, 1356, 1357, 1358, 1382, 1383, 1384, 1385, 1490, 1491, 1492, 1493, 1494, 1495, 1496, 1497, 1498, 1499, 1505, 1506, 1507, 1508, 1509, 1510, 1511, 1537, 1538] (by decide +kernel) (by decide +kernel)) (goodIn_sub (fun _ h => List.mem_append_left _ (List.mem_append_left _ (List.mem_append_left _ (List.mem_append_left _ (List.mem_append_left _ (List.mem_append_left _ (List.mem_append_left _ (List.mem_append_right _ h)))))))) (by decide +kernel))) (goodIn_sub (fun _ h => List.mem_append_left _ (List.mem_append_left _ (List.mem_append_left _ (List.mem_append_left _ (List.mem_append_right _ h))))) (by decide +kernel))) (goodIn_sub (fun _ h => List.mem_append_left _ (List.mem_append_left _ (List.mem_append_right _ h))) (by decide +kernel))
set_option maxHeartbeats 20000000 in
set_option maxRecDepth 20000 in
theorem ygL_law_L_centre : GoodIn wsL_law (va_wsS RL 305 yL_centre zsL_centre) := goodIn_app (goodIn_of _ (by decide +kernel)) yggL_law_L_centre
set_option maxHeartbeats 20000000 in
set_option maxRecDepth 20000 in
theorem ggL_law_X12_centre : GoodIn wsL_law wsX12_centre := goodIn_ca (goodIn_r _ [1389, 1005, 211, 212, 5, 213, 218, 219, 220, 221, 122, 222, 223, 224, 225, 226, 1363, 1364, 1365, 1366, 1142, 338, 339, 340, 341, 342, 343, 851, 852, 853, 854, 1367, 1368, 1369, 1370, 1371, 1310, 1311, 189, 1312, 768, 769, 770, 760, 761, 762, 763, 377, 378, 379, 1372, 1373, 1374, 1390, 1391, 1392, 1393, 1500, 1501, 1502, 1503, 1504] (by decide +kernel) (by decide +kernel)) (goodIn_sub (fun _ h => List.mem_append_left _ (List.mem_append_left _ (List.mem_append_left _ (List.mem_append_left _ (List.mem_append_left _ (List.mem_append_left _ (List.mem_append_left _ (List.mem_append_right _ h)))))))) (by decide +kernel))
set_option maxHeartbeats 20000000 in
set_option maxRecDepth 20000 in
theorem gL_law_X12_centre : GoodIn wsL_law (wsV RL 307 RX12 yX12_centre wsX12_centre) := goodIn_app (goodIn_of _ (by decide +kernel)) ggL_law_X12_centre
set_option maxHeartbeats 20000000 in
set_option maxRecDepth 20000 in
theorem ggL_law_L_countDiscs : GoodIn wsL_law wsL_countDiscs := goodIn_ca (goodIn_ca (goodIn_r _ [1396, 147, 1397, 1398, 1399, 2, 1400, 976, 45, 1147, 17, 454, 161, 162, 163, 164, 165, 328, 171, 172, 16, 173, 174, 175, 176, 1401, 1402, 1403, 1404, 1405, 728, 729, 730, 58, 59, 1148, 1149, 1150, 44, 1151, 1152, 338, 339, 340, 341, 342, 343, 1153, 1154, 1155, 1156, 106, 1490, 1491, 1492, 1493, 1494, 1495, 1496, 1497, 1498, 1499, 1533, 1505, 1506, 1507, 1508, 1509, 1510, 1511] (by decide +kernel) (by decide +kernel)) (goodIn_sub (fun _ h => List.mem_append_left _ (List.mem_append_left _ (List.mem_append_left _ (List.mem_append_left _ (List.mem_append_left _ (List.mem_append_left _ (List.mem_append_left _ (List.mem_append_right _ h)))))))) (by decide +kernel))) (goodIn_sub (fun _ h => List.mem_append_left _ (List.mem_append_left _ (List.mem_append_left _ (List.mem_append_left _ (List.mem_append_right _ h))))) (by decide +kernel))
set_option maxHeartbeats 20000000 in
set_option maxRecDepth 20000 in
theorem gL_law_L_countDiscs : GoodIn wsL_law (va_wsS RL 308 yL_countDiscs wsL_countDiscs) := goodIn_app (goodIn_of _ (by decide +kernel)) ggL_law_L_countDiscs
set_option maxHeartbeats 20000000 in
set_option maxRecDepth 20000 in
theorem ggL_law_X12_countDiscs : GoodIn wsL_law wsX12_countDiscs := goodIn_ca (goodIn_r _ [1409, 1000, 57, 211, 212, 5, 213, 222, 223, 224, 225, 226, 352, 353, 354, 355, 356, 122, 760, 761, 762, 763, 377, 378, 379, 1161, 1162, 1163, 1164, 218, 219, 220, 221, 1142, 338, 339, 340, 341, 342, 343, 851, 852, 853, 854, 1500, 1501, 1502, 1503, 1504] (by decide +kernel) (by decide +kernel)) (goodIn_sub (fun _ h => List.mem_append_left _ (List.mem_append_left _ (List.mem_append_left _ (List.mem_append_left _ (List.mem_append_left _ (List.mem_append_left _ (List.mem_append_left _ (List.mem_append_right _ h)))))))) (by decide +kernel))
set_option maxHeartbeats 20000000 in
set_option maxRecDepth 20000 in
theorem gL_law_X12_countDiscs : GoodIn wsL_law (wsV RL 310 RX12 yX12_countDiscs wsX12_countDiscs) := goodIn_app (goodIn_of _ (by decide +kernel)) ggL_law_X12_countDiscs
set_option maxHeartbeats 20000000 in
set_option maxRecDepth 20000 in
theorem ggL_law_L_getHullShare : GoodIn wsL_law wsL_getHullShare := goodIn_ca (goodIn_ca (goodIn_r _ [1412, 1413, 1414, 1415, 1416, 2, 1417, 1418, 1419, 17, 33, 827, 333, 334, 335, 16, 336, 174, 337, 338, 339, 340, 341, 342, 343, 828, 829, 830, 32, 831, 832, 90, 833, 834, 835, 836, 171, 172, 173, 175, 176, 837, 838, 839, 840, 841, 842, 843, 844, 845, 561, 562, 563, 564, 565, 566, 567, 58, 59, 568, 569, 846, 728, 729, 730, 1490, 1491, 1492, 1493, 1494, 1495, 1496, 1497, 1498, 1499, 1523, 1524, 1505, 1506, 1507, 1508, 1509, 1510, 1511] (by decide +kernel) (by decide +kernel)) (goodIn_sub (fun _ h => List.mem_append_left _ (List.mem_append_left _ (List.mem_append_left _ (List.mem_append_left _ (List.mem_append_left _ (List.mem_append_left _ (List.mem_append_left _ (List.mem_append_right _ h)))))))) (by decide +kernel))) (goodIn_sub (fun _ h => List.mem_append_right _ h) (by decide +kernel))
set_option maxHeartbeats 20000000 in
set_option maxRecDepth 20000 in
theorem gL_law_L_getHullShare : GoodIn wsL_law (va_wsS RL 311 yL_getHullShare wsL_getHullShare) := goodIn_app (goodIn_of _ (by decide +kernel)) ggL_law_L_getHullShare
set_option maxHeartbeats 20000000 in
set_option maxRecDepth 20000 in
theorem ggL_law_X12_getHullShare : GoodIn wsL_law wsX12_getHullShare := goodIn_ca (goodIn_r _ [1423, 218, 219, 220, 5, 221, 122, 222, 223, 224, 225, 226, 851, 852, 853, 854, 855, 856, 857, 858, 123, 124, 125, 128, 129, 130, 131, 132, 133, 134, 135, 136, 137, 138, 139, 140, 141, 142, 12, 13, 859, 860, 861, 862, 436, 437, 438, 439, 245, 863, 864, 339, 865, 866, 867, 868, 869, 870, 871, 872, 873, 874, 875, 876, 877, 878, 239, 240, 241, 242, 243, 244, 246, 247, 248, 249, 250, 251, 252, 253, 254, 255, 256, 257, 258, 259, 189, 260, 261, 262, 263, 264, 265, 266, 267, 268, 269, 270, 271, 272, 273, 274, 275, 276, 277, 278, 279, 280, 281, 282, 283, 284, 188, 190, 285, 286, 287, 288, 578, 579, 580, 581, 582, 583, 584, 585, 586, 587, 588, 760, 761, 762, 763, 377, 378, 379, 289, 290, 291, 292, 1500, 1501, 1502, 1503, 1504, 1541, 1542, 1543, 1544] (by decide +kernel) (by decide +kernel)) (goodIn_sub (fun _ h => List.mem_append_left _ (List.mem_append_left _ (List.mem_append_left _ (List.mem_append_left _ (List.mem_append_left _ (List.mem_append_left _ (List.mem_append_left _ (List.mem_append_right _ h)))))))) (by decide +kernel))
set_option maxHeartbeats 20000000 in
set_option maxRecDepth 20000 in
theorem gL_law_X12_getHullShare : GoodIn wsL_law (wsV RL 314 RX12 yX12_getHullShare wsX12_getHullShare) := goodIn_app (goodIn_of _ (by decide +kernel)) ggL_law_X12_getHullShare
set_option maxHeartbeats 20000000 in
set_option maxRecDepth 20000 in
theorem ggL_law_L_getMeanNeighbours : GoodIn wsL_law wsL_getMeanNeighbours := goodIn_ca (goodIn_ca (goodIn_r _ [1426, 1413, 1427, 1428, 1429, 2, 1430, 1418, 1419, 17, 25, 333, 334, 335, 16, 336, 174, 337, 338, 339, 340, 341, 342, 343, 614, 615, 616, 24, 617, 73, 618, 619, 72, 620, 171, 172, 173, 175, 176, 621, 622, 623, 624, 71, 625, 626, 627, 628, 561, 562, 563, 564, 565, 566, 567, 58, 59, 568, 569, 629, 597, 598, 599, 600, 1431, 1432, 1433, 1434, 1435, 1490, 1491, 1492, 1493, 1494, 1495, 1496, 1497, 1498, 1499, 1505, 1506, 1507, 1508, 1509, 1510, 1511, 1515, 1516, 1517, 1518] (by decide +kernel) (by decide +kernel)) (goodIn_sub (fun _ h => List.mem_append_left _ (List.mem_append_left _ (List.mem_append_left _ (List.mem_append_left _ (List.mem_append_left _ (List.mem_append_left _ (List.mem_append_left _ (List.mem_append_right _ h)))))))) (by decide +kernel))) (goodIn_sub (fun _ h => List.mem_append_right _ h) (by decide +kernel))
set_option maxHeartbeats 20000000 in
set_option maxRecDepth 20000 in
theorem gL_law_L_getMeanNeighbours : GoodIn wsL_law (va_wsS RL 315 yL_getMeanNeighbours wsL_getMeanNeighbours) := goodIn_app (goodIn_of _ (by decide +kernel)) ggL_law_L_getMeanNeighbours
set_option maxHeartbeats 20000000 in
set_option maxRecDepth 20000 in
theorem ggL_law_X12_getMeanNeighbours : GoodIn wsL_law wsX12_getMeanNeighbours := goodIn_ca (goodIn_r _ [1439, 690, 691, 692, 5, 693, 673, 674, 675, 676, 352, 353, 354, 355, 356, 122, 211, 212, 213, 634, 635, 636, 637, 638, 188, 189, 190, 578, 579, 580, 581, 582, 583, 584, 585, 586, 587, 588, 605, 606, 607, 608, 218, 219, 220, 221, 222, 223, 224, 225, 226, 1500, 1501, 1502, 1503, 1504] (by decide +kernel) (by decide +kernel)) (goodIn_sub (fun _ h => List.mem_append_left _ (List.mem_append_left _ (List.mem_append_left _ (List.mem_append_left _ (List.mem_append_left _ (List.mem_append_left _ (List.mem_append_left _ (List.mem_append_right _ h)))))))) (by decide +kernel))
set_option maxHeartbeats 20000000 in
set_option maxRecDepth 20000 in
theorem gL_law_X12_getMeanNeighbours : GoodIn wsL_law (wsV RL 317 RX12 yX12_getMeanNeighbours wsX12_getMeanNeighbours) := goodIn_app (goodIn_of _ (by decide +kernel)) ggL_law_X12_getMeanNeighbours
set_option maxHeartbeats 20000000 in
set_option maxRecDepth 20000 in
theorem ggL_law_X11_checksum : GoodIn wsL_law wsX11_checksum := goodIn_ca (goodIn_r _ [1443, 1444, 17, 1445, 1061, 1062, 387, 25, 41, 1033, 613, 328, 171, 172, 16, 173, 174, 175, 2, 176, 614, 615, 616, 24, 617, 73, 618, 619, 72, 620, 621, 622, 623, 624, 71, 625, 626, 627, 628, 561, 562, 563, 564, 565, 566, 567, 58, 59, 568, 569, 629, 597, 598, 599, 600, 1490, 1491, 1492, 1493, 1494, 1495, 1496, 1497, 1498, 1499, 1505, 1506, 1507, 1508, 1509, 1510, 1511, 1528, 1529, 1530, 1531, 1532, 1515, 1516, 1517, 1518] (by decide +kernel) (by decide +kernel)) (goodIn_sub (fun _ h => List.mem_append_left _ (List.mem_append_left _ (List.mem_append_left _ (List.mem_append_left _ (List.mem_append_left _ (List.mem_append_left _ (List.mem_append_left _ (List.mem_append_right _ h)))))))) (by decide +kernel))
set_option maxHeartbeats 20000000 in
set_option maxRecDepth 20000 in
theorem gL_law_X11_checksum : GoodIn wsL_law (wsV RL 318 RX11 yX11_checksum wsX11_checksum) := goodIn_app (goodIn_of _ (by decide +kernel)) ggL_law_X11_checksum
set_option maxHeartbeats 20000000 in
set_option maxRecDepth 20000 in
theorem ggL_law_X12_checksum : GoodIn wsL_law wsX12_checksum := goodIn_ca (goodIn_r _ [1449, 1450, 122, 1451, 127, 289, 290, 291, 125, 292, 245, 1452, 631, 632, 5, 633, 226, 352, 353, 354, 355, 356, 211, 212, 213, 634, 635, 636, 637, 638, 188, 189, 190, 578, 579, 580, 581, 582, 583, 584, 585, 586, 587, 588, 605, 606, 607, 608, 1500, 1501, 1502, 1503, 1504, 1541, 1542, 1543] (by decide +kernel) (by decide +kernel)) (goodIn_sub (fun _ h => List.mem_append_left _ (List.mem_append_left _ (List.mem_append_left _ (List.mem_append_left _ (List.mem_append_left _ (List.mem_append_left _ (List.mem_append_left _ (List.mem_append_right _ h)))))))) (by decide +kernel))
set_option maxHeartbeats 20000000 in
set_option maxRecDepth 20000 in
theorem gL_law_X12_checksum : GoodIn wsL_law (wsV RL 322 RX12 yX12_checksum wsX12_checksum) := goodIn_app (goodIn_of _ (by decide +kernel)) ggL_law_X12_checksum
set_option maxHeartbeats 20000000 in
set_option maxRecDepth 20000 in
theorem ggL_law_X11_isSound : GoodIn wsL_law wsX11_isSound := goodIn_ca (goodIn_r _ [1456, 25, 17, 29, 614, 615, 616, 24, 617, 73, 618, 619, 72, 620, 171, 172, 16, 173, 174, 175, 2, 176, 621, 622, 623, 624, 71, 625, 626, 627, 628, 561, 562, 563, 564, 565, 566, 567, 58, 59, 568, 569, 629, 597, 598, 599, 600, 704, 705, 706, 28, 707, 82, 708, 80, 709, 81, 710, 711, 712, 79, 713, 86, 714, 715, 716, 334, 335, 336, 337, 338, 339, 340, 341, 342, 343, 717, 718, 719, 720, 721, 722, 723, 724, 725, 726, 727, 728, 729, 730, 731, 732, 733, 734, 735, 188, 189, 190, 736, 259, 260, 1457, 1458, 1459, 1460, 613, 328, 1461, 1462, 1463, 1464, 1465, 1466, 1467, 1468, 1469, 1470, 1471, 1472, 170, 333, 1431, 1432, 1433, 1434, 1435, 1473, 1474, 1475, 1476, 1477, 684, 1478, 1479, 1480, 1481, 1482, 1483, 1484, 1485, 737, 738, 739, 740, 741, 742, 743, 744, 745, 746, 1490, 1491, 1492, 1493, 1494, 1495, 1496, 1497, 1498, 1499, 1515, 1516, 1517, 1518, 1505, 1506, 1507, 1508, 1509, 1510, 1511, 1519, 1520, 1521, 1522, 1539, 1540] (by decide +kernel) (by decide +kernel)) (goodIn_sub (fun _ h => List.mem_append_left _ (List.mem_append_left _ (List.mem_append_left _ (List.mem_append_left _ (List.mem_append_left _ (List.mem_append_left _ (List.mem_append_left _ (List.mem_append_right _ h)))))))) (by decide +kernel))
set_option maxHeartbeats 20000000 in
set_option maxRecDepth 20000 in
theorem gL_law_X11_isSound : GoodIn wsL_law (wsV RL 323 RX11 yX11_isSound wsX11_isSound) := goodIn_app (goodIn_of _ (by decide +kernel)) ggL_law_X11_isSound
set_option maxHeartbeats 20000000 in
set_option maxRecDepth 20000 in
theorem ggL_law_X12_isSound : GoodIn wsL_law wsX12_isSound := goodIn_r _ [1489, 226, 1500, 1501, 1502, 1503, 1504] (by decide +kernel) (by decide +kernel)
set_option maxHeartbeats 20000000 in
set_option maxRecDepth 20000 in
theorem gL_law_X12_isSound : GoodIn wsL_law (wsV RL 327 RX12 yX12_isSound wsX12_isSound) := goodIn_app (goodIn_of _ (by decide +kernel)) ggL_law_X12_isSound

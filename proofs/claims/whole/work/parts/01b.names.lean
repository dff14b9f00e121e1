/-! ===== BEGIN printed: names, fields, word lists, decode rows ===== -/
def RX0 : String := "Nearestward$Centres"
def TX0 : u_T := fun k => match k with
  | 0 => ("Nearestward$Centres", "chosen", "I", false)
  | _ => ("Nearestward$Centres", "distance", "I", false)
def tyX0 : Nat → FieldType := fun k => match k with
  | 0 => .int
  | _ => .int
abbrev wsX00 : List Cond := u_ws RX0 TX0 2
noncomputable abbrev cX0_init : ByteArray := prog_2_method_1_code
def yX0_init : MethodName := ⟨RX0, "<init>", "()V"⟩
noncomputable abbrev cX0_choose : ByteArray := prog_2_method_2_code
def yX0_choose : MethodName := ⟨RX0, "choose", "(LNearestward$Ground;I)V"⟩
noncomputable abbrev cX0_farthestFrom : ByteArray := prog_2_method_3_code
def yX0_farthestFrom : MethodName := ⟨RX0, "farthestFrom", "(LNearestward$Ground;I)I"⟩
noncomputable abbrev cX0_nearestOf : ByteArray := prog_2_method_4_code
def yX0_nearestOf : MethodName := ⟨RX0, "nearestOf", "(LNearestward$Ground;II)I"⟩
noncomputable abbrev cX0_goesFirst : ByteArray := prog_2_method_5_code
def yX0_goesFirst : MethodName := ⟨RX0, "goesFirst", "(II)Z"⟩
noncomputable abbrev cX0_chosenAt : ByteArray := prog_2_method_6_code
def yX0_chosenAt : MethodName := ⟨RX0, "chosenAt", "(I)I"⟩
def RX1 : String := "Nearestward$Clusters"
def TX1 : u_T := fun k => match k with
  | 0 => ("Nearestward$Clusters", "parts", "LNearestward$Parts;", true)
  | 1 => ("Nearestward$Clusters", "apart", "[[I", true)
  | _ => ("Nearestward$Clusters", "lastDistance", "I", false)
def tyX1 : Nat → FieldType := fun k => match k with
  | 0 => .object "Nearestward$Parts"
  | 1 => .array (.array .int)
  | _ => .int
abbrev wsX10 : List Cond := u_ws RX1 TX1 3
noncomputable abbrev cX1_init : ByteArray := prog_3_method_1_code
def yX1_init : MethodName := ⟨RX1, "<init>", "()V"⟩
noncomputable abbrev cX1_cutTo : ByteArray := prog_3_method_2_code
def yX1_cutTo : MethodName := ⟨RX1, "cutTo", "(LNearestward$Ground;CI)V"⟩
noncomputable abbrev cX1_joinNearest : ByteArray := prog_3_method_3_code
def yX1_joinNearest : MethodName := ⟨RX1, "joinNearest", "(C)V"⟩
noncomputable abbrev cX1_takeOver : ByteArray := prog_3_method_4_code
def yX1_takeOver : MethodName := ⟨RX1, "takeOver", "(CII)V"⟩
def RX2 : String := "Nearestward$Cover"
def TX2 : u_T := fun k => match k with
  | _ => ("Nearestward$Cover", "reach", "[I", true)
def tyX2 : Nat → FieldType := fun k => match k with
  | _ => .array .int
abbrev wsX20 : List Cond := u_ws RX2 TX2 1
noncomputable abbrev cX2_init : ByteArray := prog_4_method_1_code
def yX2_init : MethodName := ⟨RX2, "<init>", "()V"⟩
noncomputable abbrev cX2_fewestFor : ByteArray := prog_4_method_2_code
def yX2_fewestFor : MethodName := ⟨RX2, "fewestFor", "(I)I"⟩
noncomputable abbrev cX2_reachOf : ByteArray := prog_4_method_3_code
def yX2_reachOf : MethodName := ⟨RX2, "reachOf", "(I)I"⟩
def RX3 : String := "Nearestward$FatTriangles"
def TX3 : u_T := fun k => match k with
  | 0 => ("Nearestward$FatTriangles", "corners", "[I", true)
  | 1 => ("Nearestward$FatTriangles", "neighbours", "[I", true)
  | 2 => ("Nearestward$FatTriangles", "count", "I", false)
  | _ => ("Nearestward$FatTriangles", "foundAt", "I", false)
def tyX3 : Nat → FieldType := fun k => match k with
  | 0 => .array .int
  | 1 => .array .int
  | 2 => .int
  | _ => .int
abbrev wsX30 : List Cond := u_ws RX3 TX3 4
noncomputable abbrev cX3_init : ByteArray := prog_5_method_1_code
def yX3_init : MethodName := ⟨RX3, "<init>", "()V"⟩
noncomputable abbrev cX3_findIn : ByteArray := prog_5_method_2_code
def yX3_findIn : MethodName := ⟨RX3, "findIn", "(LNearestward$Ground;)V"⟩
noncomputable abbrev cX3_findWith : ByteArray := prog_5_method_3_code
def yX3_findWith : MethodName := ⟨RX3, "findWith", "(LNearestward$Ground;II)V"⟩
noncomputable abbrev cX3_isFat : ByteArray := prog_5_method_4_code
def yX3_isFat : MethodName := ⟨RX3, "isFat", "(LNearestward$Ground;III)Z"⟩
noncomputable abbrev cX3_holds : ByteArray := prog_5_method_5_code
def yX3_holds : MethodName := ⟨RX3, "holds", "(I)Z"⟩
noncomputable abbrev cX3_hasWithin : ByteArray := prog_5_method_6_code
def yX3_hasWithin : MethodName := ⟨RX3, "hasWithin", "(LNearestward$Ground;II)Z"⟩
noncomputable abbrev cX3_isFilled : ByteArray := prog_5_method_7_code
def yX3_isFilled : MethodName := ⟨RX3, "isFilled", "(LNearestward$Ground;II)Z"⟩
noncomputable abbrev cX3_isEdge : ByteArray := prog_5_method_8_code
def yX3_isEdge : MethodName := ⟨RX3, "isEdge", "(II)Z"⟩
noncomputable abbrev cX3_countEdges : ByteArray := prog_5_method_9_code
def yX3_countEdges : MethodName := ⟨RX3, "countEdges", "()I"⟩
noncomputable abbrev cX3_wayLength : ByteArray := prog_5_method_10_code
def yX3_wayLength : MethodName := ⟨RX3, "wayLength", "(II)I"⟩
noncomputable abbrev cX3_allNeighboursOf : ByteArray := prog_5_method_11_code
def yX3_allNeighboursOf : MethodName := ⟨RX3, "allNeighboursOf", "(I)I"⟩
def RX4 : String := "Nearestward$Graphs"
def TX4 : u_T := fun k => match k with
  | 0 => ("Nearestward$Graphs", "parts", "LNearestward$Parts;", true)
  | 1 => ("Nearestward$Graphs", "tree", "[I", true)
  | 2 => ("Nearestward$Graphs", "treeDistance", "I", false)
  | _ => ("Nearestward$Graphs", "grownAt", "I", false)
def tyX4 : Nat → FieldType := fun k => match k with
  | 0 => .object "Nearestward$Parts"
  | 1 => .array .int
  | 2 => .int
  | _ => .int
abbrev wsX40 : List Cond := u_ws RX4 TX4 4
noncomputable abbrev cX4_init : ByteArray := prog_6_method_1_code
def yX4_init : MethodName := ⟨RX4, "<init>", "()V"⟩
noncomputable abbrev cX4_hasEdge : ByteArray := prog_6_method_2_code
def yX4_hasEdge : MethodName := ⟨RX4, "hasEdge", "(LNearestward$Ground;CII)Z"⟩
noncomputable abbrev cX4_isBetween : ByteArray := prog_6_method_3_code
def yX4_isBetween : MethodName := ⟨RX4, "isBetween", "(LNearestward$Ground;CIII)Z"⟩
noncomputable abbrev cX4_nearestOther : ByteArray := prog_6_method_4_code
def yX4_nearestOther : MethodName := ⟨RX4, "nearestOther", "(LNearestward$Ground;I)I"⟩
noncomputable abbrev cX4_countEdges : ByteArray := prog_6_method_5_code
def yX4_countEdges : MethodName := ⟨RX4, "countEdges", "(LNearestward$Ground;C)I"⟩
noncomputable abbrev cX4_growTree : ByteArray := prog_6_method_6_code
def yX4_growTree : MethodName := ⟨RX4, "growTree", "(LNearestward$Ground;)V"⟩
noncomputable abbrev cX4_takeNextEdge : ByteArray := prog_6_method_7_code
def yX4_takeNextEdge : MethodName := ⟨RX4, "takeNextEdge", "(LNearestward$Ground;)V"⟩
def RX5 : String := "Nearestward$Ground"
def TX5 : u_T := fun k => match k with
  | 0 => ("Nearestward$Ground", "xs", "[I", true)
  | 1 => ("Nearestward$Ground", "ys", "[I", true)
  | 2 => ("Nearestward$Ground", "weights", "[I", true)
  | 3 => ("Nearestward$Ground", "speedXs", "[I", true)
  | 4 => ("Nearestward$Ground", "speedYs", "[I", true)
  | 5 => ("Nearestward$Ground", "there", "I", false)
  | _ => ("Nearestward$Ground", "changes", "I", false)
def tyX5 : Nat → FieldType := fun k => match k with
  | 0 => .array .int
  | 1 => .array .int
  | 2 => .array .int
  | 3 => .array .int
  | 4 => .array .int
  | 5 => .int
  | _ => .int
abbrev wsX50 : List Cond := u_ws RX5 TX5 7
noncomputable abbrev cX5_init : ByteArray := prog_7_method_1_code
def yX5_init : MethodName := ⟨RX5, "<init>", "()V"⟩
noncomputable abbrev cX5_has : ByteArray := prog_7_method_2_code
def yX5_has : MethodName := ⟨RX5, "has", "(I)Z"⟩
noncomputable abbrev cX5_count : ByteArray := prog_7_method_3_code
def yX5_count : MethodName := ⟨RX5, "count", "()I"⟩
noncomputable abbrev cX5_numberAt : ByteArray := prog_7_method_4_code
def yX5_numberAt : MethodName := ⟨RX5, "numberAt", "(II)I"⟩
noncomputable abbrev cX5_lowestFree : ByteArray := prog_7_method_5_code
def yX5_lowestFree : MethodName := ⟨RX5, "lowestFree", "()I"⟩
noncomputable abbrev cX5_put : ByteArray := prog_7_method_6_code
def yX5_put : MethodName := ⟨RX5, "put", "(III)V"⟩
noncomputable abbrev cX5_take : ByteArray := prog_7_method_7_code
def yX5_take : MethodName := ⟨RX5, "take", "(I)V"⟩
noncomputable abbrev cX5_setPlace : ByteArray := prog_7_method_8_code
def yX5_setPlace : MethodName := ⟨RX5, "setPlace", "(III)V"⟩
noncomputable abbrev cX5_isMoving : ByteArray := prog_7_method_9_code
def yX5_isMoving : MethodName := ⟨RX5, "isMoving", "(I)Z"⟩
noncomputable abbrev cX5_measure : ByteArray := prog_7_method_10_code
def yX5_measure : MethodName := ⟨RX5, "measure", "(CIII)I"⟩
noncomputable abbrev cX5_nearestTo : ByteArray := prog_7_method_11_code
def yX5_nearestTo : MethodName := ⟨RX5, "nearestTo", "(CII)I"⟩
noncomputable abbrev cX5_farthestFrom : ByteArray := prog_7_method_12_code
def yX5_farthestFrom : MethodName := ⟨RX5, "farthestFrom", "(CII)I"⟩
noncomputable abbrev cX5_countBefore : ByteArray := prog_7_method_13_code
def yX5_countBefore : MethodName := ⟨RX5, "countBefore", "(CIII)I"⟩
noncomputable abbrev cX5_isNearest : ByteArray := prog_7_method_14_code
def yX5_isNearest : MethodName := ⟨RX5, "isNearest", "(CIII)Z"⟩
noncomputable abbrev cX5_goesBefore : ByteArray := prog_7_method_15_code
def yX5_goesBefore : MethodName := ⟨RX5, "goesBefore", "(IIII)Z"⟩
noncomputable abbrev cX5_distance : ByteArray := prog_7_method_16_code
def yX5_distance : MethodName := ⟨RX5, "distance", "(II)I"⟩
noncomputable abbrev cX5_doubleAreaOf : ByteArray := prog_7_method_17_code
def yX5_doubleAreaOf : MethodName := ⟨RX5, "doubleAreaOf", "(III)I"⟩
noncomputable abbrev cX5_sideOf : ByteArray := prog_7_method_18_code
def yX5_sideOf : MethodName := ⟨RX5, "sideOf", "(III)I"⟩
noncomputable abbrev cX5_circleSideOf : ByteArray := prog_7_method_19_code
def yX5_circleSideOf : MethodName := ⟨RX5, "circleSideOf", "(IIII)I"⟩
noncomputable abbrev cX5_someTurn : ByteArray := prog_7_method_20_code
def yX5_someTurn : MethodName := ⟨RX5, "someTurn", "()Z"⟩
noncomputable abbrev cX5_nearestAfter : ByteArray := prog_7_method_21_code
def yX5_nearestAfter : MethodName := ⟨RX5, "nearestAfter", "(III)I"⟩
noncomputable abbrev cX5_hasRoomAfter : ByteArray := prog_7_method_22_code
def yX5_hasRoomAfter : MethodName := ⟨RX5, "hasRoomAfter", "(I)Z"⟩
noncomputable abbrev cX5_isBeyondAfter : ByteArray := prog_7_method_23_code
def yX5_isBeyondAfter : MethodName := ⟨RX5, "isBeyondAfter", "(II)Z"⟩
noncomputable abbrev cX5_isMetAfter : ByteArray := prog_7_method_24_code
def yX5_isMetAfter : MethodName := ⟨RX5, "isMetAfter", "(II)Z"⟩
noncomputable abbrev cX5_goOn : ByteArray := prog_7_method_25_code
def yX5_goOn : MethodName := ⟨RX5, "goOn", "(I)I"⟩
noncomputable abbrev cX5_writeTo : ByteArray := prog_7_method_26_code
def yX5_writeTo : MethodName := ⟨RX5, "writeTo", "([I)V"⟩
noncomputable abbrev cX5_readFrom : ByteArray := prog_7_method_27_code
def yX5_readFrom : MethodName := ⟨RX5, "readFrom", "([I)V"⟩
def RX6 : String := "Nearestward$History"
def TX6 : u_T := fun k => match k with
  | 0 => ("Nearestward$History", "rows", "[[I", true)
  | 1 => ("Nearestward$History", "next", "I", false)
  | _ => ("Nearestward$History", "count", "I", false)
def tyX6 : Nat → FieldType := fun k => match k with
  | 0 => .array (.array .int)
  | 1 => .int
  | _ => .int
abbrev wsX60 : List Cond := u_ws RX6 TX6 3
noncomputable abbrev cX6_init : ByteArray := prog_8_method_1_code
def yX6_init : MethodName := ⟨RX6, "<init>", "()V"⟩
noncomputable abbrev cX6_keep : ByteArray := prog_8_method_2_code
def yX6_keep : MethodName := ⟨RX6, "keep", "(LNearestward$Ground;)V"⟩
noncomputable abbrev cX6_takeBack : ByteArray := prog_8_method_3_code
def yX6_takeBack : MethodName := ⟨RX6, "takeBack", "(LNearestward$Ground;)V"⟩
def RX7 : String := "Nearestward$Hull"
def TX7 : u_T := fun k => match k with
  | 0 => ("Nearestward$Hull", "corners", "[I", true)
  | _ => ("Nearestward$Hull", "count", "I", false)
def tyX7 : Nat → FieldType := fun k => match k with
  | 0 => .array .int
  | _ => .int
abbrev wsX70 : List Cond := u_ws RX7 TX7 2
noncomputable abbrev cX7_init : ByteArray := prog_9_method_1_code
def yX7_init : MethodName := ⟨RX7, "<init>", "()V"⟩
noncomputable abbrev cX7_findIn : ByteArray := prog_9_method_2_code
def yX7_findIn : MethodName := ⟨RX7, "findIn", "(LNearestward$Ground;)V"⟩
noncomputable abbrev cX7_lowestPlaced : ByteArray := prog_9_method_3_code
def yX7_lowestPlaced : MethodName := ⟨RX7, "lowestPlaced", "(LNearestward$Ground;)I"⟩
noncomputable abbrev cX7_isLower : ByteArray := prog_9_method_4_code
def yX7_isLower : MethodName := ⟨RX7, "isLower", "(LNearestward$Ground;II)Z"⟩
noncomputable abbrev cX7_cornerAfter : ByteArray := prog_9_method_5_code
def yX7_cornerAfter : MethodName := ⟨RX7, "cornerAfter", "(LNearestward$Ground;I)I"⟩
noncomputable abbrev cX7_doubleArea : ByteArray := prog_9_method_6_code
def yX7_doubleArea : MethodName := ⟨RX7, "doubleArea", "(LNearestward$Ground;)I"⟩
noncomputable abbrev cX7_layerOf : ByteArray := prog_9_method_7_code
def yX7_layerOf : MethodName := ⟨RX7, "layerOf", "(LNearestward$Ground;I)I"⟩
noncomputable abbrev cX7_outermostOf : ByteArray := prog_9_method_8_code
def yX7_outermostOf : MethodName := ⟨RX7, "outermostOf", "(LNearestward$Ground;I)I"⟩
noncomputable abbrev cX7_isOutermost : ByteArray := prog_9_method_9_code
def yX7_isOutermost : MethodName := ⟨RX7, "isOutermost", "(LNearestward$Ground;II)Z"⟩
noncomputable abbrev cX7_isOnBorder : ByteArray := prog_9_method_10_code
def yX7_isOnBorder : MethodName := ⟨RX7, "isOnBorder", "(LNearestward$Ground;III)Z"⟩
noncomputable abbrev cX7_countAt : ByteArray := prog_9_method_11_code
def yX7_countAt : MethodName := ⟨RX7, "countAt", "(LNearestward$Ground;IIII)I"⟩
noncomputable abbrev cX7_depthOf : ByteArray := prog_9_method_12_code
def yX7_depthOf : MethodName := ⟨RX7, "depthOf", "(LNearestward$Ground;I)I"⟩
noncomputable abbrev cX7_countAhead : ByteArray := prog_9_method_13_code
def yX7_countAhead : MethodName := ⟨RX7, "countAhead", "(LNearestward$Ground;II)I"⟩
def RX8 : String := "Nearestward$Parts"
def TX8 : u_T := fun k => match k with
  | 0 => ("Nearestward$Parts", "part", "[I", true)
  | _ => ("Nearestward$Parts", "count", "I", false)
def tyX8 : Nat → FieldType := fun k => match k with
  | 0 => .array .int
  | _ => .int
abbrev wsX80 : List Cond := u_ws RX8 TX8 2
noncomputable abbrev cX8_init : ByteArray := prog_10_method_1_code
def yX8_init : MethodName := ⟨RX8, "<init>", "()V"⟩
noncomputable abbrev cX8_startWith : ByteArray := prog_10_method_2_code
def yX8_startWith : MethodName := ⟨RX8, "startWith", "(LNearestward$Ground;)V"⟩
noncomputable abbrev cX8_isLowest : ByteArray := prog_10_method_3_code
def yX8_isLowest : MethodName := ⟨RX8, "isLowest", "(I)Z"⟩
noncomputable abbrev cX8_areApart : ByteArray := prog_10_method_4_code
def yX8_areApart : MethodName := ⟨RX8, "areApart", "(II)Z"⟩
noncomputable abbrev cX8_unite : ByteArray := prog_10_method_5_code
def yX8_unite : MethodName := ⟨RX8, "unite", "(II)V"⟩
def RX9 : String := "Nearestward$Shape"
def TX9 : u_T := fun k => match k with
  | 0 => ("Nearestward$Shape", "parts", "LNearestward$Parts;", true)
  | 1 => ("Nearestward$Shape", "edges", "I", false)
  | _ => ("Nearestward$Shape", "filled", "I", false)
def tyX9 : Nat → FieldType := fun k => match k with
  | 0 => .object "Nearestward$Parts"
  | 1 => .int
  | _ => .int
abbrev wsX90 : List Cond := u_ws RX9 TX9 3
noncomputable abbrev cX9_init : ByteArray := prog_11_method_1_code
def yX9_init : MethodName := ⟨RX9, "<init>", "()V"⟩
noncomputable abbrev cX9_cutAt : ByteArray := prog_11_method_2_code
def yX9_cutAt : MethodName := ⟨RX9, "cutAt", "(LNearestward$Ground;LNearestward$FatTriangles;I)V"⟩
def RX10 : String := "Nearestward$Walls"
def TX10 : u_T := fun k => match k with
  | 0 => ("Nearestward$Walls", "fromXs", "[I", true)
  | 1 => ("Nearestward$Walls", "fromYs", "[I", true)
  | 2 => ("Nearestward$Walls", "toXs", "[I", true)
  | 3 => ("Nearestward$Walls", "toYs", "[I", true)
  | _ => ("Nearestward$Walls", "count", "I", false)
def tyX10 : Nat → FieldType := fun k => match k with
  | 0 => .array .int
  | 1 => .array .int
  | 2 => .array .int
  | 3 => .array .int
  | _ => .int
abbrev wsX100 : List Cond := u_ws RX10 TX10 5
noncomputable abbrev cX10_init : ByteArray := prog_12_method_1_code
def yX10_init : MethodName := ⟨RX10, "<init>", "()V"⟩
noncomputable abbrev cX10_append : ByteArray := prog_12_method_2_code
def yX10_append : MethodName := ⟨RX10, "append", "(IIII)V"⟩
noncomputable abbrev cX10_leaveOpen : ByteArray := prog_12_method_3_code
def yX10_leaveOpen : MethodName := ⟨RX10, "leaveOpen", "(IIII)Z"⟩
noncomputable abbrev cX10_spansMeet : ByteArray := prog_12_method_4_code
def yX10_spansMeet : MethodName := ⟨RX10, "spansMeet", "(IIIII)Z"⟩
noncomputable abbrev cX10_linesCross : ByteArray := prog_12_method_5_code
def yX10_linesCross : MethodName := ⟨RX10, "linesCross", "(IIIII)Z"⟩
noncomputable abbrev cX10_side : ByteArray := prog_12_method_6_code
def yX10_side : MethodName := ⟨RX10, "side", "(IIIIII)I"⟩
def RX11 : String := "Nearestward"
def TX11 : u_T := fun k => match k with
  | 0 => ("Nearestward", "ground", "LNearestward$Ground;", true)
  | 1 => ("Nearestward", "history", "LNearestward$History;", true)
  | 2 => ("Nearestward", "triangles", "LNearestward$FatTriangles;", true)
  | 3 => ("Nearestward", "graphs", "LNearestward$Graphs;", true)
  | 4 => ("Nearestward", "hull", "LNearestward$Hull;", true)
  | 5 => ("Nearestward", "shape", "LNearestward$Shape;", true)
  | 6 => ("Nearestward", "walls", "LNearestward$Walls;", true)
  | 7 => ("Nearestward", "cover", "LNearestward$Cover;", true)
  | 8 => ("Nearestward", "clusters", "LNearestward$Clusters;", true)
  | _ => ("Nearestward", "centres", "LNearestward$Centres;", true)
def tyX11 : Nat → FieldType := fun k => match k with
  | 0 => .object "Nearestward$Ground"
  | 1 => .object "Nearestward$History"
  | 2 => .object "Nearestward$FatTriangles"
  | 3 => .object "Nearestward$Graphs"
  | 4 => .object "Nearestward$Hull"
  | 5 => .object "Nearestward$Shape"
  | 6 => .object "Nearestward$Walls"
  | 7 => .object "Nearestward$Cover"
  | 8 => .object "Nearestward$Clusters"
  | _ => .object "Nearestward$Centres"
abbrev wsX110 : List Cond := u_ws RX11 TX11 10
noncomputable abbrev cX11_init : ByteArray := prog_1_method_1_code
def yX11_init : MethodName := ⟨RX11, "<init>", "()V"⟩
noncomputable abbrev cX11_addPoint : ByteArray := prog_1_method_2_code
def yX11_addPoint : MethodName := ⟨RX11, "addPoint", "(II)I"⟩
noncomputable abbrev cX11_remove : ByteArray := prog_1_method_3_code
def yX11_remove : MethodName := ⟨RX11, "remove", "(I)I"⟩
noncomputable abbrev cX11_move : ByteArray := prog_1_method_4_code
def yX11_move : MethodName := ⟨RX11, "move", "(III)I"⟩
noncomputable abbrev cX11_setWeight : ByteArray := prog_1_method_5_code
def yX11_setWeight : MethodName := ⟨RX11, "setWeight", "(II)I"⟩
noncomputable abbrev cX11_countPoints : ByteArray := prog_1_method_6_code
def yX11_countPoints : MethodName := ⟨RX11, "countPoints", "()I"⟩
noncomputable abbrev cX11_pointAt : ByteArray := prog_1_method_7_code
def yX11_pointAt : MethodName := ⟨RX11, "pointAt", "(II)I"⟩
noncomputable abbrev cX11_undo : ByteArray := prog_1_method_8_code
def yX11_undo : MethodName := ⟨RX11, "undo", "()I"⟩
noncomputable abbrev cX11_nearest : ByteArray := prog_1_method_9_code
def yX11_nearest : MethodName := ⟨RX11, "nearest", "(CII)I"⟩
noncomputable abbrev cX11_nearness : ByteArray := prog_1_method_10_code
def yX11_nearness : MethodName := ⟨RX11, "nearness", "(CII)I"⟩
noncomputable abbrev cX11_farthest : ByteArray := prog_1_method_11_code
def yX11_farthest : MethodName := ⟨RX11, "farthest", "(CII)I"⟩
noncomputable abbrev cX11_nearestAt : ByteArray := prog_1_method_12_code
def yX11_nearestAt : MethodName := ⟨RX11, "nearestAt", "(CIII)I"⟩
noncomputable abbrev cX11_within : ByteArray := prog_1_method_13_code
def yX11_within : MethodName := ⟨RX11, "within", "(III)I"⟩
noncomputable abbrev cX11_cell : ByteArray := prog_1_method_14_code
def yX11_cell : MethodName := ⟨RX11, "cell", "(CI)I"⟩
noncomputable abbrev cX11_turn : ByteArray := prog_1_method_15_code
def yX11_turn : MethodName := ⟨RX11, "turn", "(III)I"⟩
noncomputable abbrev cX11_inCircle : ByteArray := prog_1_method_16_code
def yX11_inCircle : MethodName := ⟨RX11, "inCircle", "(IIII)I"⟩
noncomputable abbrev cX11_countTriangles : ByteArray := prog_1_method_17_code
def yX11_countTriangles : MethodName := ⟨RX11, "countTriangles", "()I"⟩
noncomputable abbrev cX11_isTriangle : ByteArray := prog_1_method_18_code
def yX11_isTriangle : MethodName := ⟨RX11, "isTriangle", "(III)Z"⟩
noncomputable abbrev cX11_areNeighbours : ByteArray := prog_1_method_19_code
def yX11_areNeighbours : MethodName := ⟨RX11, "areNeighbours", "(II)Z"⟩
noncomputable abbrev cX11_countNeighbours : ByteArray := prog_1_method_20_code
def yX11_countNeighbours : MethodName := ⟨RX11, "countNeighbours", "(I)I"⟩
noncomputable abbrev cX11_isJoined : ByteArray := prog_1_method_21_code
def yX11_isJoined : MethodName := ⟨RX11, "isJoined", "(CII)Z"⟩
noncomputable abbrev cX11_countJoined : ByteArray := prog_1_method_22_code
def yX11_countJoined : MethodName := ⟨RX11, "countJoined", "(C)I"⟩
noncomputable abbrev cX11_treeSum : ByteArray := prog_1_method_23_code
def yX11_treeSum : MethodName := ⟨RX11, "treeSum", "()I"⟩
noncomputable abbrev cX11_steps : ByteArray := prog_1_method_24_code
def yX11_steps : MethodName := ⟨RX11, "steps", "(II)I"⟩
noncomputable abbrev cX11_countHull : ByteArray := prog_1_method_25_code
def yX11_countHull : MethodName := ⟨RX11, "countHull", "()I"⟩
noncomputable abbrev cX11_hullAt : ByteArray := prog_1_method_26_code
def yX11_hullAt : MethodName := ⟨RX11, "hullAt", "(I)I"⟩
noncomputable abbrev cX11_hullArea : ByteArray := prog_1_method_27_code
def yX11_hullArea : MethodName := ⟨RX11, "hullArea", "()I"⟩
noncomputable abbrev cX11_layer : ByteArray := prog_1_method_28_code
def yX11_layer : MethodName := ⟨RX11, "layer", "(I)I"⟩
noncomputable abbrev cX11_depth : ByteArray := prog_1_method_29_code
def yX11_depth : MethodName := ⟨RX11, "depth", "(I)I"⟩
noncomputable abbrev cX11_countParts : ByteArray := prog_1_method_30_code
def yX11_countParts : MethodName := ⟨RX11, "countParts", "(I)I"⟩
noncomputable abbrev cX11_countHoles : ByteArray := prog_1_method_31_code
def yX11_countHoles : MethodName := ⟨RX11, "countHoles", "(I)I"⟩
noncomputable abbrev cX11_addWall : ByteArray := prog_1_method_32_code
def yX11_addWall : MethodName := ⟨RX11, "addWall", "(IIII)I"⟩
noncomputable abbrev cX11_dropWall : ByteArray := prog_1_method_33_code
def yX11_dropWall : MethodName := ⟨RX11, "dropWall", "()I"⟩
noncomputable abbrev cX11_sees : ByteArray := prog_1_method_34_code
def yX11_sees : MethodName := ⟨RX11, "sees", "(III)Z"⟩
noncomputable abbrev cX11_countSeen : ByteArray := prog_1_method_35_code
def yX11_countSeen : MethodName := ⟨RX11, "countSeen", "(I)I"⟩
noncomputable abbrev cX11_leastGuards : ByteArray := prog_1_method_36_code
def yX11_leastGuards : MethodName := ⟨RX11, "leastGuards", "()I"⟩
noncomputable abbrev cX11_setSpeed : ByteArray := prog_1_method_37_code
def yX11_setSpeed : MethodName := ⟨RX11, "setSpeed", "(III)Z"⟩
noncomputable abbrev cX11_pass : ByteArray := prog_1_method_38_code
def yX11_pass : MethodName := ⟨RX11, "pass", "(I)I"⟩
noncomputable abbrev cX11_nextNearest : ByteArray := prog_1_method_39_code
def yX11_nextNearest : MethodName := ⟨RX11, "nextNearest", "(II)I"⟩
noncomputable abbrev cX11_nextTime : ByteArray := prog_1_method_40_code
def yX11_nextTime : MethodName := ⟨RX11, "nextTime", "(II)I"⟩
noncomputable abbrev cX11_cluster : ByteArray := prog_1_method_41_code
def yX11_cluster : MethodName := ⟨RX11, "cluster", "(CII)I"⟩
noncomputable abbrev cX11_joinedAt : ByteArray := prog_1_method_42_code
def yX11_joinedAt : MethodName := ⟨RX11, "joinedAt", "(CI)I"⟩
noncomputable abbrev cX11_centreDistance : ByteArray := prog_1_method_43_code
def yX11_centreDistance : MethodName := ⟨RX11, "centreDistance", "(I)I"⟩
noncomputable abbrev cX11_centre : ByteArray := prog_1_method_44_code
def yX11_centre : MethodName := ⟨RX11, "centre", "(II)I"⟩
noncomputable abbrev cX11_countDiscs : ByteArray := prog_1_method_45_code
def yX11_countDiscs : MethodName := ⟨RX11, "countDiscs", "(I)I"⟩
noncomputable abbrev cX11_getHullShare : ByteArray := prog_1_method_46_code
def yX11_getHullShare : MethodName := ⟨RX11, "getHullShare", "()F"⟩
noncomputable abbrev cX11_getMeanNeighbours : ByteArray := prog_1_method_47_code
def yX11_getMeanNeighbours : MethodName := ⟨RX11, "getMeanNeighbours", "()D"⟩
noncomputable abbrev cX11_checksum : ByteArray := prog_1_method_48_code
def yX11_checksum : MethodName := ⟨RX11, "checksum", "()J"⟩
noncomputable abbrev cX11_isSound : ByteArray := prog_1_method_49_code
def yX11_isSound : MethodName := ⟨RX11, "isSound", "()Z"⟩
noncomputable abbrev cX11_needPoint : ByteArray := prog_1_method_50_code
def yX11_needPoint : MethodName := ⟨RX11, "needPoint", "(I)V"⟩
noncomputable abbrev cX11_needRange : ByteArray := prog_1_method_51_code
def yX11_needRange : MethodName := ⟨RX11, "needRange", "(III)V"⟩
noncomputable abbrev cX11_needBoth : ByteArray := prog_1_method_52_code
def yX11_needBoth : MethodName := ⟨RX11, "needBoth", "(III)V"⟩
noncomputable abbrev cX11_needKind : ByteArray := prog_1_method_53_code
def yX11_needKind : MethodName := ⟨RX11, "needKind", "(C)V"⟩
noncomputable abbrev cX11_needGraph : ByteArray := prog_1_method_54_code
def yX11_needGraph : MethodName := ⟨RX11, "needGraph", "(C)V"⟩
noncomputable abbrev cX11_needLaw : ByteArray := prog_1_method_55_code
def yX11_needLaw : MethodName := ⟨RX11, "needLaw", "(C)V"⟩
noncomputable abbrev cX11_needSomePoint : ByteArray := prog_1_method_56_code
def yX11_needSomePoint : MethodName := ⟨RX11, "needSomePoint", "()V"⟩
noncomputable abbrev cX11_needSoMany : ByteArray := prog_1_method_57_code
def yX11_needSoMany : MethodName := ⟨RX11, "needSoMany", "(I)V"⟩
noncomputable abbrev cX11_timeOfChange : ByteArray := prog_1_method_58_code
def yX11_timeOfChange : MethodName := ⟨RX11, "timeOfChange", "(II)I"⟩
noncomputable abbrev cX11_seenFrom : ByteArray := prog_1_method_59_code
def yX11_seenFrom : MethodName := ⟨RX11, "seenFrom", "(I)I"⟩
noncomputable abbrev cX11_coveredFrom : ByteArray := prog_1_method_60_code
def yX11_coveredFrom : MethodName := ⟨RX11, "coveredFrom", "(II)I"⟩
noncomputable abbrev cX11_circlesAreEmpty : ByteArray := prog_1_method_61_code
def yX11_circlesAreEmpty : MethodName := ⟨RX11, "circlesAreEmpty", "()Z"⟩
noncomputable abbrev cX11_countsFit : ByteArray := prog_1_method_62_code
def yX11_countsFit : MethodName := ⟨RX11, "countsFit", "()Z"⟩
noncomputable abbrev cX11_treeIsOfNeighbours : ByteArray := prog_1_method_63_code
def yX11_treeIsOfNeighbours : MethodName := ⟨RX11, "treeIsOfNeighbours", "()Z"⟩
noncomputable abbrev cX11_graphsAreNested : ByteArray := prog_1_method_64_code
def yX11_graphsAreNested : MethodName := ⟨RX11, "graphsAreNested", "()Z"⟩
noncomputable abbrev cX11_isNestedAt : ByteArray := prog_1_method_65_code
def yX11_isNestedAt : MethodName := ⟨RX11, "isNestedAt", "(II)Z"⟩
noncomputable abbrev cX11_signOf : ByteArray := prog_1_method_66_code
def yX11_signOf : MethodName := ⟨RX11, "signOf", "(J)I"⟩
noncomputable abbrev cX11_isIn : ByteArray := prog_1_method_67_code
def yX11_isIn : MethodName := ⟨RX11, "isIn", "(II)Z"⟩
def RX12 : String := "NearestwardModel"
def TX12 : u_T := fun k => match k with
  | 0 => ("NearestwardModel", "thrown", "I", false)
  | 1 => ("NearestwardModel", "points", "[[I", false)
  | 2 => ("NearestwardModel", "undos", "Ljava/util/List;", true)
  | 3 => ("NearestwardModel", "walls", "Ljava/util/List;", true)
  | _ => ("NearestwardModel", "joinedBy", "J", false)
def tyX12 : Nat → FieldType := fun k => match k with
  | 0 => .int
  | 1 => .array (.array .int)
  | 2 => .object "java/util/List"
  | 3 => .object "java/util/List"
  | _ => .long
abbrev wsX120 : List Cond := u_ws RX12 TX12 5
noncomputable abbrev cX12_init : ByteArray := prog_14_method_1_code
def yX12_init : MethodName := ⟨RX12, "<init>", "()V"⟩
noncomputable abbrev cX12_thrown : ByteArray := prog_14_method_2_code
def yX12_thrown : MethodName := ⟨RX12, "thrown", "()I"⟩
noncomputable abbrev cX12_isWrong : ByteArray := prog_14_method_3_code
def yX12_isWrong : MethodName := ⟨RX12, "isWrong", "(I)Z"⟩
noncomputable abbrev cX12_isBetween : ByteArray := prog_14_method_4_code
def yX12_isBetween : MethodName := ⟨RX12, "isBetween", "(JJJ)Z"⟩
noncomputable abbrev cX12_isPlace : ByteArray := prog_14_method_5_code
def yX12_isPlace : MethodName := ⟨RX12, "isPlace", "(III)Z"⟩
noncomputable abbrev cX12_isThere : ByteArray := prog_14_method_6_code
def yX12_isThere : MethodName := ⟨RX12, "isThere", "(I)Z"⟩
noncomputable abbrev cX12_isNoPoint : ByteArray := prog_14_method_7_code
def yX12_isNoPoint : MethodName := ⟨RX12, "isNoPoint", "(I)Z"⟩
noncomputable abbrev cX12_many : ByteArray := prog_14_method_8_code
def yX12_many : MethodName := ⟨RX12, "many", "()I"⟩
noncomputable abbrev cX12_at : ByteArray := prog_14_method_9_code
def yX12_at : MethodName := ⟨RX12, "at", "(II)I"⟩
noncomputable abbrev cX12_copy : ByteArray := prog_14_method_10_code
def yX12_copy : MethodName := ⟨RX12, "copy", "([[I)[[I"⟩
noncomputable abbrev cX12_keep : ByteArray := prog_14_method_11_code
def yX12_keep : MethodName := ⟨RX12, "keep", "()V"⟩
noncomputable abbrev cX12_addPoint : ByteArray := prog_14_method_12_code
def yX12_addPoint : MethodName := ⟨RX12, "addPoint", "(II)I"⟩
noncomputable abbrev cX12_remove : ByteArray := prog_14_method_13_code
def yX12_remove : MethodName := ⟨RX12, "remove", "(I)I"⟩
noncomputable abbrev cX12_move : ByteArray := prog_14_method_14_code
def yX12_move : MethodName := ⟨RX12, "move", "(III)I"⟩
noncomputable abbrev cX12_setWeight : ByteArray := prog_14_method_15_code
def yX12_setWeight : MethodName := ⟨RX12, "setWeight", "(II)I"⟩
noncomputable abbrev cX12_countPoints : ByteArray := prog_14_method_16_code
def yX12_countPoints : MethodName := ⟨RX12, "countPoints", "()I"⟩
noncomputable abbrev cX12_pointAt : ByteArray := prog_14_method_17_code
def yX12_pointAt : MethodName := ⟨RX12, "pointAt", "(II)I"⟩
noncomputable abbrev cX12_undo : ByteArray := prog_14_method_18_code
def yX12_undo : MethodName := ⟨RX12, "undo", "()I"⟩
noncomputable abbrev cX12_square : ByteArray := prog_14_method_19_code
def yX12_square : MethodName := ⟨RX12, "square", "([IJJ)J"⟩
noncomputable abbrev cX12_apart : ByteArray := prog_14_method_20_code
def yX12_apart : MethodName := ⟨RX12, "apart", "(II)J"⟩
noncomputable abbrev cX12_nearness : ByteArray := prog_14_method_21_code
def yX12_nearness : MethodName := ⟨RX12, "nearness", "(C[III)J"⟩
noncomputable abbrev cX12_isKind : ByteArray := prog_14_method_22_code
def yX12_isKind : MethodName := ⟨RX12, "isKind", "(C)Z"⟩
noncomputable abbrev cX12_byNearness : ByteArray := prog_14_method_23_code
def yX12_byNearness : MethodName := ⟨RX12, "byNearness", "(CII)[I"⟩
noncomputable abbrev cX12_isNoQuestion : ByteArray := prog_14_method_24_code
def yX12_isNoQuestion : MethodName := ⟨RX12, "isNoQuestion", "(CIII)Z"⟩
noncomputable abbrev cX12_nearest : ByteArray := prog_14_method_25_code
def yX12_nearest : MethodName := ⟨RX12, "nearest", "(CII)I"⟩
noncomputable abbrev cX12_nearness_ : ByteArray := prog_14_method_26_code
def yX12_nearness_ : MethodName := ⟨RX12, "nearness", "(CII)I"⟩
noncomputable abbrev cX12_farthest : ByteArray := prog_14_method_27_code
def yX12_farthest : MethodName := ⟨RX12, "farthest", "(CII)I"⟩
noncomputable abbrev cX12_nearestAt : ByteArray := prog_14_method_28_code
def yX12_nearestAt : MethodName := ⟨RX12, "nearestAt", "(CIII)I"⟩
noncomputable abbrev cX12_within : ByteArray := prog_14_method_29_code
def yX12_within : MethodName := ⟨RX12, "within", "(III)I"⟩
noncomputable abbrev cX12_cell : ByteArray := prog_14_method_30_code
def yX12_cell : MethodName := ⟨RX12, "cell", "(CI)I"⟩
noncomputable abbrev cX12_det : ByteArray := prog_14_method_31_code
def yX12_det : MethodName := ⟨RX12, "det", "([I[I[I)J"⟩
noncomputable abbrev cX12_turns : ByteArray := prog_14_method_32_code
def yX12_turns : MethodName := ⟨RX12, "turns", "(III)I"⟩
noncomputable abbrev cX12_circle : ByteArray := prog_14_method_33_code
def yX12_circle : MethodName := ⟨RX12, "circle", "(IIII)I"⟩
noncomputable abbrev cX12_areThree : ByteArray := prog_14_method_34_code
def yX12_areThree : MethodName := ⟨RX12, "areThree", "(III)Z"⟩
noncomputable abbrev cX12_turn : ByteArray := prog_14_method_35_code
def yX12_turn : MethodName := ⟨RX12, "turn", "(III)I"⟩
noncomputable abbrev cX12_inCircle : ByteArray := prog_14_method_36_code
def yX12_inCircle : MethodName := ⟨RX12, "inCircle", "(IIII)I"⟩
noncomputable abbrev cX12_isFat : ByteArray := prog_14_method_37_code
def yX12_isFat : MethodName := ⟨RX12, "isFat", "(III)Z"⟩
noncomputable abbrev cX12_countTriangles : ByteArray := prog_14_method_38_code
def yX12_countTriangles : MethodName := ⟨RX12, "countTriangles", "()I"⟩
noncomputable abbrev cX12_isTriangle : ByteArray := prog_14_method_39_code
def yX12_isTriangle : MethodName := ⟨RX12, "isTriangle", "(III)Z"⟩
noncomputable abbrev cX12_areTwo : ByteArray := prog_14_method_40_code
def yX12_areTwo : MethodName := ⟨RX12, "areTwo", "(II)Z"⟩
noncomputable abbrev cX12_isEdge : ByteArray := prog_14_method_41_code
def yX12_isEdge : MethodName := ⟨RX12, "isEdge", "(II)Z"⟩
noncomputable abbrev cX12_areNeighbours : ByteArray := prog_14_method_42_code
def yX12_areNeighbours : MethodName := ⟨RX12, "areNeighbours", "(II)Z"⟩
noncomputable abbrev cX12_neighbours : ByteArray := prog_14_method_43_code
def yX12_neighbours : MethodName := ⟨RX12, "neighbours", "(I)I"⟩
noncomputable abbrev cX12_countNeighbours : ByteArray := prog_14_method_44_code
def yX12_countNeighbours : MethodName := ⟨RX12, "countNeighbours", "(I)I"⟩
noncomputable abbrev cX12_nearestOther : ByteArray := prog_14_method_45_code
def yX12_nearestOther : MethodName := ⟨RX12, "nearestOther", "(I)I"⟩
noncomputable abbrev cX12_tree : ByteArray := prog_14_method_46_code
def yX12_tree : MethodName := ⟨RX12, "tree", "()[[Z"⟩
noncomputable abbrev cX12_joins : ByteArray := prog_14_method_47_code
def yX12_joins : MethodName := ⟨RX12, "joins", "(CII[[Z)Z"⟩
noncomputable abbrev cX12_isGraph : ByteArray := prog_14_method_48_code
def yX12_isGraph : MethodName := ⟨RX12, "isGraph", "(C)Z"⟩
noncomputable abbrev cX12_isJoined : ByteArray := prog_14_method_49_code
def yX12_isJoined : MethodName := ⟨RX12, "isJoined", "(CII)Z"⟩
noncomputable abbrev cX12_countJoined : ByteArray := prog_14_method_50_code
def yX12_countJoined : MethodName := ⟨RX12, "countJoined", "(C)I"⟩
noncomputable abbrev cX12_treeSum : ByteArray := prog_14_method_51_code
def yX12_treeSum : MethodName := ⟨RX12, "treeSum", "()I"⟩
noncomputable abbrev cX12_edges : ByteArray := prog_14_method_52_code
def yX12_edges : MethodName := ⟨RX12, "edges", "()[[Z"⟩
noncomputable abbrev cX12_steps : ByteArray := prog_14_method_53_code
def yX12_steps : MethodName := ⟨RX12, "steps", "(II)I"⟩
noncomputable abbrev cX12_isLower : ByteArray := prog_14_method_54_code
def yX12_isLower : MethodName := ⟨RX12, "isLower", "(II)Z"⟩
noncomputable abbrev cX12_hull : ByteArray := prog_14_method_55_code
def yX12_hull : MethodName := ⟨RX12, "hull", "(I)Ljava/util/List;"⟩
noncomputable abbrev cX12_all : ByteArray := prog_14_method_56_code
def yX12_all : MethodName := ⟨RX12, "all", "()I"⟩
noncomputable abbrev cX12_countHull : ByteArray := prog_14_method_57_code
def yX12_countHull : MethodName := ⟨RX12, "countHull", "()I"⟩
noncomputable abbrev cX12_hullAt : ByteArray := prog_14_method_58_code
def yX12_hullAt : MethodName := ⟨RX12, "hullAt", "(I)I"⟩
noncomputable abbrev cX12_hullArea : ByteArray := prog_14_method_59_code
def yX12_hullArea : MethodName := ⟨RX12, "hullArea", "()I"⟩
noncomputable abbrev cX12_isOnSide : ByteArray := prog_14_method_60_code
def yX12_isOnSide : MethodName := ⟨RX12, "isOnSide", "(Ljava/util/List;I)Z"⟩
noncomputable abbrev cX12_layer : ByteArray := prog_14_method_61_code
def yX12_layer : MethodName := ⟨RX12, "layer", "(I)I"⟩
noncomputable abbrev cX12_depth : ByteArray := prog_14_method_62_code
def yX12_depth : MethodName := ⟨RX12, "depth", "(I)I"⟩
noncomputable abbrev cX12_parts : ByteArray := prog_14_method_63_code
def yX12_parts : MethodName := ⟨RX12, "parts", "([[ZI)I"⟩
noncomputable abbrev cX12_joined : ByteArray := prog_14_method_64_code
def yX12_joined : MethodName := ⟨RX12, "joined", "(I)[[Z"⟩
noncomputable abbrev cX12_countParts : ByteArray := prog_14_method_65_code
def yX12_countParts : MethodName := ⟨RX12, "countParts", "(I)I"⟩
noncomputable abbrev cX12_isFilled : ByteArray := prog_14_method_66_code
def yX12_isFilled : MethodName := ⟨RX12, "isFilled", "(IIII)Z"⟩
noncomputable abbrev cX12_countHoles : ByteArray := prog_14_method_67_code
def yX12_countHoles : MethodName := ⟨RX12, "countHoles", "(I)I"⟩
noncomputable abbrev cX12_addWall : ByteArray := prog_14_method_68_code
def yX12_addWall : MethodName := ⟨RX12, "addWall", "(IIII)I"⟩
noncomputable abbrev cX12_dropWall : ByteArray := prog_14_method_69_code
def yX12_dropWall : MethodName := ⟨RX12, "dropWall", "()I"⟩
noncomputable abbrev cX12_isOn : ByteArray := prog_14_method_70_code
def yX12_isOn : MethodName := ⟨RX12, "isOn", "([I[I[I)Z"⟩
noncomputable abbrev cX12_meet : ByteArray := prog_14_method_71_code
def yX12_meet : MethodName := ⟨RX12, "meet", "([I[I[I[I)Z"⟩
noncomputable abbrev cX12_seesPlace : ByteArray := prog_14_method_72_code
def yX12_seesPlace : MethodName := ⟨RX12, "seesPlace", "(III)Z"⟩
noncomputable abbrev cX12_sees : ByteArray := prog_14_method_73_code
def yX12_sees : MethodName := ⟨RX12, "sees", "(III)Z"⟩
noncomputable abbrev cX12_seen : ByteArray := prog_14_method_74_code
def yX12_seen : MethodName := ⟨RX12, "seen", "(I)I"⟩
noncomputable abbrev cX12_countSeen : ByteArray := prog_14_method_75_code
def yX12_countSeen : MethodName := ⟨RX12, "countSeen", "(I)I"⟩
noncomputable abbrev cX12_fewest : ByteArray := prog_14_method_76_code
def yX12_fewest : MethodName := ⟨RX12, "fewest", "([I)I"⟩
noncomputable abbrev cX12_leastGuards : ByteArray := prog_14_method_77_code
def yX12_leastGuards : MethodName := ⟨RX12, "leastGuards", "()I"⟩
noncomputable abbrev cX12_setSpeed : ByteArray := prog_14_method_78_code
def yX12_setSpeed : MethodName := ⟨RX12, "setSpeed", "(III)Z"⟩
noncomputable abbrev cX12_behind : ByteArray := prog_14_method_79_code
def yX12_behind : MethodName := ⟨RX12, "behind", "(I)[[I"⟩
noncomputable abbrev cX12_pass : ByteArray := prog_14_method_80_code
def yX12_pass : MethodName := ⟨RX12, "pass", "(I)I"⟩
noncomputable abbrev cX12_nearestOf : ByteArray := prog_14_method_81_code
def yX12_nearestOf : MethodName := ⟨RX12, "nearestOf", "([[III)I"⟩
noncomputable abbrev cX12_change : ByteArray := prog_14_method_82_code
def yX12_change : MethodName := ⟨RX12, "change", "(II)I"⟩
noncomputable abbrev cX12_isNoChange : ByteArray := prog_14_method_83_code
def yX12_isNoChange : MethodName := ⟨RX12, "isNoChange", "(II)Z"⟩
noncomputable abbrev cX12_nextNearest : ByteArray := prog_14_method_84_code
def yX12_nextNearest : MethodName := ⟨RX12, "nextNearest", "(II)I"⟩
noncomputable abbrev cX12_nextTime : ByteArray := prog_14_method_85_code
def yX12_nextTime : MethodName := ⟨RX12, "nextTime", "(II)I"⟩
noncomputable abbrev cX12_between : ByteArray := prog_14_method_86_code
def yX12_between : MethodName := ⟨RX12, "between", "(C[III)J"⟩
noncomputable abbrev cX12_clusters : ByteArray := prog_14_method_87_code
def yX12_clusters : MethodName := ⟨RX12, "clusters", "(CI)[I"⟩
noncomputable abbrev cX12_isNoCut : ByteArray := prog_14_method_88_code
def yX12_isNoCut : MethodName := ⟨RX12, "isNoCut", "(CII)Z"⟩
noncomputable abbrev cX12_cluster : ByteArray := prog_14_method_89_code
def yX12_cluster : MethodName := ⟨RX12, "cluster", "(CII)I"⟩
noncomputable abbrev cX12_joinedAt : ByteArray := prog_14_method_90_code
def yX12_joinedAt : MethodName := ⟨RX12, "joinedAt", "(CI)I"⟩
noncomputable abbrev cX12_worst : ByteArray := prog_14_method_91_code
def yX12_worst : MethodName := ⟨RX12, "worst", "(I)J"⟩
noncomputable abbrev cX12_isAhead : ByteArray := prog_14_method_92_code
def yX12_isAhead : MethodName := ⟨RX12, "isAhead", "(II)Z"⟩
noncomputable abbrev cX12_centres : ByteArray := prog_14_method_93_code
def yX12_centres : MethodName := ⟨RX12, "centres", "(I)I"⟩
noncomputable abbrev cX12_centreDistance : ByteArray := prog_14_method_94_code
def yX12_centreDistance : MethodName := ⟨RX12, "centreDistance", "(I)I"⟩
noncomputable abbrev cX12_centre : ByteArray := prog_14_method_95_code
def yX12_centre : MethodName := ⟨RX12, "centre", "(II)I"⟩
noncomputable abbrev cX12_countDiscs : ByteArray := prog_14_method_96_code
def yX12_countDiscs : MethodName := ⟨RX12, "countDiscs", "(I)I"⟩
noncomputable abbrev cX12_getHullShare : ByteArray := prog_14_method_97_code
def yX12_getHullShare : MethodName := ⟨RX12, "getHullShare", "()F"⟩
noncomputable abbrev cX12_getMeanNeighbours : ByteArray := prog_14_method_98_code
def yX12_getMeanNeighbours : MethodName := ⟨RX12, "getMeanNeighbours", "()D"⟩
noncomputable abbrev cX12_checksum : ByteArray := prog_14_method_99_code
def yX12_checksum : MethodName := ⟨RX12, "checksum", "()J"⟩
noncomputable abbrev cX12_isSound : ByteArray := prog_14_method_100_code
def yX12_isSound : MethodName := ⟨RX12, "isSound", "()Z"⟩
def RJx145de : String := "java/io/Serializable"
def TJx145de : u_T := fun k => match k with
  | _ => ("", "", "", false)
def tyJx145de : Nat → FieldType := fun k => match k with
  | _ => .int
abbrev wsJx145de0 : List Cond := u_ws RJx145de TJx145de 0
def RJx00060 : String := "java/lang/ArrayIndexOutOfBoundsException"
def TJx00060 : u_T := fun k => match k with
  | 0 => ("java/lang/Throwable", "backtrace", "Ljava/lang/Object;", false)
  | 1 => ("java/lang/Throwable", "detailMessage", "Ljava/lang/String;", false)
  | 2 => ("java/lang/Throwable", "cause", "Ljava/lang/Throwable;", false)
  | 3 => ("java/lang/Throwable", "stackTrace", "[Ljava/lang/StackTraceElement;", false)
  | 4 => ("java/lang/Throwable", "depth", "I", false)
  | _ => ("java/lang/Throwable", "suppressedExceptions", "Ljava/util/List;", false)
def tyJx00060 : Nat → FieldType := fun k => match k with
  | 0 => .object "java/lang/Object"
  | 1 => .object "java/lang/String"
  | 2 => .object "java/lang/Throwable"
  | 3 => .array (.object "java/lang/StackTraceElement")
  | 4 => .int
  | _ => .object "java/util/List"
abbrev wsJx000600 : List Cond := u_ws RJx00060 TJx00060 6
noncomputable abbrev cJx00060_init_a7421 : ByteArray := prog_17_method_2_code
def yJx00060_init_a7421 : MethodName := ⟨RJx00060, "<init>", "(Ljava/lang/String;)V"⟩
def RJx8e188 : String := "java/lang/Cloneable"
def TJx8e188 : u_T := fun k => match k with
  | _ => ("", "", "", false)
def tyJx8e188 : Nat → FieldType := fun k => match k with
  | _ => .int
abbrev wsJx8e1880 : List Cond := u_ws RJx8e188 TJx8e188 0
def RJxb160c : String := "java/lang/Comparable"
def TJxb160c : u_T := fun k => match k with
  | _ => ("", "", "", false)
def tyJxb160c : Nat → FieldType := fun k => match k with
  | _ => .int
abbrev wsJxb160c0 : List Cond := u_ws RJxb160c TJxb160c 0
def RJxabbfe : String := "java/lang/Integer$IntegerCache"
def TJxabbfe : u_T := fun k => match k with
  | _ => ("", "", "", false)
def tyJxabbfe : Nat → FieldType := fun k => match k with
  | _ => .int
abbrev wsJxabbfe0 : List Cond := u_ws RJxabbfe TJxabbfe 0
def RJ6 : String := "java/lang/Integer"
def TJ6 : u_T := fun k => match k with
  | _ => ("java/lang/Integer", "value", "I", true)
def tyJ6 : Nat → FieldType := fun k => match k with
  | _ => .int
abbrev wsJ60 : List Cond := u_ws RJ6 TJ6 1
noncomputable abbrev cJ6_valueOf_2dffe : ByteArray := prog_24_method_22_code
def yJ6_valueOf_2dffe : MethodName := ⟨RJ6, "valueOf", "(I)Ljava/lang/Integer;"⟩
noncomputable abbrev cJ6_init_d00df : ByteArray := prog_24_method_23_code
def yJ6_init_d00df : MethodName := ⟨RJ6, "<init>", "(I)V"⟩
noncomputable abbrev cJ6_intValue_8abf5 : ByteArray := prog_24_method_27_code
def yJ6_intValue_8abf5 : MethodName := ⟨RJ6, "intValue", "()I"⟩
noncomputable abbrev cJ6_numberOfTrailingZeros_0f7a4 : ByteArray := prog_24_method_48_code
def yJ6_numberOfTrailingZeros_0f7a4 : MethodName := ⟨RJ6, "numberOfTrailingZeros", "(I)I"⟩
noncomputable abbrev cJ6_bitCount_0f7a4 : ByteArray := prog_24_method_49_code
def yJ6_bitCount_0f7a4 : MethodName := ⟨RJ6, "bitCount", "(I)I"⟩
def RJxab1ab : String := "java/lang/Iterable"
def TJxab1ab : u_T := fun k => match k with
  | _ => ("", "", "", false)
def tyJxab1ab : Nat → FieldType := fun k => match k with
  | _ => .int
abbrev wsJxab1ab0 : List Cond := u_ws RJxab1ab TJxab1ab 0
def RJ13 : String := "java/lang/Long"
def TJ13 : u_T := fun k => match k with
  | _ => ("", "", "", false)
def tyJ13 : Nat → FieldType := fun k => match k with
  | _ => .int
abbrev wsJ130 : List Cond := u_ws RJ13 TJ13 0
noncomputable abbrev cJ13_signum_95d88 : ByteArray := prog_27_method_57_code
def yJ13_signum_95d88 : MethodName := ⟨RJ13, "signum", "(J)I"⟩
def RJ9 : String := "java/lang/Math"
def TJ9 : u_T := fun k => match k with
  | _ => ("", "", "", false)
def tyJ9 : Nat → FieldType := fun k => match k with
  | _ => .int
abbrev wsJ90 : List Cond := u_ws RJ9 TJ9 0
noncomputable abbrev cJ9_abs_0f7a4 : ByteArray := prog_28_method_59_code
def yJ9_abs_0f7a4 : MethodName := ⟨RJ9, "abs", "(I)I"⟩
noncomputable abbrev cJ9_max_7cf53 : ByteArray := prog_28_method_65_code
def yJ9_max_7cf53 : MethodName := ⟨RJ9, "max", "(II)I"⟩
noncomputable abbrev cJ9_max_f86c9 : ByteArray := prog_28_method_66_code
def yJ9_max_f86c9 : MethodName := ⟨RJ9, "max", "(JJ)J"⟩
noncomputable abbrev cJ9_min_7cf53 : ByteArray := prog_28_method_69_code
def yJ9_min_7cf53 : MethodName := ⟨RJ9, "min", "(II)I"⟩
noncomputable abbrev cJ9_min_f86c9 : ByteArray := prog_28_method_70_code
def yJ9_min_f86c9 : MethodName := ⟨RJ9, "min", "(JJ)J"⟩
def RJxd2413 : String := "java/lang/Number"
def TJxd2413 : u_T := fun k => match k with
  | _ => ("", "", "", false)
def tyJxd2413 : Nat → FieldType := fun k => match k with
  | _ => .int
abbrev wsJxd24130 : List Cond := u_ws RJxd2413 TJxd2413 0
noncomputable abbrev cJxd2413_init_da8c8 : ByteArray := prog_29_method_1_code
def yJxd2413_init_da8c8 : MethodName := ⟨RJxd2413, "<init>", "()V"⟩
def RJ0 : String := "java/lang/String"
def TJ0 : u_T := fun k => match k with
  | 0 => ("java/lang/String", "value", "[B", true)
  | _ => ("java/lang/String", "coder", "B", true)
def tyJ0 : Nat → FieldType := fun k => match k with
  | 0 => .array .byte
  | _ => .byte
abbrev wsJ00 : List Cond := u_ws RJ0 TJ0 2
def RJ10 : String := "java/lang/System"
def TJ10 : u_T := fun k => match k with
  | _ => ("", "", "", false)
def tyJ10 : Nat → FieldType := fun k => match k with
  | _ => .int
abbrev wsJ100 : List Cond := u_ws RJ10 TJ10 0
def RJxfd54e : String := "java/lang/constant/Constable"
def TJxfd54e : u_T := fun k => match k with
  | _ => ("", "", "", false)
def tyJxfd54e : Nat → FieldType := fun k => match k with
  | _ => .int
abbrev wsJxfd54e0 : List Cond := u_ws RJxfd54e TJxfd54e 0
def RJx3cf43 : String := "java/lang/constant/ConstantDesc"
def TJx3cf43 : u_T := fun k => match k with
  | _ => ("", "", "", false)
def tyJx3cf43 : Nat → FieldType := fun k => match k with
  | _ => .int
abbrev wsJx3cf430 : List Cond := u_ws RJx3cf43 TJx3cf43 0
def RJxa1e45 : String := "java/util/AbstractCollection"
def TJxa1e45 : u_T := fun k => match k with
  | _ => ("", "", "", false)
def tyJxa1e45 : Nat → FieldType := fun k => match k with
  | _ => .int
abbrev wsJxa1e450 : List Cond := u_ws RJxa1e45 TJxa1e45 0
noncomputable abbrev cJxa1e45_init_da8c8 : ByteArray := prog_37_method_1_code
def yJxa1e45_init_da8c8 : MethodName := ⟨RJxa1e45, "<init>", "()V"⟩
def RJxc12de : String := "java/util/AbstractList"
def TJxc12de : u_T := fun k => match k with
  | _ => ("", "", "", false)
def tyJxc12de : Nat → FieldType := fun k => match k with
  | _ => .int
abbrev wsJxc12de0 : List Cond := u_ws RJxc12de TJxc12de 0
noncomputable abbrev cJxc12de_init_da8c8 : ByteArray := prog_38_method_1_code
def yJxc12de_init_da8c8 : MethodName := ⟨RJxc12de, "<init>", "()V"⟩
def RJx35411 : String := "java/util/ArrayList$Itr"
def TJx35411 : u_T := fun k => match k with
  | 0 => ("java/util/ArrayList$Itr", "cursor", "I", false)
  | 1 => ("java/util/ArrayList$Itr", "lastRet", "I", false)
  | 2 => ("java/util/ArrayList$Itr", "expectedModCount", "I", false)
  | _ => ("java/util/ArrayList$Itr", "this$0", "Ljava/util/ArrayList;", true)
def tyJx35411 : Nat → FieldType := fun k => match k with
  | 0 => .int
  | 1 => .int
  | 2 => .int
  | _ => .object "java/util/ArrayList"
abbrev wsJx354110 : List Cond := u_ws RJx35411 TJx35411 4
noncomputable abbrev cJx35411_init_45d68 : ByteArray := prog_40_method_1_code
def yJx35411_init_45d68 : MethodName := ⟨RJx35411, "<init>", "(Ljava/util/ArrayList;)V"⟩
noncomputable abbrev cJx35411_hasNext_aae02 : ByteArray := prog_40_method_2_code
def yJx35411_hasNext_aae02 : MethodName := ⟨RJx35411, "hasNext", "()Z"⟩
noncomputable abbrev cJx35411_next_0502b : ByteArray := prog_40_method_3_code
def yJx35411_next_0502b : MethodName := ⟨RJx35411, "next", "()Ljava/lang/Object;"⟩
noncomputable abbrev cJx35411_checkForComodification_da8c8 : ByteArray := prog_40_method_6_code
def yJx35411_checkForComodification_da8c8 : MethodName := ⟨RJx35411, "checkForComodification", "()V"⟩
def RJx4a65c : String := "java/util/ArrayList"
def TJx4a65c : u_T := fun k => match k with
  | 0 => ("java/util/AbstractList", "modCount", "I", false)
  | 1 => ("java/util/ArrayList", "elementData", "[Ljava/lang/Object;", false)
  | _ => ("java/util/ArrayList", "size", "I", false)
def tyJx4a65c : Nat → FieldType := fun k => match k with
  | 0 => .int
  | 1 => .array (.object "java/lang/Object")
  | _ => .int
abbrev wsJx4a65c0 : List Cond := u_ws RJx4a65c TJx4a65c 3
noncomputable abbrev cJx4a65c_init_da8c8 : ByteArray := prog_39_method_2_code
def yJx4a65c_init_da8c8 : MethodName := ⟨RJx4a65c, "<init>", "()V"⟩
noncomputable abbrev cJx4a65c_grow_92f84 : ByteArray := prog_39_method_6_code
def yJx4a65c_grow_92f84 : MethodName := ⟨RJx4a65c, "grow", "(I)[Ljava/lang/Object;"⟩
noncomputable abbrev cJx4a65c_grow_d5877 : ByteArray := prog_39_method_7_code
def yJx4a65c_grow_d5877 : MethodName := ⟨RJx4a65c, "grow", "()[Ljava/lang/Object;"⟩
noncomputable abbrev cJx4a65c_size_8abf5 : ByteArray := prog_39_method_8_code
def yJx4a65c_size_8abf5 : MethodName := ⟨RJx4a65c, "size", "()I"⟩
noncomputable abbrev cJx4a65c_isEmpty_aae02 : ByteArray := prog_39_method_9_code
def yJx4a65c_isEmpty_aae02 : MethodName := ⟨RJx4a65c, "isEmpty", "()Z"⟩
noncomputable abbrev cJx4a65c_elementData_915e3 : ByteArray := prog_39_method_18_code
def yJx4a65c_elementData_915e3 : MethodName := ⟨RJx4a65c, "elementData", "(I)Ljava/lang/Object;"⟩
noncomputable abbrev cJx4a65c_get_915e3 : ByteArray := prog_39_method_20_code
def yJx4a65c_get_915e3 : MethodName := ⟨RJx4a65c, "get", "(I)Ljava/lang/Object;"⟩
noncomputable abbrev cJx4a65c_add_72be8 : ByteArray := prog_39_method_24_code
def yJx4a65c_add_72be8 : MethodName := ⟨RJx4a65c, "add", "(Ljava/lang/Object;[Ljava/lang/Object;I)V"⟩
noncomputable abbrev cJx4a65c_add_9ea2d : ByteArray := prog_39_method_25_code
def yJx4a65c_add_9ea2d : MethodName := ⟨RJx4a65c, "add", "(Ljava/lang/Object;)Z"⟩
noncomputable abbrev cJx4a65c_remove_915e3 : ByteArray := prog_39_method_29_code
def yJx4a65c_remove_915e3 : MethodName := ⟨RJx4a65c, "remove", "(I)Ljava/lang/Object;"⟩
noncomputable abbrev cJx4a65c_fastRemove_b59b0 : ByteArray := prog_39_method_39_code
def yJx4a65c_fastRemove_b59b0 : MethodName := ⟨RJx4a65c, "fastRemove", "([Ljava/lang/Object;I)V"⟩
noncomputable abbrev cJx4a65c_iterator_32c93 : ByteArray := prog_39_method_55_code
def yJx4a65c_iterator_32c93 : MethodName := ⟨RJx4a65c, "iterator", "()Ljava/util/Iterator;"⟩
def RJ7 : String := "java/util/Arrays"
def TJ7 : u_T := fun k => match k with
  | _ => ("", "", "", false)
def tyJ7 : Nat → FieldType := fun k => match k with
  | _ => .int
abbrev wsJ70 : List Cond := u_ws RJ7 TJ7 0
noncomputable abbrev cJ7_copyOf_1904c : ByteArray := prog_41_method_119_code
def yJ7_copyOf_1904c : MethodName := ⟨RJ7, "copyOf", "([Ljava/lang/Object;I)[Ljava/lang/Object;"⟩
noncomputable abbrev cJ7_copyOf_6403c : ByteArray := prog_41_method_120_code
def yJ7_copyOf_6403c : MethodName := ⟨RJ7, "copyOf", "([Ljava/lang/Object;ILjava/lang/Class;)[Ljava/lang/Object;"⟩
def RJx5ef63 : String := "java/util/Collection"
def TJx5ef63 : u_T := fun k => match k with
  | _ => ("", "", "", false)
def tyJx5ef63 : Nat → FieldType := fun k => match k with
  | _ => .int
abbrev wsJx5ef630 : List Cond := u_ws RJx5ef63 TJx5ef63 0
def RJx4d0d8 : String := "java/util/Iterator"
def TJx4d0d8 : u_T := fun k => match k with
  | _ => ("", "", "", false)
def tyJx4d0d8 : Nat → FieldType := fun k => match k with
  | _ => .int
abbrev wsJx4d0d80 : List Cond := u_ws RJx4d0d8 TJx4d0d8 0
def RJxbd725 : String := "java/util/List"
def TJxbd725 : u_T := fun k => match k with
  | _ => ("", "", "", false)
def tyJxbd725 : Nat → FieldType := fun k => match k with
  | _ => .int
abbrev wsJxbd7250 : List Cond := u_ws RJxbd725 TJxbd725 0
def RJ15 : String := "java/util/Objects"
def TJ15 : u_T := fun k => match k with
  | _ => ("", "", "", false)
def tyJ15 : Nat → FieldType := fun k => match k with
  | _ => .int
abbrev wsJ150 : List Cond := u_ws RJ15 TJ15 0
noncomputable abbrev cJ15_checkIndex_7cf53 : ByteArray := prog_46_method_17_code
def yJ15_checkIndex_7cf53 : MethodName := ⟨RJ15, "checkIndex", "(II)I"⟩
def RJxf0a74 : String := "java/util/RandomAccess"
def TJxf0a74 : u_T := fun k => match k with
  | _ => ("", "", "", false)
def tyJxf0a74 : Nat → FieldType := fun k => match k with
  | _ => .int
abbrev wsJxf0a740 : List Cond := u_ws RJxf0a74 TJxf0a74 0
def RJxa66e6 : String := "java/util/SequencedCollection"
def TJxa66e6 : u_T := fun k => match k with
  | _ => ("", "", "", false)
def tyJxa66e6 : Nat → FieldType := fun k => match k with
  | _ => .int
abbrev wsJxa66e60 : List Cond := u_ws RJxa66e6 TJxa66e6 0
def RJ8 : String := "jdk/internal/util/ArraysSupport"
def TJ8 : u_T := fun k => match k with
  | _ => ("", "", "", false)
def tyJ8 : Nat → FieldType := fun k => match k with
  | _ => .int
abbrev wsJ80 : List Cond := u_ws RJ8 TJ8 0
noncomputable abbrev cJ8_newLength_cabcc : ByteArray := prog_49_method_27_code
def yJ8_newLength_cabcc : MethodName := ⟨RJ8, "newLength", "(III)I"⟩
noncomputable abbrev cJ8_hugeLength_7cf53 : ByteArray := prog_49_method_28_code
def yJ8_hugeLength_7cf53 : MethodName := ⟨RJ8, "hugeLength", "(II)I"⟩
def RJ3 : String := "jdk/internal/util/Preconditions"
def TJ3 : u_T := fun k => match k with
  | _ => ("", "", "", false)
def tyJ3 : Nat → FieldType := fun k => match k with
  | _ => .int
abbrev wsJ30 : List Cond := u_ws RJ3 TJ3 0
noncomputable abbrev cJ3_checkIndex_8e157 : ByteArray := prog_50_method_11_code
def yJ3_checkIndex_8e157 : MethodName := ⟨RJ3, "checkIndex", "(IILjava/util/function/BiFunction;)I"⟩
def RL : String := "NearestwardLaw"
noncomputable abbrev cL_addPoint : ByteArray := method_3_code
def yL_addPoint : MethodName := ⟨RL, "addPoint", "(LNearestward;II[J)I"⟩
noncomputable abbrev cL_remove : ByteArray := method_4_code
def yL_remove : MethodName := ⟨RL, "remove", "(LNearestward;I[J)I"⟩
noncomputable abbrev cL_move : ByteArray := method_5_code
def yL_move : MethodName := ⟨RL, "move", "(LNearestward;III[J)I"⟩
noncomputable abbrev cL_setWeight : ByteArray := method_6_code
def yL_setWeight : MethodName := ⟨RL, "setWeight", "(LNearestward;II[J)I"⟩
noncomputable abbrev cL_pointAt : ByteArray := method_7_code
def yL_pointAt : MethodName := ⟨RL, "pointAt", "(LNearestward;II[J)I"⟩
noncomputable abbrev cL_undo : ByteArray := method_8_code
def yL_undo : MethodName := ⟨RL, "undo", "(LNearestward;[J)I"⟩
noncomputable abbrev cL_nearest : ByteArray := method_9_code
def yL_nearest : MethodName := ⟨RL, "nearest", "(LNearestward;CII[J)I"⟩
noncomputable abbrev cL_nearness : ByteArray := method_10_code
def yL_nearness : MethodName := ⟨RL, "nearness", "(LNearestward;CII[J)I"⟩
noncomputable abbrev cL_farthest : ByteArray := method_11_code
def yL_farthest : MethodName := ⟨RL, "farthest", "(LNearestward;CII[J)I"⟩
noncomputable abbrev cL_nearestAt : ByteArray := method_12_code
def yL_nearestAt : MethodName := ⟨RL, "nearestAt", "(LNearestward;CIII[J)I"⟩
noncomputable abbrev cL_within : ByteArray := method_13_code
def yL_within : MethodName := ⟨RL, "within", "(LNearestward;III[J)I"⟩
noncomputable abbrev cL_cell : ByteArray := method_14_code
def yL_cell : MethodName := ⟨RL, "cell", "(LNearestward;CI[J)I"⟩
noncomputable abbrev cL_turn : ByteArray := method_15_code
def yL_turn : MethodName := ⟨RL, "turn", "(LNearestward;III[J)I"⟩
noncomputable abbrev cL_inCircle : ByteArray := method_16_code
def yL_inCircle : MethodName := ⟨RL, "inCircle", "(LNearestward;IIII[J)I"⟩
noncomputable abbrev cL_isTriangle : ByteArray := method_17_code
def yL_isTriangle : MethodName := ⟨RL, "isTriangle", "(LNearestward;III[J)I"⟩
noncomputable abbrev cL_areNeighbours : ByteArray := method_18_code
def yL_areNeighbours : MethodName := ⟨RL, "areNeighbours", "(LNearestward;II[J)I"⟩
noncomputable abbrev cL_countNeighbours : ByteArray := method_19_code
def yL_countNeighbours : MethodName := ⟨RL, "countNeighbours", "(LNearestward;I[J)I"⟩
noncomputable abbrev cL_isJoined : ByteArray := method_20_code
def yL_isJoined : MethodName := ⟨RL, "isJoined", "(LNearestward;CII[J)I"⟩
noncomputable abbrev cL_countJoined : ByteArray := method_21_code
def yL_countJoined : MethodName := ⟨RL, "countJoined", "(LNearestward;C[J)I"⟩
noncomputable abbrev cL_steps : ByteArray := method_22_code
def yL_steps : MethodName := ⟨RL, "steps", "(LNearestward;II[J)I"⟩
noncomputable abbrev cL_hullAt : ByteArray := method_23_code
def yL_hullAt : MethodName := ⟨RL, "hullAt", "(LNearestward;I[J)I"⟩
noncomputable abbrev cL_layer : ByteArray := method_24_code
def yL_layer : MethodName := ⟨RL, "layer", "(LNearestward;I[J)I"⟩
noncomputable abbrev cL_depth : ByteArray := method_25_code
def yL_depth : MethodName := ⟨RL, "depth", "(LNearestward;I[J)I"⟩
noncomputable abbrev cL_countParts : ByteArray := method_26_code
def yL_countParts : MethodName := ⟨RL, "countParts", "(LNearestward;I[J)I"⟩
noncomputable abbrev cL_countHoles : ByteArray := method_27_code
def yL_countHoles : MethodName := ⟨RL, "countHoles", "(LNearestward;I[J)I"⟩
noncomputable abbrev cL_addWall : ByteArray := method_28_code
def yL_addWall : MethodName := ⟨RL, "addWall", "(LNearestward;IIII[J)I"⟩
noncomputable abbrev cL_dropWall : ByteArray := method_29_code
def yL_dropWall : MethodName := ⟨RL, "dropWall", "(LNearestward;[J)I"⟩
noncomputable abbrev cL_sees : ByteArray := method_30_code
def yL_sees : MethodName := ⟨RL, "sees", "(LNearestward;III[J)I"⟩
noncomputable abbrev cL_countSeen : ByteArray := method_31_code
def yL_countSeen : MethodName := ⟨RL, "countSeen", "(LNearestward;I[J)I"⟩
noncomputable abbrev cL_setSpeed : ByteArray := method_32_code
def yL_setSpeed : MethodName := ⟨RL, "setSpeed", "(LNearestward;III[J)I"⟩
noncomputable abbrev cL_pass : ByteArray := method_33_code
def yL_pass : MethodName := ⟨RL, "pass", "(LNearestward;I[J)I"⟩
noncomputable abbrev cL_nextNearest : ByteArray := method_34_code
def yL_nextNearest : MethodName := ⟨RL, "nextNearest", "(LNearestward;II[J)I"⟩
noncomputable abbrev cL_nextTime : ByteArray := method_35_code
def yL_nextTime : MethodName := ⟨RL, "nextTime", "(LNearestward;II[J)I"⟩
noncomputable abbrev cL_cluster : ByteArray := method_36_code
def yL_cluster : MethodName := ⟨RL, "cluster", "(LNearestward;CII[J)I"⟩
noncomputable abbrev cL_joinedAt : ByteArray := method_37_code
def yL_joinedAt : MethodName := ⟨RL, "joinedAt", "(LNearestward;CI[J)I"⟩
noncomputable abbrev cL_centreDistance : ByteArray := method_38_code
def yL_centreDistance : MethodName := ⟨RL, "centreDistance", "(LNearestward;I[J)I"⟩
noncomputable abbrev cL_centre : ByteArray := method_39_code
def yL_centre : MethodName := ⟨RL, "centre", "(LNearestward;II[J)I"⟩
noncomputable abbrev cL_countDiscs : ByteArray := method_40_code
def yL_countDiscs : MethodName := ⟨RL, "countDiscs", "(LNearestward;I[J)I"⟩
noncomputable abbrev cL_getHullShare : ByteArray := method_41_code
def yL_getHullShare : MethodName := ⟨RL, "getHullShare", "(LNearestward;[D)I"⟩
noncomputable abbrev cL_getMeanNeighbours : ByteArray := method_42_code
def yL_getMeanNeighbours : MethodName := ⟨RL, "getMeanNeighbours", "(LNearestward;[D)I"⟩
noncomputable abbrev cL_law : ByteArray := code
def yL_law : MethodName := ⟨RL, "law", "([I)Z"⟩
noncomputable def wsX11_isIn : List Cond := .code yX11_isIn cX11_isIn 2 (some .boolean) :: ([])
noncomputable def wsX5_has : List Cond := .code yX5_has cX5_has 2 (some .boolean) :: ([.fieldLink RX5 27 "Nearestward$Ground" "there" "I", .static yX11_isIn, .initialized RX11, .code yX11_isIn cX11_isIn 2 (some .boolean)] ++ wsX50)
noncomputable def wsX5_numberAt : List Cond := .code yX5_numberAt cX5_numberAt 4 (some .int) :: ([.fieldLink RX5 9 "Nearestward$Ground" "xs" "[I", .fieldLink RX5 15 "Nearestward$Ground" "ys" "[I", .methodLink RX5 41 yX5_has, .instanceMethod yX5_has, .selects RX5 yX5_has yX5_has, .initialized RX5, .code yX5_has cX5_has 2 (some .boolean), .fieldLink RX5 27 "Nearestward$Ground" "there" "I", .static yX11_isIn, .initialized RX11, .code yX11_isIn cX11_isIn 2 (some .boolean)] ++ wsX50 ++ (vx_atM "java/lang/ArrayIndexOutOfBoundsException" ["java/lang/IndexOutOfBoundsException", "java/lang/RuntimeException", "java/lang/Exception"]).filter goodWord)
noncomputable def wsX11_needRange : List Cond := .code yX11_needRange cX11_needRange 3 none :: ([.classLink RX11 210 "java/lang/IllegalArgumentException", .initialized "java/lang/IllegalArgumentException"] ++ (vx_atS RX11 214 "java/lang/IllegalArgumentException" ["java/lang/RuntimeException", "java/lang/Exception"]).filter goodWord)
noncomputable def wsX11_needBoth : List Cond := .code yX11_needBoth cX11_needBoth 3 none :: ([.methodLink RX11 129 yX11_needRange, .static yX11_needRange, .initialized RX11, .code yX11_needRange cX11_needRange 3 none, .classLink RX11 210 "java/lang/IllegalArgumentException", .initialized "java/lang/IllegalArgumentException"] ++ (vx_atS RX11 214 "java/lang/IllegalArgumentException" ["java/lang/RuntimeException", "java/lang/Exception"]).filter goodWord)
noncomputable def wsX11_needPoint : List Cond := .code yX11_needPoint cX11_needPoint 2 none :: ([.classLink RX11 380 "java/lang/IndexOutOfBoundsException", .initialized "java/lang/IndexOutOfBoundsException", .fieldLink RX11 12 "Nearestward" "ground" "LNearestward$Ground;", .methodLink RX11 160 yX5_has, .instanceMethod yX5_has, .selects RX5 yX5_has yX5_has, .initialized RX5, .code yX5_has cX5_has 2 (some .boolean), .fieldLink RX5 27 "Nearestward$Ground" "there" "I", .static yX11_isIn, .initialized RX11, .code yX11_isIn cX11_isIn 2 (some .boolean)] ++ wsX110 ++ wsX50 ++ (vx_atS RX11 384 "java/lang/IndexOutOfBoundsException" ["java/lang/RuntimeException", "java/lang/Exception"]).filter goodWord)
noncomputable def wsX11_remove_r1 : List Cond := [Cond.fieldLink RX11 19 "Nearestward" "history" "LNearestward$History;", Cond.fieldLink RX11 12 "Nearestward" "ground" "LNearestward$Ground;", Cond.methodLink RX11 110 yX11_needPoint, Cond.instanceMethod yX11_needPoint, Cond.selects RX11 yX11_needPoint yX11_needPoint, Cond.initialized RX11, Cond.code yX11_needPoint cX11_needPoint 2 none, Cond.classLink RX11 380 "java/lang/IndexOutOfBoundsException", Cond.initialized "java/lang/IndexOutOfBoundsException", Cond.methodLink RX11 160 yX5_has, Cond.instanceMethod yX5_has, Cond.selects RX5 yX5_has yX5_has, Cond.initialized RX5, Cond.code yX5_has cX5_has 2 (some .boolean), Cond.fieldLink RX5 27 "Nearestward$Ground" "there" "I", Cond.static yX11_isIn, Cond.code yX11_isIn cX11_isIn 2 (some .boolean), Cond.methodLink RX11 103 yX6_keep, Cond.instanceMethod yX6_keep, Cond.selects RX6 yX6_keep yX6_keep, Cond.initialized RX6, Cond.code yX6_keep cX6_keep 2 none, Cond.fieldLink RX6 13 "Nearestward$History" "rows" "[[I", Cond.fieldLink RX6 16 "Nearestward$History" "next" "I"]
noncomputable def wsX11_remove_r2 : List Cond := [Cond.fieldLink RX6 26 "Nearestward$History" "count" "I", Cond.methodLink RX6 29 Lib.Math.min.name, Cond.static Lib.Math.min.name, Cond.initialized "java/lang/Math", Cond.code Lib.Math.min.name Lib.Math.min.code 2 (some .int), Cond.methodLink RX6 20 yX5_writeTo, Cond.instanceMethod yX5_writeTo, Cond.selects RX5 yX5_writeTo yX5_writeTo, Cond.code yX5_writeTo cX5_writeTo 4 none, Cond.fieldLink RX5 9 "Nearestward$Ground" "xs" "[I", Cond.fieldLink RX5 15 "Nearestward$Ground" "ys" "[I", Cond.fieldLink RX5 18 "Nearestward$Ground" "weights" "[I", Cond.fieldLink RX5 21 "Nearestward$Ground" "speedXs" "[I", Cond.fieldLink RX5 24 "Nearestward$Ground" "speedYs" "[I", Cond.methodLink RX5 41 yX5_has, Cond.methodLink RX11 114 yX5_take, Cond.instanceMethod yX5_take, Cond.selects RX5 yX5_take yX5_take, Cond.code yX5_take cX5_take 2 none, Cond.fieldLink RX5 49 "Nearestward$Ground" "changes" "I", Cond.methodLink RX11 117 yX5_count, Cond.instanceMethod yX5_count, Cond.selects RX5 yX5_count yX5_count, Cond.code yX5_count cX5_count 1 (some .int)]
noncomputable def wsX11_remove_r3 : List Cond := [Cond.methodLink RX5 35 yJ6_bitCount_0f7a4, Cond.static yJ6_bitCount_0f7a4, Cond.initialized RJ6, Cond.code yJ6_bitCount_0f7a4 cJ6_bitCount_0f7a4 1 (some .int), Cond.constant RJ6 265 (1431655765), Cond.constant RJ6 266 (858993459), Cond.constant RJ6 267 (252645135)]
noncomputable def wsX11_remove : List Cond := .code yX11_remove cX11_remove 2 (some .int) :: ((wsX11_remove_r1 ++ (wsX11_remove_r2 ++ wsX11_remove_r3)) ++ wsX110 ++ wsX50 ++ wsX60 ++ (vx_atS RX11 384 "java/lang/IndexOutOfBoundsException" ["java/lang/RuntimeException", "java/lang/Exception"]).filter goodWord ++ (vx_atM "java/lang/ArrayIndexOutOfBoundsException" ["java/lang/IndexOutOfBoundsException", "java/lang/RuntimeException", "java/lang/Exception"]).filter goodWord)
set_option maxRecDepth 20000 in
theorem wsL_law_in0 : ∀ w ∈ wsL_law0, w ∈ lw_tbl := fun w h => (goodIn_p wsL_law0 [106, 109, 114, 155, 174, 196, 202, 232, 247, 268, 291, 302, 323, 1298, 1305, 1308, 1311, 584, 587, 590, 666, 389, 392, 686, 706, 450, 710, 715, 719, 1353, 1356, 1359, 1363, 1367, 1371, 1375, 1378, 1394, 1398, 1402, 1406, 453, 1409, 1414, 1417, 1447, 1465, 1474, 1477, 1480, 1484, 1349, 750, 754, 771, 371, 374, 1489, 1493, 1497, 778, 783, 786, 1502, 1505, 795, 1509, 367, 1514, 803, 1518, 826, 831, 835, 1522, 1531, 842, 845, 850, 855, 1536, 1540, 1544, 1547, 1551, 1554, 863, 1560, 870, 874, 1564, 881, 885, 888, 896, 1569, 904, 908, 1574, 915, 403, 407, 410, 1578, 1582, 1586, 1589, 1592, 923, 414, 1596, 1600, 381, 385, 396, 399, 1604, 1608, 932, 936, 1613, 943, 947, 1617, 1621, 1625, 955, 1629, 1633, 963, 966, 423, 427, 434, 439, 443, 447, 567, 571, 574, 1637, 1640, 1644, 1650, 1654, 1661, 1658, 975, 979, 1666, 419, 1670, 987, 991, 995, 1674, 1678, 457, 461, 464, 468, 471, 1682, 1686, 1690, 1694, 1697, 1706, 1709, 1003, 1718, 1727, 1731, 1736, 477, 481, 1740, 1011, 1015, 1018, 1022, 1025, 1028, 1744, 1748, 1035, 1039, 1043, 1752, 1051, 1056, 1064, 1756, 1761, 1765, 1073, 1769, 1773, 1080, 1086, 1777, 1093, 1781, 1101, 495, 499, 505, 508, 1785, 1789, 1798, 1803, 1827, 1836, 1840, 1854, 1857, 1108, 491, 1861, 1865, 486, 513, 518, 1870, 1874, 1115, 1119, 1878, 1126, 1130, 1134, 1138, 1143, 1882, 1887, 1151, 1155, 1159, 1891, 1895, 1899, 1902, 1167, 1906, 1174, 1177, 1182, 1190, 1194, 1199, 1910, 1914, 1918, 1922, 1926, 1208, 1930, 1215, 1219, 1224, 1228, 1232, 1240, 1934, 1938, 1942, 1946, 1247, 1251, 1950, 1953, 1258, 1262, 1958, 1284, 1962, 1293, 550, 1966, 523, 1970, 529, 533, 537, 541, 545, 555, 559, 563, 1977] (by decide +kernel) (by decide +kernel) w h).1
theorem wsL_law_x0 : ∀ w ∈ (vx_atM "java/lang/ArrayIndexOutOfBoundsException" ["java/lang/IndexOutOfBoundsException", "java/lang/RuntimeException", "java/lang/Exception"]).filter goodWord, w ∈ lw_tbl := by decide +kernel
theorem wsL_law_x1 : ∀ w ∈ (vx_atS RX11 91 "java/lang/UnsupportedOperationException" ["java/lang/RuntimeException", "java/lang/Exception"]).filter goodWord, w ∈ lw_tbl := by decide +kernel
theorem wsL_law_x2 : ∀ w ∈ (vx_atS RX11 102 "java/lang/IllegalStateException" ["java/lang/RuntimeException", "java/lang/Exception"]).filter goodWord, w ∈ lw_tbl := by decide +kernel
theorem wsL_law_x3 : ∀ w ∈ (vx_atS RX11 214 "java/lang/IllegalArgumentException" ["java/lang/RuntimeException", "java/lang/Exception"]).filter goodWord, w ∈ lw_tbl := by decide +kernel
theorem wsL_law_x4 : ∀ w ∈ (vx_atS RX11 384 "java/lang/IndexOutOfBoundsException" ["java/lang/RuntimeException", "java/lang/Exception"]).filter goodWord, w ∈ lw_tbl := by decide +kernel
theorem wsL_law_x5 : ∀ w ∈ (vx_atS RX11 140 "java/util/NoSuchElementException" ["java/lang/RuntimeException", "java/lang/Exception"]).filter goodWord, w ∈ lw_tbl := by decide +kernel
theorem wsL_law_x6 : ∀ w ∈ (vx_atM "java/lang/ArithmeticException" ["java/lang/RuntimeException", "java/lang/Exception"]).filter goodWord, w ∈ lw_tbl := by decide +kernel
theorem wsL_law_x7 : ∀ w ∈ (vx_atS RX11 360 "java/lang/ArithmeticException" ["java/lang/RuntimeException", "java/lang/Exception"]).filter goodWord, w ∈ lw_tbl := by decide +kernel
theorem wsL_law_in : ∀ w ∈ wsL_law, w ∈ lw_tbl := fun w h => (List.mem_append.mp h).elim (fun h => (List.mem_append.mp h).elim (fun h => (List.mem_append.mp h).elim (fun h => (List.mem_append.mp h).elim (fun h => (List.mem_append.mp h).elim (fun h => (List.mem_append.mp h).elim (fun h => (List.mem_append.mp h).elim (fun h => (List.mem_append.mp h).elim (fun h => wsL_law_in0 w h) (fun h => wsL_law_x0 w h)) (fun h => wsL_law_x1 w h)) (fun h => wsL_law_x2 w h)) (fun h => wsL_law_x3 w h)) (fun h => wsL_law_x4 w h)) (fun h => wsL_law_x5 w h)) (fun h => wsL_law_x6 w h)) (fun h => wsL_law_x7 w h)
theorem inlX0 : ∀ w ∈ wsX00, w ∈ wsL_law := fun _ h => List.mem_append_left _ (List.mem_append_left _ (List.mem_append_left _ (List.mem_append_left _ (List.mem_append_left _ (List.mem_append_left _ (List.mem_append_left _ (List.mem_append_left _ (List.mem_append_left _ (List.mem_append_left _ (List.mem_append_left _ (List.mem_append_left _ (List.mem_append_left _ (List.mem_append_right _ h)))))))))))))
theorem inX0 : ∀ w ∈ wsX00, w ∈ lw_tbl := fun w h => wsL_law_in w (inlX0 w h)
theorem inlX1 : ∀ w ∈ wsX10, w ∈ wsL_law := fun _ h => List.mem_append_left _ (List.mem_append_left _ (List.mem_append_left _ (List.mem_append_left _ (List.mem_append_left _ (List.mem_append_left _ (List.mem_append_left _ (List.mem_append_left _ (List.mem_append_left _ (List.mem_append_left _ (List.mem_append_left _ (List.mem_append_left _ (List.mem_append_left _ (List.mem_append_left _ (List.mem_append_right _ h))))))))))))))
theorem inX1 : ∀ w ∈ wsX10, w ∈ lw_tbl := fun w h => wsL_law_in w (inlX1 w h)
theorem inlX2 : ∀ w ∈ wsX20, w ∈ wsL_law := fun _ h => List.mem_append_left _ (List.mem_append_left _ (List.mem_append_left _ (List.mem_append_left _ (List.mem_append_left _ (List.mem_append_left _ (List.mem_append_left _ (List.mem_append_left _ (List.mem_append_left _ (List.mem_append_left _ (List.mem_append_left _ (List.mem_append_left _ (List.mem_append_left _ (List.mem_append_left _ (List.mem_append_left _ (List.mem_append_right _ h)))))))))))))))
theorem inX2 : ∀ w ∈ wsX20, w ∈ lw_tbl := fun w h => wsL_law_in w (inlX2 w h)
theorem inlX3 : ∀ w ∈ wsX30, w ∈ wsL_law := fun _ h => List.mem_append_left _ (List.mem_append_left _ (List.mem_append_left _ (List.mem_append_left _ (List.mem_append_left _ (List.mem_append_left _ (List.mem_append_left _ (List.mem_append_left _ (List.mem_append_left _ (List.mem_append_left _ (List.mem_append_left _ (List.mem_append_left _ (List.mem_append_left _ (List.mem_append_left _ (List.mem_append_left _ (List.mem_append_left _ (List.mem_append_left _ (List.mem_append_left _ (List.mem_append_left _ (List.mem_append_left _ (List.mem_append_right _ h))))))))))))))))))))
theorem inX3 : ∀ w ∈ wsX30, w ∈ lw_tbl := fun w h => wsL_law_in w (inlX3 w h)
theorem inlX4 : ∀ w ∈ wsX40, w ∈ wsL_law := fun _ h => List.mem_append_left _ (List.mem_append_left _ (List.mem_append_left _ (List.mem_append_left _ (List.mem_append_left _ (List.mem_append_left _ (List.mem_append_left _ (List.mem_append_left _ (List.mem_append_left _ (List.mem_append_left _ (List.mem_append_left _ (List.mem_append_left _ (List.mem_append_left _ (List.mem_append_left _ (List.mem_append_left _ (List.mem_append_left _ (List.mem_append_left _ (List.mem_append_left _ (List.mem_append_left _ (List.mem_append_right _ h)))))))))))))))))))
theorem inX4 : ∀ w ∈ wsX40, w ∈ lw_tbl := fun w h => wsL_law_in w (inlX4 w h)
theorem inlX5 : ∀ w ∈ wsX50, w ∈ wsL_law := fun _ h => List.mem_append_left _ (List.mem_append_left _ (List.mem_append_left _ (List.mem_append_left _ (List.mem_append_left _ (List.mem_append_left _ (List.mem_append_left _ (List.mem_append_left _ (List.mem_append_left _ (List.mem_append_left _ (List.mem_append_left _ (List.mem_append_left _ (List.mem_append_left _ (List.mem_append_left _ (List.mem_append_left _ (List.mem_append_left _ (List.mem_append_left _ (List.mem_append_left _ (List.mem_append_left _ (List.mem_append_left _ (List.mem_append_left _ (List.mem_append_left _ (List.mem_append_right _ h))))))))))))))))))))))
theorem inX5 : ∀ w ∈ wsX50, w ∈ lw_tbl := fun w h => wsL_law_in w (inlX5 w h)
theorem inlX6 : ∀ w ∈ wsX60, w ∈ wsL_law := fun _ h => List.mem_append_left _ (List.mem_append_left _ (List.mem_append_left _ (List.mem_append_left _ (List.mem_append_left _ (List.mem_append_left _ (List.mem_append_left _ (List.mem_append_left _ (List.mem_append_left _ (List.mem_append_left _ (List.mem_append_left _ (List.mem_append_left _ (List.mem_append_left _ (List.mem_append_left _ (List.mem_append_left _ (List.mem_append_left _ (List.mem_append_left _ (List.mem_append_left _ (List.mem_append_left _ (List.mem_append_left _ (List.mem_append_left _ (List.mem_append_right _ h)))))))))))))))))))))
theorem inX6 : ∀ w ∈ wsX60, w ∈ lw_tbl := fun w h => wsL_law_in w (inlX6 w h)
theorem inlX7 : ∀ w ∈ wsX70, w ∈ wsL_law := fun _ h => List.mem_append_left _ (List.mem_append_left _ (List.mem_append_left _ (List.mem_append_left _ (List.mem_append_left _ (List.mem_append_left _ (List.mem_append_left _ (List.mem_append_left _ (List.mem_append_left _ (List.mem_append_left _ (List.mem_append_left _ (List.mem_append_left _ (List.mem_append_left _ (List.mem_append_left _ (List.mem_append_left _ (List.mem_append_left _ (List.mem_append_left _ (List.mem_append_left _ (List.mem_append_right _ h))))))))))))))))))
theorem inX7 : ∀ w ∈ wsX70, w ∈ lw_tbl := fun w h => wsL_law_in w (inlX7 w h)
theorem inlX8 : ∀ w ∈ wsX80, w ∈ wsL_law := fun _ h => List.mem_append_left _ (List.mem_append_left _ (List.mem_append_left _ (List.mem_append_left _ (List.mem_append_left _ (List.mem_append_left _ (List.mem_append_left _ (List.mem_append_left _ (List.mem_append_left _ (List.mem_append_left _ (List.mem_append_left _ (List.mem_append_left _ (List.mem_append_right _ h))))))))))))
theorem inX8 : ∀ w ∈ wsX80, w ∈ lw_tbl := fun w h => wsL_law_in w (inlX8 w h)
theorem inlX9 : ∀ w ∈ wsX90, w ∈ wsL_law := fun _ h => List.mem_append_left _ (List.mem_append_left _ (List.mem_append_left _ (List.mem_append_left _ (List.mem_append_left _ (List.mem_append_left _ (List.mem_append_left _ (List.mem_append_left _ (List.mem_append_left _ (List.mem_append_left _ (List.mem_append_left _ (List.mem_append_left _ (List.mem_append_left _ (List.mem_append_left _ (List.mem_append_left _ (List.mem_append_left _ (List.mem_append_left _ (List.mem_append_right _ h)))))))))))))))))
theorem inX9 : ∀ w ∈ wsX90, w ∈ lw_tbl := fun w h => wsL_law_in w (inlX9 w h)
theorem inlX10 : ∀ w ∈ wsX100, w ∈ wsL_law := fun _ h => List.mem_append_left _ (List.mem_append_left _ (List.mem_append_left _ (List.mem_append_left _ (List.mem_append_left _ (List.mem_append_left _ (List.mem_append_left _ (List.mem_append_left _ (List.mem_append_left _ (List.mem_append_left _ (List.mem_append_left _ (List.mem_append_left _ (List.mem_append_left _ (List.mem_append_left _ (List.mem_append_left _ (List.mem_append_left _ (List.mem_append_right _ h))))))))))))))))
theorem inX10 : ∀ w ∈ wsX100, w ∈ lw_tbl := fun w h => wsL_law_in w (inlX10 w h)
theorem inlX11 : ∀ w ∈ wsX110, w ∈ wsL_law := fun _ h => List.mem_append_left _ (List.mem_append_left _ (List.mem_append_left _ (List.mem_append_left _ (List.mem_append_left _ (List.mem_append_left _ (List.mem_append_left _ (List.mem_append_left _ (List.mem_append_left _ (List.mem_append_left _ (List.mem_append_left _ (List.mem_append_left _ (List.mem_append_left _ (List.mem_append_left _ (List.mem_append_left _ (List.mem_append_left _ (List.mem_append_left _ (List.mem_append_left _ (List.mem_append_left _ (List.mem_append_left _ (List.mem_append_left _ (List.mem_append_left _ (List.mem_append_left _ (List.mem_append_left _ (List.mem_append_right _ h))))))))))))))))))))))))
theorem inX11 : ∀ w ∈ wsX110, w ∈ lw_tbl := fun w h => wsL_law_in w (inlX11 w h)
theorem inlX12 : ∀ w ∈ wsX120, w ∈ wsL_law := fun _ h => List.mem_append_left _ (List.mem_append_left _ (List.mem_append_left _ (List.mem_append_left _ (List.mem_append_left _ (List.mem_append_left _ (List.mem_append_left _ (List.mem_append_left _ (List.mem_append_left _ (List.mem_append_left _ (List.mem_append_left _ (List.mem_append_left _ (List.mem_append_left _ (List.mem_append_left _ (List.mem_append_left _ (List.mem_append_left _ (List.mem_append_left _ (List.mem_append_left _ (List.mem_append_left _ (List.mem_append_left _ (List.mem_append_left _ (List.mem_append_left _ (List.mem_append_left _ (List.mem_append_right _ h)))))))))))))))))))))))
theorem inX12 : ∀ w ∈ wsX120, w ∈ lw_tbl := fun w h => wsL_law_in w (inlX12 w h)
theorem inJx145de : ∀ w ∈ wsJx145de0, w ∈ lw_tbl := by decide +kernel
theorem inJx00060 : ∀ w ∈ wsJx000600, w ∈ lw_tbl := by decide +kernel
theorem inJx8e188 : ∀ w ∈ wsJx8e1880, w ∈ lw_tbl := by decide +kernel
theorem inJxb160c : ∀ w ∈ wsJxb160c0, w ∈ lw_tbl := by decide +kernel
theorem inJxabbfe : ∀ w ∈ wsJxabbfe0, w ∈ lw_tbl := by decide +kernel
theorem inlJ6 : ∀ w ∈ wsJ60, w ∈ wsL_law := fun _ h => List.mem_append_left _ (List.mem_append_left _ (List.mem_append_left _ (List.mem_append_left _ (List.mem_append_left _ (List.mem_append_left _ (List.mem_append_left _ (List.mem_append_left _ (List.mem_append_left _ (List.mem_append_left _ (List.mem_append_right _ h))))))))))
theorem inJ6 : ∀ w ∈ wsJ60, w ∈ lw_tbl := fun w h => wsL_law_in w (inlJ6 w h)
theorem inJxab1ab : ∀ w ∈ wsJxab1ab0, w ∈ lw_tbl := by decide +kernel
theorem inJ13 : ∀ w ∈ wsJ130, w ∈ lw_tbl := by decide +kernel
theorem inJ9 : ∀ w ∈ wsJ90, w ∈ lw_tbl := by decide +kernel
theorem inJxd2413 : ∀ w ∈ wsJxd24130, w ∈ lw_tbl := by decide +kernel
theorem inJ0 : ∀ w ∈ wsJ00, w ∈ lw_tbl := by decide +kernel
theorem inJ10 : ∀ w ∈ wsJ100, w ∈ lw_tbl := by decide +kernel
theorem inJxfd54e : ∀ w ∈ wsJxfd54e0, w ∈ lw_tbl := by decide +kernel
theorem inJx3cf43 : ∀ w ∈ wsJx3cf430, w ∈ lw_tbl := by decide +kernel
theorem inJxa1e45 : ∀ w ∈ wsJxa1e450, w ∈ lw_tbl := by decide +kernel
theorem inJxc12de : ∀ w ∈ wsJxc12de0, w ∈ lw_tbl := by decide +kernel
theorem inlJx35411 : ∀ w ∈ wsJx354110, w ∈ wsL_law := fun _ h => List.mem_append_left _ (List.mem_append_left _ (List.mem_append_left _ (List.mem_append_left _ (List.mem_append_left _ (List.mem_append_left _ (List.mem_append_left _ (List.mem_append_left _ (List.mem_append_left _ (List.mem_append_right _ h)))))))))
theorem inJx35411 : ∀ w ∈ wsJx354110, w ∈ lw_tbl := fun w h => wsL_law_in w (inlJx35411 w h)
theorem inlJx4a65c : ∀ w ∈ wsJx4a65c0, w ∈ wsL_law := fun _ h => List.mem_append_left _ (List.mem_append_left _ (List.mem_append_left _ (List.mem_append_left _ (List.mem_append_left _ (List.mem_append_left _ (List.mem_append_left _ (List.mem_append_left _ (List.mem_append_left _ (List.mem_append_left _ (List.mem_append_left _ (List.mem_append_right _ h)))))))))))
theorem inJx4a65c : ∀ w ∈ wsJx4a65c0, w ∈ lw_tbl := fun w h => wsL_law_in w (inlJx4a65c w h)
theorem inJ7 : ∀ w ∈ wsJ70, w ∈ lw_tbl := by decide +kernel
theorem inJx5ef63 : ∀ w ∈ wsJx5ef630, w ∈ lw_tbl := by decide +kernel
theorem inJx4d0d8 : ∀ w ∈ wsJx4d0d80, w ∈ lw_tbl := by decide +kernel
theorem inJxbd725 : ∀ w ∈ wsJxbd7250, w ∈ lw_tbl := by decide +kernel
theorem inJ15 : ∀ w ∈ wsJ150, w ∈ lw_tbl := by decide +kernel
theorem inJxf0a74 : ∀ w ∈ wsJxf0a740, w ∈ lw_tbl := by decide +kernel
theorem inJxa66e6 : ∀ w ∈ wsJxa66e60, w ∈ lw_tbl := by decide +kernel
theorem inJ8 : ∀ w ∈ wsJ80, w ∈ lw_tbl := by decide +kernel
theorem inJ3 : ∀ w ∈ wsJ30, w ∈ lw_tbl := by decide +kernel
set_option maxRecDepth 20000 in
theorem ggX5_has_X11_isIn : GoodIn wsX5_has wsX11_isIn := goodIn_r _ [4] (by decide +kernel) (by decide +kernel)
set_option maxRecDepth 20000 in
theorem gX5_has_X11_isIn_n31 : GoodIn wsX5_has (wsX11_isIn) := ggX5_has_X11_isIn
theorem dX5_has_0 : decode cX5_has 0 = .ok (.iload_n 1, 1) := by decide +kernel
theorem dX5_has_1 : decode cX5_has 1 = .ok (.ifCond .lt 24, 3) := by decide +kernel
theorem dX5_has_4 : decode cX5_has 4 = .ok (.iload_n 1, 1) := by decide +kernel
theorem dX5_has_5 : decode cX5_has 5 = .ok (.bipush 12, 2) := by decide +kernel
theorem dX5_has_7 : decode cX5_has 7 = .ok (.if_icmp .ge 18, 3) := by decide +kernel
theorem dX5_has_10 : decode cX5_has 10 = .ok (.aload_n 0, 1) := by decide +kernel
theorem dX5_has_11 : decode cX5_has 11 = .ok (.getfield 27, 3) := by decide +kernel
theorem dX5_has_14 : decode cX5_has 14 = .ok (.iload_n 1, 1) := by decide +kernel
theorem dX5_has_15 : decode cX5_has 15 = .ok (.invokestatic 31, 3) := by decide +kernel
theorem dX5_has_18 : decode cX5_has 18 = .ok (.ifCond .eq 7, 3) := by decide +kernel
theorem dX5_has_25 : decode cX5_has 25 = .ok (.iconst 0, 1) := by decide +kernel
theorem dX5_has_26 : decode cX5_has 26 = .ok (.ireturn, 1) := by decide +kernel
set_option maxRecDepth 20000 in
theorem ggX5_numberAt_X5_has : GoodIn wsX5_numberAt wsX5_has := goodIn_r _ [7, 8, 9, 10, 11, 12, 13, 14, 15, 16, 17, 18] (by decide +kernel) (by decide +kernel)
set_option maxRecDepth 20000 in
theorem gX5_numberAt_X5_has : GoodIn wsX5_numberAt (wsV RX5 41 RX5 yX5_has wsX5_has) := goodIn_app (goodIn_of _ (by decide +kernel)) ggX5_numberAt_X5_has
theorem dX5_numberAt_0 : decode cX5_numberAt 0 = .ok (.iconst 0, 1) := by decide +kernel
theorem dX5_numberAt_1 : decode cX5_numberAt 1 = .ok (.istore_n 3, 1) := by decide +kernel
theorem dX5_numberAt_2 : decode cX5_numberAt 2 = .ok (.iload_n 3, 1) := by decide +kernel
theorem dX5_numberAt_3 : decode cX5_numberAt 3 = .ok (.bipush 12, 2) := by decide +kernel
theorem dX5_numberAt_5 : decode cX5_numberAt 5 = .ok (.if_icmp .ge 39, 3) := by decide +kernel
theorem dX5_numberAt_8 : decode cX5_numberAt 8 = .ok (.aload_n 0, 1) := by decide +kernel
theorem dX5_numberAt_9 : decode cX5_numberAt 9 = .ok (.iload_n 3, 1) := by decide +kernel
theorem dX5_numberAt_10 : decode cX5_numberAt 10 = .ok (.invokevirtual 41, 3) := by decide +kernel
theorem dX5_numberAt_13 : decode cX5_numberAt 13 = .ok (.ifCond .eq 25, 3) := by decide +kernel
theorem dX5_numberAt_38 : decode cX5_numberAt 38 = .ok (.iinc 3 1, 3) := by decide +kernel
theorem dX5_numberAt_41 : decode cX5_numberAt 41 = .ok (.goto (-39), 3) := by decide +kernel
theorem dX5_numberAt_44 : decode cX5_numberAt 44 = .ok (.iconst (-1), 1) := by decide +kernel
theorem dX5_numberAt_45 : decode cX5_numberAt 45 = .ok (.ireturn, 1) := by decide +kernel
set_option maxRecDepth 20000 in
theorem ggX11_remove_X11_needPoint : GoodIn wsX11_remove wsX11_needPoint := goodIn_ca (goodIn_r _ [7, 8, 9, 2, 10, 11, 12, 13, 14, 15, 16, 6, 17, 56, 57, 58, 59, 60, 61, 62, 63, 64, 65, 66, 67, 68, 69, 70, 71, 72] (by decide +kernel) (by decide +kernel)) (goodIn_sub (fun _ h => List.mem_cons_of_mem _ (List.mem_append_left _ (List.mem_append_right _ h))) (by decide +kernel))
set_option maxRecDepth 20000 in
theorem gX11_remove_X11_needPoint : GoodIn wsX11_remove (wsV RX11 110 RX11 yX11_needPoint wsX11_needPoint) := goodIn_app (goodIn_of _ (by decide +kernel)) ggX11_remove_X11_needPoint
theorem dX11_remove_0 : decode cX11_remove 0 = .ok (.aload_n 0, 1) := by decide +kernel
theorem dX11_remove_1 : decode cX11_remove 1 = .ok (.iload_n 1, 1) := by decide +kernel
theorem dX11_remove_2 : decode cX11_remove 2 = .ok (.invokevirtual 110, 3) := by decide +kernel
set_option maxRecDepth 20000 in
theorem ggX11_needPoint_X5_has : GoodIn wsX11_needPoint wsX5_has := goodIn_r _ [8, 9, 10, 11, 12, 23, 24, 25, 26, 27, 28, 29] (by decide +kernel) (by decide +kernel)
set_option maxRecDepth 20000 in
theorem gX11_needPoint_X5_has : GoodIn wsX11_needPoint (wsV RX11 160 RX5 yX5_has wsX5_has) := goodIn_app (goodIn_of _ (by decide +kernel)) ggX11_needPoint_X5_has
theorem dX11_needPoint_0 : decode cX11_needPoint 0 = .ok (.aload_n 0, 1) := by decide +kernel
theorem dX11_needPoint_1 : decode cX11_needPoint 1 = .ok (.getfield 12, 3) := by decide +kernel
theorem dX11_needPoint_4 : decode cX11_needPoint 4 = .ok (.iload_n 1, 1) := by decide +kernel
theorem dX11_needPoint_5 : decode cX11_needPoint 5 = .ok (.invokevirtual 160, 3) := by decide +kernel
theorem dX11_needPoint_8 : decode cX11_needPoint 8 = .ok (.ifCond .ne 14, 3) := by decide +kernel
theorem dX11_needPoint_11 : decode cX11_needPoint 11 = .ok (.new 380, 3) := by decide +kernel
theorem dX11_needPoint_14 : decode cX11_needPoint 14 = .ok (.dup, 1) := by decide +kernel
theorem dX11_needPoint_15 : decode cX11_needPoint 15 = .ok (.ldc_w 382, 3) := by decide +kernel
theorem dX11_needPoint_18 : decode cX11_needPoint 18 = .ok (.invokespecial 384, 3) := by decide +kernel
theorem dX11_needPoint_21 : decode cX11_needPoint 21 = .ok (.athrow, 1) := by decide +kernel
theorem dX11_needRange_0 : decode cX11_needRange 0 = .ok (.iload_n 0, 1) := by decide +kernel
theorem dX11_needRange_1 : decode cX11_needRange 1 = .ok (.iload_n 1, 1) := by decide +kernel
theorem dX11_needRange_2 : decode cX11_needRange 2 = .ok (.if_icmp .lt 8, 3) := by decide +kernel
theorem dX11_needRange_5 : decode cX11_needRange 5 = .ok (.iload_n 0, 1) := by decide +kernel
theorem dX11_needRange_6 : decode cX11_needRange 6 = .ok (.iload_n 2, 1) := by decide +kernel
theorem dX11_needRange_7 : decode cX11_needRange 7 = .ok (.if_icmp .le 14, 3) := by decide +kernel
theorem dX11_needRange_10 : decode cX11_needRange 10 = .ok (.new 210, 3) := by decide +kernel
theorem dX11_needRange_13 : decode cX11_needRange 13 = .ok (.dup, 1) := by decide +kernel
theorem dX11_needRange_14 : decode cX11_needRange 14 = .ok (.ldc_w 385, 3) := by decide +kernel
theorem dX11_needRange_17 : decode cX11_needRange 17 = .ok (.invokespecial 214, 3) := by decide +kernel
theorem dX11_needRange_20 : decode cX11_needRange 20 = .ok (.athrow, 1) := by decide +kernel
theorem dX11_needRange_21 : decode cX11_needRange 21 = .ok (.return_, 1) := by decide +kernel
set_option maxRecDepth 20000 in
theorem ggX11_needBoth_X11_needRange : GoodIn wsX11_needBoth wsX11_needRange := goodIn_ca (goodIn_r _ [4, 5, 6] (by decide +kernel) (by decide +kernel)) (goodIn_sub (fun _ h => List.mem_cons_of_mem _ (List.mem_append_right _ h)) (by decide +kernel))
set_option maxRecDepth 20000 in
theorem gX11_needBoth_X11_needRange : GoodIn wsX11_needBoth (va_wsS RX11 129 yX11_needRange wsX11_needRange) := goodIn_app (goodIn_of _ (by decide +kernel)) ggX11_needBoth_X11_needRange
theorem dX11_needBoth_0 : decode cX11_needBoth 0 = .ok (.iload_n 0, 1) := by decide +kernel
theorem dX11_needBoth_1 : decode cX11_needBoth 1 = .ok (.iload_n 2, 1) := by decide +kernel
theorem dX11_needBoth_2 : decode cX11_needBoth 2 = .ok (.ineg, 1) := by decide +kernel
theorem dX11_needBoth_3 : decode cX11_needBoth 3 = .ok (.iload_n 2, 1) := by decide +kernel
theorem dX11_needBoth_4 : decode cX11_needBoth 4 = .ok (.invokestatic 129, 3) := by decide +kernel
theorem dX11_needBoth_7 : decode cX11_needBoth 7 = .ok (.iload_n 1, 1) := by decide +kernel
theorem dX11_needBoth_8 : decode cX11_needBoth 8 = .ok (.iload_n 2, 1) := by decide +kernel
theorem dX11_needBoth_9 : decode cX11_needBoth 9 = .ok (.ineg, 1) := by decide +kernel
theorem dX11_needBoth_10 : decode cX11_needBoth 10 = .ok (.iload_n 2, 1) := by decide +kernel
theorem dX11_needBoth_11 : decode cX11_needBoth 11 = .ok (.invokestatic 129, 3) := by decide +kernel
theorem dX11_needBoth_14 : decode cX11_needBoth 14 = .ok (.return_, 1) := by decide +kernel
theorem dX11_isIn_0 : decode cX11_isIn 0 = .ok (.iload_n 0, 1) := by decide +kernel
theorem dX11_isIn_1 : decode cX11_isIn 1 = .ok (.iload_n 1, 1) := by decide +kernel
theorem dX11_isIn_2 : decode cX11_isIn 2 = .ok (.ishr, 1) := by decide +kernel
theorem dX11_isIn_3 : decode cX11_isIn 3 = .ok (.iconst 1, 1) := by decide +kernel
theorem dX11_isIn_4 : decode cX11_isIn 4 = .ok (.iand, 1) := by decide +kernel
theorem dX11_isIn_5 : decode cX11_isIn 5 = .ok (.ifCond .eq 7, 3) := by decide +kernel
theorem dX11_isIn_12 : decode cX11_isIn 12 = .ok (.iconst 0, 1) := by decide +kernel
theorem dX11_isIn_13 : decode cX11_isIn 13 = .ok (.ireturn, 1) := by decide +kernel
abbrev vwCl : List vw_C := [(RJ0, TJ0, 2), (RJ6, TJ6, 1), (RJx00060, TJx00060, 6), (RJx35411, TJx35411, 4), (RJx4a65c, TJx4a65c, 3), (RX0, TX0, 2), (RX1, TX1, 3), (RX2, TX2, 1), (RX3, TX3, 4), (RX4, TX4, 4), (RX5, TX5, 7), (RX6, TX6, 3), (RX7, TX7, 2), (RX8, TX8, 2), (RX9, TX9, 3), (RX10, TX10, 5), (RX11, TX11, 10), (RX12, TX12, 5)]

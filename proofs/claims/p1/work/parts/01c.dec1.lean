theorem dX11_nearestAt_0 : decode cX11_nearestAt 0 = .ok (.iload_n 1, 1) := by decide +kernel
theorem dX11_nearestAt_1 : decode cX11_nearestAt 1 = .ok (.invokestatic 149, 3) := by decide +kernel
theorem dX11_nearestAt_4 : decode cX11_nearestAt 4 = .ok (.iload_n 2, 1) := by decide +kernel
theorem dX11_nearestAt_5 : decode cX11_nearestAt 5 = .ok (.iload_n 3, 1) := by decide +kernel
theorem dX11_nearestAt_6 : decode cX11_nearestAt 6 = .ok (.sipush 999, 3) := by decide +kernel
theorem dX11_nearestAt_9 : decode cX11_nearestAt 9 = .ok (.invokestatic 79, 3) := by decide +kernel
theorem dX11_nearestAt_12 : decode cX11_nearestAt 12 = .ok (.iconst 0, 1) := by decide +kernel
theorem dX11_nearestAt_13 : decode cX11_nearestAt 13 = .ok (.istore 5, 2) := by decide +kernel
theorem dX11_nearestAt_15 : decode cX11_nearestAt 15 = .ok (.iload 5, 2) := by decide +kernel
theorem dX11_nearestAt_17 : decode cX11_nearestAt 17 = .ok (.bipush 12, 2) := by decide +kernel
theorem dX11_nearestAt_19 : decode cX11_nearestAt 19 = .ok (.if_icmp .ge 41, 3) := by decide +kernel
theorem dX11_nearestAt_22 : decode cX11_nearestAt 22 = .ok (.aload_n 0, 1) := by decide +kernel
theorem dX11_nearestAt_23 : decode cX11_nearestAt 23 = .ok (.getfield 12, 3) := by decide +kernel
theorem dX11_nearestAt_26 : decode cX11_nearestAt 26 = .ok (.iload 5, 2) := by decide +kernel
theorem dX11_nearestAt_28 : decode cX11_nearestAt 28 = .ok (.invokevirtual 160, 3) := by decide +kernel
theorem dX11_nearestAt_31 : decode cX11_nearestAt 31 = .ok (.ifCond .eq 23, 3) := by decide +kernel
theorem dX11_nearestAt_54 : decode cX11_nearestAt 54 = .ok (.iinc 5 1, 3) := by decide +kernel
theorem dX11_nearestAt_57 : decode cX11_nearestAt 57 = .ok (.goto (-42), 3) := by decide +kernel
theorem dX11_nearestAt_60 : decode cX11_nearestAt 60 = .ok (.new 136, 3) := by decide +kernel
theorem dX11_nearestAt_63 : decode cX11_nearestAt 63 = .ok (.dup, 1) := by decide +kernel
theorem dX11_nearestAt_64 : decode cX11_nearestAt 64 = .ok (.ldc 170, 2) := by decide +kernel
theorem dX11_nearestAt_66 : decode cX11_nearestAt 66 = .ok (.invokespecial 140, 3) := by decide +kernel
theorem dX11_nearestAt_69 : decode cX11_nearestAt 69 = .ok (.athrow, 1) := by decide +kernel
theorem dX11_within_0 : decode cX11_within 0 = .ok (.iload_n 1, 1) := by decide +kernel
theorem dX11_within_1 : decode cX11_within 1 = .ok (.iload_n 2, 1) := by decide +kernel
theorem dX11_within_2 : decode cX11_within 2 = .ok (.sipush 999, 3) := by decide +kernel
theorem dX11_within_5 : decode cX11_within 5 = .ok (.invokestatic 79, 3) := by decide +kernel
theorem dX11_within_8 : decode cX11_within 8 = .ok (.iload_n 3, 1) := by decide +kernel
theorem dX11_within_9 : decode cX11_within 9 = .ok (.iconst 0, 1) := by decide +kernel
theorem dX11_within_10 : decode cX11_within 10 = .ok (.ldc 172, 2) := by decide +kernel
theorem dX11_within_12 : decode cX11_within 12 = .ok (.invokestatic 129, 3) := by decide +kernel
theorem dX11_within_15 : decode cX11_within 15 = .ok (.iconst 0, 1) := by decide +kernel
theorem dX11_within_16 : decode cX11_within 16 = .ok (.istore 4, 2) := by decide +kernel
theorem dX11_within_18 : decode cX11_within 18 = .ok (.iconst 0, 1) := by decide +kernel
theorem dX11_within_19 : decode cX11_within 19 = .ok (.istore 5, 2) := by decide +kernel
theorem dX11_within_21 : decode cX11_within 21 = .ok (.iload 5, 2) := by decide +kernel
theorem dX11_within_23 : decode cX11_within 23 = .ok (.bipush 12, 2) := by decide +kernel
theorem dX11_within_25 : decode cX11_within 25 = .ok (.if_icmp .ge 41, 3) := by decide +kernel
theorem dX11_within_28 : decode cX11_within 28 = .ok (.aload_n 0, 1) := by decide +kernel
theorem dX11_within_29 : decode cX11_within 29 = .ok (.getfield 12, 3) := by decide +kernel
theorem dX11_within_32 : decode cX11_within 32 = .ok (.iload 5, 2) := by decide +kernel
theorem dX11_within_34 : decode cX11_within 34 = .ok (.invokevirtual 160, 3) := by decide +kernel
theorem dX11_within_37 : decode cX11_within 37 = .ok (.ifCond .eq 23, 3) := by decide +kernel
theorem dX11_within_60 : decode cX11_within 60 = .ok (.iinc 5 1, 3) := by decide +kernel
theorem dX11_within_63 : decode cX11_within 63 = .ok (.goto (-42), 3) := by decide +kernel
theorem dX11_within_66 : decode cX11_within 66 = .ok (.iload 4, 2) := by decide +kernel
theorem dX11_within_68 : decode cX11_within 68 = .ok (.ireturn, 1) := by decide +kernel
theorem dX11_cell_0 : decode cX11_cell 0 = .ok (.aload_n 0, 1) := by decide +kernel
theorem dX11_cell_1 : decode cX11_cell 1 = .ok (.iload_n 2, 1) := by decide +kernel
theorem dX11_cell_2 : decode cX11_cell 2 = .ok (.invokevirtual 110, 3) := by decide +kernel
theorem dX11_turn_0 : decode cX11_turn 0 = .ok (.aload_n 0, 1) := by decide +kernel
theorem dX11_turn_1 : decode cX11_turn 1 = .ok (.iload_n 1, 1) := by decide +kernel
theorem dX11_turn_2 : decode cX11_turn 2 = .ok (.invokevirtual 110, 3) := by decide +kernel
theorem dX11_inCircle_0 : decode cX11_inCircle 0 = .ok (.aload_n 0, 1) := by decide +kernel
theorem dX11_inCircle_1 : decode cX11_inCircle 1 = .ok (.iload_n 1, 1) := by decide +kernel
theorem dX11_inCircle_2 : decode cX11_inCircle 2 = .ok (.invokevirtual 110, 3) := by decide +kernel
theorem dX11_countTriangles_0 : decode cX11_countTriangles 0 = .ok (.aload_n 0, 1) := by decide +kernel
theorem dX11_countTriangles_1 : decode cX11_countTriangles 1 = .ok (.getfield 26, 3) := by decide +kernel
theorem dX11_countTriangles_4 : decode cX11_countTriangles 4 = .ok (.aload_n 0, 1) := by decide +kernel
theorem dX11_countTriangles_5 : decode cX11_countTriangles 5 = .ok (.getfield 12, 3) := by decide +kernel
theorem dX11_countTriangles_8 : decode cX11_countTriangles 8 = .ok (.invokevirtual 187, 3) := by decide +kernel
theorem dX11_countTriangles_11 : decode cX11_countTriangles 11 = .ok (.aload_n 0, 1) := by decide +kernel
theorem dX11_countTriangles_12 : decode cX11_countTriangles 12 = .ok (.getfield 26, 3) := by decide +kernel
theorem dX11_countTriangles_15 : decode cX11_countTriangles 15 = .ok (.getfield 190, 3) := by decide +kernel
theorem dX11_countTriangles_18 : decode cX11_countTriangles 18 = .ok (.ireturn, 1) := by decide +kernel
theorem dX11_isTriangle_0 : decode cX11_isTriangle 0 = .ok (.aload_n 0, 1) := by decide +kernel
theorem dX11_isTriangle_1 : decode cX11_isTriangle 1 = .ok (.iload_n 1, 1) := by decide +kernel
theorem dX11_isTriangle_2 : decode cX11_isTriangle 2 = .ok (.invokevirtual 110, 3) := by decide +kernel
theorem dX11_areNeighbours_0 : decode cX11_areNeighbours 0 = .ok (.aload_n 0, 1) := by decide +kernel
theorem dX11_areNeighbours_1 : decode cX11_areNeighbours 1 = .ok (.iload_n 1, 1) := by decide +kernel
theorem dX11_areNeighbours_2 : decode cX11_areNeighbours 2 = .ok (.invokevirtual 110, 3) := by decide +kernel
theorem dX11_countNeighbours_0 : decode cX11_countNeighbours 0 = .ok (.aload_n 0, 1) := by decide +kernel
theorem dX11_countNeighbours_1 : decode cX11_countNeighbours 1 = .ok (.iload_n 1, 1) := by decide +kernel
theorem dX11_countNeighbours_2 : decode cX11_countNeighbours 2 = .ok (.invokevirtual 110, 3) := by decide +kernel
theorem dX11_isJoined_0 : decode cX11_isJoined 0 = .ok (.aload_n 0, 1) := by decide +kernel
theorem dX11_isJoined_1 : decode cX11_isJoined 1 = .ok (.iload_n 2, 1) := by decide +kernel
theorem dX11_isJoined_2 : decode cX11_isJoined 2 = .ok (.invokevirtual 110, 3) := by decide +kernel
theorem dX11_countJoined_0 : decode cX11_countJoined 0 = .ok (.iload_n 1, 1) := by decide +kernel
theorem dX11_countJoined_1 : decode cX11_countJoined 1 = .ok (.invokestatic 207, 3) := by decide +kernel
theorem dX11_countJoined_4 : decode cX11_countJoined 4 = .ok (.aload_n 0, 1) := by decide +kernel
theorem dX11_countJoined_5 : decode cX11_countJoined 5 = .ok (.getfield 33, 3) := by decide +kernel
theorem dX11_countJoined_8 : decode cX11_countJoined 8 = .ok (.aload_n 0, 1) := by decide +kernel
theorem dX11_countJoined_9 : decode cX11_countJoined 9 = .ok (.getfield 12, 3) := by decide +kernel
theorem dX11_countJoined_12 : decode cX11_countJoined 12 = .ok (.invokevirtual 215, 3) := by decide +kernel
theorem dX11_countJoined_15 : decode cX11_countJoined 15 = .ok (.aload_n 0, 1) := by decide +kernel
theorem dX11_countJoined_16 : decode cX11_countJoined 16 = .ok (.getfield 33, 3) := by decide +kernel
theorem dX11_countJoined_19 : decode cX11_countJoined 19 = .ok (.aload_n 0, 1) := by decide +kernel
theorem dX11_countJoined_20 : decode cX11_countJoined 20 = .ok (.getfield 12, 3) := by decide +kernel
theorem dX11_countJoined_23 : decode cX11_countJoined 23 = .ok (.iload_n 1, 1) := by decide +kernel
theorem dX11_countJoined_24 : decode cX11_countJoined 24 = .ok (.invokevirtual 222, 3) := by decide +kernel
theorem dX11_countJoined_27 : decode cX11_countJoined 27 = .ok (.ireturn, 1) := by decide +kernel
theorem dX11_treeSum_0 : decode cX11_treeSum 0 = .ok (.aload_n 0, 1) := by decide +kernel
theorem dX11_treeSum_1 : decode cX11_treeSum 1 = .ok (.getfield 33, 3) := by decide +kernel
theorem dX11_treeSum_4 : decode cX11_treeSum 4 = .ok (.aload_n 0, 1) := by decide +kernel
theorem dX11_treeSum_5 : decode cX11_treeSum 5 = .ok (.getfield 12, 3) := by decide +kernel
theorem dX11_treeSum_8 : decode cX11_treeSum 8 = .ok (.invokevirtual 215, 3) := by decide +kernel
theorem dX11_treeSum_11 : decode cX11_treeSum 11 = .ok (.aload_n 0, 1) := by decide +kernel
theorem dX11_treeSum_12 : decode cX11_treeSum 12 = .ok (.getfield 33, 3) := by decide +kernel
theorem dX11_treeSum_15 : decode cX11_treeSum 15 = .ok (.getfield 226, 3) := by decide +kernel
theorem dX11_treeSum_18 : decode cX11_treeSum 18 = .ok (.ireturn, 1) := by decide +kernel
theorem dX11_steps_0 : decode cX11_steps 0 = .ok (.aload_n 0, 1) := by decide +kernel
theorem dX11_steps_1 : decode cX11_steps 1 = .ok (.iload_n 1, 1) := by decide +kernel
theorem dX11_steps_2 : decode cX11_steps 2 = .ok (.invokevirtual 110, 3) := by decide +kernel
theorem dX11_countHull_0 : decode cX11_countHull 0 = .ok (.aload_n 0, 1) := by decide +kernel
theorem dX11_countHull_1 : decode cX11_countHull 1 = .ok (.getfield 40, 3) := by decide +kernel
theorem dX11_countHull_4 : decode cX11_countHull 4 = .ok (.aload_n 0, 1) := by decide +kernel
theorem dX11_countHull_5 : decode cX11_countHull 5 = .ok (.getfield 12, 3) := by decide +kernel
theorem dX11_countHull_8 : decode cX11_countHull 8 = .ok (.invokevirtual 234, 3) := by decide +kernel
theorem dX11_countHull_11 : decode cX11_countHull 11 = .ok (.aload_n 0, 1) := by decide +kernel
theorem dX11_countHull_12 : decode cX11_countHull 12 = .ok (.getfield 40, 3) := by decide +kernel
theorem dX11_countHull_15 : decode cX11_countHull 15 = .ok (.getfield 235, 3) := by decide +kernel
theorem dX11_countHull_18 : decode cX11_countHull 18 = .ok (.ireturn, 1) := by decide +kernel
theorem dX11_hullAt_0 : decode cX11_hullAt 0 = .ok (.aload_n 0, 1) := by decide +kernel
theorem dX11_hullAt_1 : decode cX11_hullAt 1 = .ok (.getfield 40, 3) := by decide +kernel
theorem dX11_hullAt_4 : decode cX11_hullAt 4 = .ok (.aload_n 0, 1) := by decide +kernel
theorem dX11_hullAt_5 : decode cX11_hullAt 5 = .ok (.getfield 12, 3) := by decide +kernel
theorem dX11_hullAt_8 : decode cX11_hullAt 8 = .ok (.invokevirtual 234, 3) := by decide +kernel
theorem dX11_hullAt_11 : decode cX11_hullAt 11 = .ok (.iload_n 1, 1) := by decide +kernel
theorem dX11_hullAt_12 : decode cX11_hullAt 12 = .ok (.ifCond .lt 26, 3) := by decide +kernel
theorem dX11_hullAt_15 : decode cX11_hullAt 15 = .ok (.iload_n 1, 1) := by decide +kernel
theorem dX11_hullAt_16 : decode cX11_hullAt 16 = .ok (.aload_n 0, 1) := by decide +kernel
theorem dX11_hullAt_17 : decode cX11_hullAt 17 = .ok (.getfield 40, 3) := by decide +kernel
theorem dX11_hullAt_20 : decode cX11_hullAt 20 = .ok (.getfield 235, 3) := by decide +kernel
theorem dX11_hullAt_23 : decode cX11_hullAt 23 = .ok (.if_icmp .ge 15, 3) := by decide +kernel
theorem dX11_hullAt_38 : decode cX11_hullAt 38 = .ok (.new 136, 3) := by decide +kernel
theorem dX11_hullAt_41 : decode cX11_hullAt 41 = .ok (.dup, 1) := by decide +kernel
theorem dX11_hullAt_42 : decode cX11_hullAt 42 = .ok (.ldc 239, 2) := by decide +kernel
theorem dX11_hullAt_44 : decode cX11_hullAt 44 = .ok (.invokespecial 140, 3) := by decide +kernel
theorem dX11_hullAt_47 : decode cX11_hullAt 47 = .ok (.athrow, 1) := by decide +kernel
theorem dX11_hullArea_0 : decode cX11_hullArea 0 = .ok (.aload_n 0, 1) := by decide +kernel
theorem dX11_hullArea_1 : decode cX11_hullArea 1 = .ok (.getfield 40, 3) := by decide +kernel
theorem dX11_hullArea_4 : decode cX11_hullArea 4 = .ok (.aload_n 0, 1) := by decide +kernel
theorem dX11_hullArea_5 : decode cX11_hullArea 5 = .ok (.getfield 12, 3) := by decide +kernel
theorem dX11_hullArea_8 : decode cX11_hullArea 8 = .ok (.invokevirtual 234, 3) := by decide +kernel
theorem dX11_hullArea_11 : decode cX11_hullArea 11 = .ok (.aload_n 0, 1) := by decide +kernel
theorem dX11_hullArea_12 : decode cX11_hullArea 12 = .ok (.getfield 40, 3) := by decide +kernel
theorem dX11_hullArea_15 : decode cX11_hullArea 15 = .ok (.aload_n 0, 1) := by decide +kernel
theorem dX11_hullArea_16 : decode cX11_hullArea 16 = .ok (.getfield 12, 3) := by decide +kernel
theorem dX11_hullArea_19 : decode cX11_hullArea 19 = .ok (.invokevirtual 241, 3) := by decide +kernel
theorem dX11_hullArea_22 : decode cX11_hullArea 22 = .ok (.ireturn, 1) := by decide +kernel
theorem dX11_layer_0 : decode cX11_layer 0 = .ok (.aload_n 0, 1) := by decide +kernel
theorem dX11_layer_1 : decode cX11_layer 1 = .ok (.iload_n 1, 1) := by decide +kernel
theorem dX11_layer_2 : decode cX11_layer 2 = .ok (.invokevirtual 110, 3) := by decide +kernel
theorem dX11_depth_0 : decode cX11_depth 0 = .ok (.aload_n 0, 1) := by decide +kernel
theorem dX11_depth_1 : decode cX11_depth 1 = .ok (.iload_n 1, 1) := by decide +kernel
theorem dX11_depth_2 : decode cX11_depth 2 = .ok (.invokevirtual 110, 3) := by decide +kernel
theorem dX11_countParts_0 : decode cX11_countParts 0 = .ok (.iload_n 1, 1) := by decide +kernel
theorem dX11_countParts_1 : decode cX11_countParts 1 = .ok (.iconst 0, 1) := by decide +kernel
theorem dX11_countParts_2 : decode cX11_countParts 2 = .ok (.ldc 252, 2) := by decide +kernel
theorem dX11_countParts_4 : decode cX11_countParts 4 = .ok (.invokestatic 129, 3) := by decide +kernel
theorem dX11_countParts_7 : decode cX11_countParts 7 = .ok (.aload_n 0, 1) := by decide +kernel
theorem dX11_countParts_8 : decode cX11_countParts 8 = .ok (.getfield 26, 3) := by decide +kernel
theorem dX11_countParts_11 : decode cX11_countParts 11 = .ok (.aload_n 0, 1) := by decide +kernel
theorem dX11_countParts_12 : decode cX11_countParts 12 = .ok (.getfield 12, 3) := by decide +kernel
theorem dX11_countParts_15 : decode cX11_countParts 15 = .ok (.invokevirtual 187, 3) := by decide +kernel
theorem dX11_countParts_18 : decode cX11_countParts 18 = .ok (.aload_n 0, 1) := by decide +kernel
theorem dX11_countParts_19 : decode cX11_countParts 19 = .ok (.getfield 47, 3) := by decide +kernel
theorem dX11_countParts_22 : decode cX11_countParts 22 = .ok (.aload_n 0, 1) := by decide +kernel
theorem dX11_countParts_23 : decode cX11_countParts 23 = .ok (.getfield 12, 3) := by decide +kernel
theorem dX11_countParts_26 : decode cX11_countParts 26 = .ok (.aload_n 0, 1) := by decide +kernel
theorem dX11_countParts_27 : decode cX11_countParts 27 = .ok (.getfield 26, 3) := by decide +kernel
theorem dX11_countParts_30 : decode cX11_countParts 30 = .ok (.iload_n 1, 1) := by decide +kernel
theorem dX11_countParts_31 : decode cX11_countParts 31 = .ok (.invokevirtual 253, 3) := by decide +kernel
theorem dX11_countParts_34 : decode cX11_countParts 34 = .ok (.aload_n 0, 1) := by decide +kernel
theorem dX11_countParts_35 : decode cX11_countParts 35 = .ok (.getfield 47, 3) := by decide +kernel
theorem dX11_countParts_38 : decode cX11_countParts 38 = .ok (.getfield 257, 3) := by decide +kernel
theorem dX11_countParts_41 : decode cX11_countParts 41 = .ok (.getfield 261, 3) := by decide +kernel
theorem dX11_countParts_44 : decode cX11_countParts 44 = .ok (.ireturn, 1) := by decide +kernel
theorem dX11_countHoles_0 : decode cX11_countHoles 0 = .ok (.iload_n 1, 1) := by decide +kernel
theorem dX11_countHoles_1 : decode cX11_countHoles 1 = .ok (.iconst 0, 1) := by decide +kernel
theorem dX11_countHoles_2 : decode cX11_countHoles 2 = .ok (.ldc 252, 2) := by decide +kernel
theorem dX11_countHoles_4 : decode cX11_countHoles 4 = .ok (.invokestatic 129, 3) := by decide +kernel
theorem dX11_countHoles_7 : decode cX11_countHoles 7 = .ok (.aload_n 0, 1) := by decide +kernel
theorem dX11_countHoles_8 : decode cX11_countHoles 8 = .ok (.getfield 26, 3) := by decide +kernel
theorem dX11_countHoles_11 : decode cX11_countHoles 11 = .ok (.aload_n 0, 1) := by decide +kernel
theorem dX11_countHoles_12 : decode cX11_countHoles 12 = .ok (.getfield 12, 3) := by decide +kernel
theorem dX11_countHoles_15 : decode cX11_countHoles 15 = .ok (.invokevirtual 187, 3) := by decide +kernel
theorem dX11_countHoles_18 : decode cX11_countHoles 18 = .ok (.aload_n 0, 1) := by decide +kernel
theorem dX11_countHoles_19 : decode cX11_countHoles 19 = .ok (.getfield 47, 3) := by decide +kernel
theorem dX11_countHoles_22 : decode cX11_countHoles 22 = .ok (.aload_n 0, 1) := by decide +kernel
theorem dX11_countHoles_23 : decode cX11_countHoles 23 = .ok (.getfield 12, 3) := by decide +kernel
theorem dX11_countHoles_26 : decode cX11_countHoles 26 = .ok (.aload_n 0, 1) := by decide +kernel
theorem dX11_countHoles_27 : decode cX11_countHoles 27 = .ok (.getfield 26, 3) := by decide +kernel
theorem dX11_countHoles_30 : decode cX11_countHoles 30 = .ok (.iload_n 1, 1) := by decide +kernel
theorem dX11_countHoles_31 : decode cX11_countHoles 31 = .ok (.invokevirtual 253, 3) := by decide +kernel
theorem dX11_countHoles_34 : decode cX11_countHoles 34 = .ok (.aload_n 0, 1) := by decide +kernel
theorem dX11_countHoles_35 : decode cX11_countHoles 35 = .ok (.getfield 47, 3) := by decide +kernel
theorem dX11_countHoles_38 : decode cX11_countHoles 38 = .ok (.getfield 264, 3) := by decide +kernel
theorem dX11_countHoles_41 : decode cX11_countHoles 41 = .ok (.aload_n 0, 1) := by decide +kernel
theorem dX11_countHoles_42 : decode cX11_countHoles 42 = .ok (.getfield 12, 3) := by decide +kernel
theorem dX11_countHoles_45 : decode cX11_countHoles 45 = .ok (.invokevirtual 117, 3) := by decide +kernel
theorem dX11_countHoles_48 : decode cX11_countHoles 48 = .ok (.isub, 1) := by decide +kernel
theorem dX11_countHoles_49 : decode cX11_countHoles 49 = .ok (.aload_n 0, 1) := by decide +kernel
theorem dX11_countHoles_50 : decode cX11_countHoles 50 = .ok (.getfield 47, 3) := by decide +kernel
theorem dX11_countHoles_53 : decode cX11_countHoles 53 = .ok (.getfield 257, 3) := by decide +kernel
theorem dX11_countHoles_56 : decode cX11_countHoles 56 = .ok (.getfield 261, 3) := by decide +kernel
theorem dX11_countHoles_59 : decode cX11_countHoles 59 = .ok (.iadd, 1) := by decide +kernel
theorem dX11_countHoles_60 : decode cX11_countHoles 60 = .ok (.aload_n 0, 1) := by decide +kernel
theorem dX11_countHoles_61 : decode cX11_countHoles 61 = .ok (.getfield 47, 3) := by decide +kernel
theorem dX11_countHoles_64 : decode cX11_countHoles 64 = .ok (.getfield 267, 3) := by decide +kernel
theorem dX11_countHoles_67 : decode cX11_countHoles 67 = .ok (.isub, 1) := by decide +kernel
theorem dX11_countHoles_68 : decode cX11_countHoles 68 = .ok (.ireturn, 1) := by decide +kernel
theorem dX11_addWall_0 : decode cX11_addWall 0 = .ok (.iload_n 1, 1) := by decide +kernel
theorem dX11_addWall_1 : decode cX11_addWall 1 = .ok (.iload_n 2, 1) := by decide +kernel
theorem dX11_addWall_2 : decode cX11_addWall 2 = .ok (.bipush 100, 2) := by decide +kernel
theorem dX11_addWall_4 : decode cX11_addWall 4 = .ok (.invokestatic 79, 3) := by decide +kernel
theorem dX11_addWall_7 : decode cX11_addWall 7 = .ok (.iload_n 3, 1) := by decide +kernel
theorem dX11_addWall_8 : decode cX11_addWall 8 = .ok (.iload 4, 2) := by decide +kernel
theorem dX11_addWall_10 : decode cX11_addWall 10 = .ok (.bipush 100, 2) := by decide +kernel
theorem dX11_addWall_12 : decode cX11_addWall 12 = .ok (.invokestatic 79, 3) := by decide +kernel
theorem dX11_addWall_15 : decode cX11_addWall 15 = .ok (.iload_n 1, 1) := by decide +kernel
theorem dX11_addWall_16 : decode cX11_addWall 16 = .ok (.iload_n 3, 1) := by decide +kernel
theorem dX11_addWall_17 : decode cX11_addWall 17 = .ok (.if_icmp .ne 20, 3) := by decide +kernel
theorem dX11_addWall_20 : decode cX11_addWall 20 = .ok (.iload_n 2, 1) := by decide +kernel
theorem dX11_addWall_21 : decode cX11_addWall 21 = .ok (.iload 4, 2) := by decide +kernel
theorem dX11_addWall_23 : decode cX11_addWall 23 = .ok (.if_icmp .ne 14, 3) := by decide +kernel
theorem dX11_addWall_26 : decode cX11_addWall 26 = .ok (.new 210, 3) := by decide +kernel
theorem dX11_addWall_29 : decode cX11_addWall 29 = .ok (.dup, 1) := by decide +kernel
theorem dX11_addWall_30 : decode cX11_addWall 30 = .ok (.ldc_w 270, 3) := by decide +kernel
theorem dX11_addWall_33 : decode cX11_addWall 33 = .ok (.invokespecial 214, 3) := by decide +kernel
theorem dX11_addWall_36 : decode cX11_addWall 36 = .ok (.athrow, 1) := by decide +kernel
theorem dX11_addWall_37 : decode cX11_addWall 37 = .ok (.aload_n 0, 1) := by decide +kernel
theorem dX11_addWall_38 : decode cX11_addWall 38 = .ok (.getfield 54, 3) := by decide +kernel
theorem dX11_addWall_41 : decode cX11_addWall 41 = .ok (.getfield 272, 3) := by decide +kernel
theorem dX11_addWall_44 : decode cX11_addWall 44 = .ok (.bipush 10, 2) := by decide +kernel
theorem dX11_addWall_46 : decode cX11_addWall 46 = .ok (.if_icmp .lt 14, 3) := by decide +kernel
theorem dX11_addWall_60 : decode cX11_addWall 60 = .ok (.aload_n 0, 1) := by decide +kernel
theorem dX11_addWall_61 : decode cX11_addWall 61 = .ok (.getfield 54, 3) := by decide +kernel
theorem dX11_addWall_64 : decode cX11_addWall 64 = .ok (.iload_n 1, 1) := by decide +kernel
theorem dX11_addWall_65 : decode cX11_addWall 65 = .ok (.iload_n 2, 1) := by decide +kernel
theorem dX11_addWall_66 : decode cX11_addWall 66 = .ok (.iload_n 3, 1) := by decide +kernel
theorem dX11_addWall_67 : decode cX11_addWall 67 = .ok (.iload 4, 2) := by decide +kernel
theorem dX11_addWall_69 : decode cX11_addWall 69 = .ok (.invokevirtual 275, 3) := by decide +kernel
theorem dX11_addWall_72 : decode cX11_addWall 72 = .ok (.aload_n 0, 1) := by decide +kernel
theorem dX11_addWall_73 : decode cX11_addWall 73 = .ok (.getfield 54, 3) := by decide +kernel
theorem dX11_addWall_76 : decode cX11_addWall 76 = .ok (.getfield 272, 3) := by decide +kernel
theorem dX11_addWall_79 : decode cX11_addWall 79 = .ok (.iconst 1, 1) := by decide +kernel
theorem dX11_addWall_80 : decode cX11_addWall 80 = .ok (.isub, 1) := by decide +kernel
theorem dX11_addWall_81 : decode cX11_addWall 81 = .ok (.ireturn, 1) := by decide +kernel
theorem dX11_dropWall_0 : decode cX11_dropWall 0 = .ok (.aload_n 0, 1) := by decide +kernel
theorem dX11_dropWall_1 : decode cX11_dropWall 1 = .ok (.getfield 54, 3) := by decide +kernel
theorem dX11_dropWall_4 : decode cX11_dropWall 4 = .ok (.getfield 272, 3) := by decide +kernel
theorem dX11_dropWall_7 : decode cX11_dropWall 7 = .ok (.ifCond .ne 14, 3) := by decide +kernel
theorem dX11_dropWall_10 : decode cX11_dropWall 10 = .ok (.new 136, 3) := by decide +kernel
theorem dX11_dropWall_13 : decode cX11_dropWall 13 = .ok (.dup, 1) := by decide +kernel
theorem dX11_dropWall_14 : decode cX11_dropWall 14 = .ok (.ldc_w 279, 3) := by decide +kernel
theorem dX11_dropWall_17 : decode cX11_dropWall 17 = .ok (.invokespecial 140, 3) := by decide +kernel
theorem dX11_dropWall_20 : decode cX11_dropWall 20 = .ok (.athrow, 1) := by decide +kernel
theorem dX11_sees_0 : decode cX11_sees 0 = .ok (.aload_n 0, 1) := by decide +kernel
theorem dX11_sees_1 : decode cX11_sees 1 = .ok (.iload_n 3, 1) := by decide +kernel
theorem dX11_sees_2 : decode cX11_sees 2 = .ok (.invokevirtual 110, 3) := by decide +kernel
theorem dX11_countSeen_0 : decode cX11_countSeen 0 = .ok (.aload_n 0, 1) := by decide +kernel
theorem dX11_countSeen_1 : decode cX11_countSeen 1 = .ok (.iload_n 1, 1) := by decide +kernel
theorem dX11_countSeen_2 : decode cX11_countSeen 2 = .ok (.invokevirtual 110, 3) := by decide +kernel
theorem dX11_leastGuards_0 : decode cX11_leastGuards 0 = .ok (.iconst 0, 1) := by decide +kernel
theorem dX11_leastGuards_1 : decode cX11_leastGuards 1 = .ok (.istore_n 1, 1) := by decide +kernel
theorem dX11_leastGuards_2 : decode cX11_leastGuards 2 = .ok (.iload_n 1, 1) := by decide +kernel
theorem dX11_leastGuards_3 : decode cX11_leastGuards 3 = .ok (.bipush 12, 2) := by decide +kernel
theorem dX11_leastGuards_5 : decode cX11_leastGuards 5 = .ok (.if_icmp .ge 42, 3) := by decide +kernel
theorem dX11_leastGuards_8 : decode cX11_leastGuards 8 = .ok (.aload_n 0, 1) := by decide +kernel
theorem dX11_leastGuards_9 : decode cX11_leastGuards 9 = .ok (.getfield 61, 3) := by decide +kernel
theorem dX11_leastGuards_12 : decode cX11_leastGuards 12 = .ok (.getfield 294, 3) := by decide +kernel
theorem dX11_leastGuards_15 : decode cX11_leastGuards 15 = .ok (.iload_n 1, 1) := by decide +kernel
theorem dX11_leastGuards_16 : decode cX11_leastGuards 16 = .ok (.aload_n 0, 1) := by decide +kernel
theorem dX11_leastGuards_17 : decode cX11_leastGuards 17 = .ok (.getfield 12, 3) := by decide +kernel
theorem dX11_leastGuards_20 : decode cX11_leastGuards 20 = .ok (.iload_n 1, 1) := by decide +kernel
theorem dX11_leastGuards_21 : decode cX11_leastGuards 21 = .ok (.invokevirtual 160, 3) := by decide +kernel
theorem dX11_leastGuards_24 : decode cX11_leastGuards 24 = .ok (.ifCond .eq 15, 3) := by decide +kernel
theorem dX11_leastGuards_39 : decode cX11_leastGuards 39 = .ok (.iconst 0, 1) := by decide +kernel
theorem dX11_leastGuards_40 : decode cX11_leastGuards 40 = .ok (.iastore, 1) := by decide +kernel
theorem dX11_leastGuards_41 : decode cX11_leastGuards 41 = .ok (.iinc 1 1, 3) := by decide +kernel
theorem dX11_leastGuards_44 : decode cX11_leastGuards 44 = .ok (.goto (-42), 3) := by decide +kernel
theorem dX11_leastGuards_47 : decode cX11_leastGuards 47 = .ok (.aload_n 0, 1) := by decide +kernel
theorem dX11_leastGuards_48 : decode cX11_leastGuards 48 = .ok (.getfield 61, 3) := by decide +kernel
theorem dX11_leastGuards_51 : decode cX11_leastGuards 51 = .ok (.aload_n 0, 1) := by decide +kernel
theorem dX11_leastGuards_52 : decode cX11_leastGuards 52 = .ok (.getfield 12, 3) := by decide +kernel
theorem dX11_leastGuards_55 : decode cX11_leastGuards 55 = .ok (.getfield 297, 3) := by decide +kernel
theorem dX11_leastGuards_58 : decode cX11_leastGuards 58 = .ok (.invokevirtual 300, 3) := by decide +kernel
theorem dX11_leastGuards_61 : decode cX11_leastGuards 61 = .ok (.ireturn, 1) := by decide +kernel
theorem dX11_setSpeed_0 : decode cX11_setSpeed 0 = .ok (.aload_n 0, 1) := by decide +kernel
theorem dX11_setSpeed_1 : decode cX11_setSpeed 1 = .ok (.iload_n 1, 1) := by decide +kernel
theorem dX11_setSpeed_2 : decode cX11_setSpeed 2 = .ok (.invokevirtual 110, 3) := by decide +kernel
theorem dX11_pass_0 : decode cX11_pass 0 = .ok (.iload_n 1, 1) := by decide +kernel
theorem dX11_pass_1 : decode cX11_pass 1 = .ok (.iconst 1, 1) := by decide +kernel
theorem dX11_pass_2 : decode cX11_pass 2 = .ok (.bipush 20, 2) := by decide +kernel
theorem dX11_pass_4 : decode cX11_pass 4 = .ok (.invokestatic 129, 3) := by decide +kernel
theorem dX11_pass_7 : decode cX11_pass 7 = .ok (.aload_n 0, 1) := by decide +kernel
theorem dX11_pass_8 : decode cX11_pass 8 = .ok (.getfield 12, 3) := by decide +kernel
theorem dX11_pass_11 : decode cX11_pass 11 = .ok (.iload_n 1, 1) := by decide +kernel
theorem dX11_pass_12 : decode cX11_pass 12 = .ok (.invokevirtual 312, 3) := by decide +kernel
theorem dX11_pass_15 : decode cX11_pass 15 = .ok (.ifCond .ne 14, 3) := by decide +kernel
theorem dX11_pass_29 : decode cX11_pass 29 = .ok (.aload_n 0, 1) := by decide +kernel
theorem dX11_pass_30 : decode cX11_pass 30 = .ok (.getfield 12, 3) := by decide +kernel
theorem dX11_pass_33 : decode cX11_pass 33 = .ok (.iload_n 1, 1) := by decide +kernel
theorem dX11_pass_34 : decode cX11_pass 34 = .ok (.invokevirtual 317, 3) := by decide +kernel
theorem dX11_pass_37 : decode cX11_pass 37 = .ok (.ireturn, 1) := by decide +kernel
theorem dX11_nextNearest_0 : decode cX11_nextNearest 0 = .ok (.iload_n 1, 1) := by decide +kernel
theorem dX11_nextNearest_1 : decode cX11_nextNearest 1 = .ok (.iload_n 2, 1) := by decide +kernel
theorem dX11_nextNearest_2 : decode cX11_nextNearest 2 = .ok (.bipush 100, 2) := by decide +kernel
theorem dX11_nextNearest_4 : decode cX11_nextNearest 4 = .ok (.invokestatic 79, 3) := by decide +kernel
theorem dX11_nextNearest_7 : decode cX11_nextNearest 7 = .ok (.aload_n 0, 1) := by decide +kernel
theorem dX11_nextNearest_8 : decode cX11_nextNearest 8 = .ok (.getfield 12, 3) := by decide +kernel
theorem dX11_nextNearest_11 : decode cX11_nextNearest 11 = .ok (.aload_n 0, 1) := by decide +kernel
theorem dX11_nextNearest_12 : decode cX11_nextNearest 12 = .ok (.iload_n 1, 1) := by decide +kernel
theorem dX11_nextNearest_13 : decode cX11_nextNearest 13 = .ok (.iload_n 2, 1) := by decide +kernel
theorem dX11_nextNearest_14 : decode cX11_nextNearest 14 = .ok (.invokevirtual 320, 3) := by decide +kernel
theorem dX11_nextTime_0 : decode cX11_nextTime 0 = .ok (.iload_n 1, 1) := by decide +kernel
theorem dX11_nextTime_1 : decode cX11_nextTime 1 = .ok (.iload_n 2, 1) := by decide +kernel
theorem dX11_nextTime_2 : decode cX11_nextTime 2 = .ok (.bipush 100, 2) := by decide +kernel
theorem dX11_nextTime_4 : decode cX11_nextTime 4 = .ok (.invokestatic 79, 3) := by decide +kernel
theorem dX11_nextTime_7 : decode cX11_nextTime 7 = .ok (.aload_n 0, 1) := by decide +kernel
theorem dX11_nextTime_8 : decode cX11_nextTime 8 = .ok (.iload_n 1, 1) := by decide +kernel
theorem dX11_nextTime_9 : decode cX11_nextTime 9 = .ok (.iload_n 2, 1) := by decide +kernel
theorem dX11_nextTime_10 : decode cX11_nextTime 10 = .ok (.invokevirtual 320, 3) := by decide +kernel
theorem dX11_cluster_0 : decode cX11_cluster 0 = .ok (.aload_n 0, 1) := by decide +kernel
theorem dX11_cluster_1 : decode cX11_cluster 1 = .ok (.iload_n 3, 1) := by decide +kernel
theorem dX11_cluster_2 : decode cX11_cluster 2 = .ok (.invokevirtual 110, 3) := by decide +kernel
theorem dX11_joinedAt_0 : decode cX11_joinedAt 0 = .ok (.iload_n 1, 1) := by decide +kernel
theorem dX11_joinedAt_1 : decode cX11_joinedAt 1 = .ok (.invokestatic 326, 3) := by decide +kernel
theorem dX11_joinedAt_4 : decode cX11_joinedAt 4 = .ok (.iload_n 2, 1) := by decide +kernel
theorem dX11_joinedAt_5 : decode cX11_joinedAt 5 = .ok (.iconst 1, 1) := by decide +kernel
theorem dX11_joinedAt_6 : decode cX11_joinedAt 6 = .ok (.aload_n 0, 1) := by decide +kernel
theorem dX11_joinedAt_7 : decode cX11_joinedAt 7 = .ok (.getfield 12, 3) := by decide +kernel
theorem dX11_joinedAt_10 : decode cX11_joinedAt 10 = .ok (.invokevirtual 117, 3) := by decide +kernel
theorem dX11_joinedAt_13 : decode cX11_joinedAt 13 = .ok (.iconst 1, 1) := by decide +kernel
theorem dX11_joinedAt_14 : decode cX11_joinedAt 14 = .ok (.isub, 1) := by decide +kernel
theorem dX11_joinedAt_15 : decode cX11_joinedAt 15 = .ok (.invokestatic 129, 3) := by decide +kernel
theorem dX11_centreDistance_0 : decode cX11_centreDistance 0 = .ok (.iload_n 1, 1) := by decide +kernel
theorem dX11_centreDistance_1 : decode cX11_centreDistance 1 = .ok (.iconst 1, 1) := by decide +kernel
theorem dX11_centreDistance_2 : decode cX11_centreDistance 2 = .ok (.iconst 4, 1) := by decide +kernel
theorem dX11_centreDistance_3 : decode cX11_centreDistance 3 = .ok (.invokestatic 129, 3) := by decide +kernel
theorem dX11_centreDistance_6 : decode cX11_centreDistance 6 = .ok (.aload_n 0, 1) := by decide +kernel
theorem dX11_centreDistance_7 : decode cX11_centreDistance 7 = .ok (.iload_n 1, 1) := by decide +kernel
theorem dX11_centreDistance_8 : decode cX11_centreDistance 8 = .ok (.invokevirtual 340, 3) := by decide +kernel
theorem dX11_centre_0 : decode cX11_centre 0 = .ok (.iload_n 1, 1) := by decide +kernel
theorem dX11_centre_1 : decode cX11_centre 1 = .ok (.iconst 1, 1) := by decide +kernel
theorem dX11_centre_2 : decode cX11_centre 2 = .ok (.iconst 4, 1) := by decide +kernel
theorem dX11_centre_3 : decode cX11_centre 3 = .ok (.invokestatic 129, 3) := by decide +kernel
theorem dX11_centre_6 : decode cX11_centre 6 = .ok (.iload_n 2, 1) := by decide +kernel
theorem dX11_centre_7 : decode cX11_centre 7 = .ok (.iconst 0, 1) := by decide +kernel
theorem dX11_centre_8 : decode cX11_centre 8 = .ok (.iload_n 1, 1) := by decide +kernel
theorem dX11_centre_9 : decode cX11_centre 9 = .ok (.iconst 1, 1) := by decide +kernel
theorem dX11_centre_10 : decode cX11_centre 10 = .ok (.isub, 1) := by decide +kernel
theorem dX11_centre_11 : decode cX11_centre 11 = .ok (.invokestatic 129, 3) := by decide +kernel
theorem dX11_centre_14 : decode cX11_centre 14 = .ok (.aload_n 0, 1) := by decide +kernel
theorem dX11_centre_15 : decode cX11_centre 15 = .ok (.iload_n 1, 1) := by decide +kernel
theorem dX11_centre_16 : decode cX11_centre 16 = .ok (.invokevirtual 340, 3) := by decide +kernel
theorem dX11_countDiscs_0 : decode cX11_countDiscs 0 = .ok (.iload_n 1, 1) := by decide +kernel
theorem dX11_countDiscs_1 : decode cX11_countDiscs 1 = .ok (.iconst 0, 1) := by decide +kernel
theorem dX11_countDiscs_2 : decode cX11_countDiscs 2 = .ok (.ldc 252, 2) := by decide +kernel
theorem dX11_countDiscs_4 : decode cX11_countDiscs 4 = .ok (.invokestatic 129, 3) := by decide +kernel
theorem dX11_countDiscs_7 : decode cX11_countDiscs 7 = .ok (.iconst 0, 1) := by decide +kernel
theorem dX11_countDiscs_8 : decode cX11_countDiscs 8 = .ok (.istore_n 2, 1) := by decide +kernel
theorem dX11_countDiscs_9 : decode cX11_countDiscs 9 = .ok (.iload_n 2, 1) := by decide +kernel
theorem dX11_countDiscs_10 : decode cX11_countDiscs 10 = .ok (.bipush 12, 2) := by decide +kernel
theorem dX11_countDiscs_12 : decode cX11_countDiscs 12 = .ok (.if_icmp .ge 39, 3) := by decide +kernel
theorem dX11_countDiscs_15 : decode cX11_countDiscs 15 = .ok (.aload_n 0, 1) := by decide +kernel
theorem dX11_countDiscs_16 : decode cX11_countDiscs 16 = .ok (.getfield 61, 3) := by decide +kernel
theorem dX11_countDiscs_19 : decode cX11_countDiscs 19 = .ok (.getfield 294, 3) := by decide +kernel
theorem dX11_countDiscs_22 : decode cX11_countDiscs 22 = .ok (.iload_n 2, 1) := by decide +kernel
theorem dX11_countDiscs_23 : decode cX11_countDiscs 23 = .ok (.aload_n 0, 1) := by decide +kernel
theorem dX11_countDiscs_24 : decode cX11_countDiscs 24 = .ok (.getfield 12, 3) := by decide +kernel
theorem dX11_countDiscs_27 : decode cX11_countDiscs 27 = .ok (.iload_n 2, 1) := by decide +kernel
theorem dX11_countDiscs_28 : decode cX11_countDiscs 28 = .ok (.invokevirtual 160, 3) := by decide +kernel
theorem dX11_countDiscs_31 : decode cX11_countDiscs 31 = .ok (.ifCond .eq 12, 3) := by decide +kernel
theorem dX11_countDiscs_43 : decode cX11_countDiscs 43 = .ok (.iconst 0, 1) := by decide +kernel
theorem dX11_countDiscs_44 : decode cX11_countDiscs 44 = .ok (.iastore, 1) := by decide +kernel
theorem dX11_countDiscs_45 : decode cX11_countDiscs 45 = .ok (.iinc 2 1, 3) := by decide +kernel
theorem dX11_countDiscs_48 : decode cX11_countDiscs 48 = .ok (.goto (-39), 3) := by decide +kernel
theorem dX11_countDiscs_51 : decode cX11_countDiscs 51 = .ok (.aload_n 0, 1) := by decide +kernel
theorem dX11_countDiscs_52 : decode cX11_countDiscs 52 = .ok (.getfield 61, 3) := by decide +kernel
theorem dX11_countDiscs_55 : decode cX11_countDiscs 55 = .ok (.aload_n 0, 1) := by decide +kernel
theorem dX11_countDiscs_56 : decode cX11_countDiscs 56 = .ok (.getfield 12, 3) := by decide +kernel
theorem dX11_countDiscs_59 : decode cX11_countDiscs 59 = .ok (.getfield 297, 3) := by decide +kernel
theorem dX11_countDiscs_62 : decode cX11_countDiscs 62 = .ok (.invokevirtual 300, 3) := by decide +kernel
theorem dX11_countDiscs_65 : decode cX11_countDiscs 65 = .ok (.ireturn, 1) := by decide +kernel
theorem dX11_getHullShare_0 : decode cX11_getHullShare 0 = .ok (.aload_n 0, 1) := by decide +kernel
theorem dX11_getHullShare_1 : decode cX11_getHullShare 1 = .ok (.getfield 12, 3) := by decide +kernel
theorem dX11_getHullShare_4 : decode cX11_getHullShare 4 = .ok (.invokevirtual 117, 3) := by decide +kernel
theorem dX11_getHullShare_7 : decode cX11_getHullShare 7 = .ok (.istore_n 1, 1) := by decide +kernel
theorem dX11_getHullShare_8 : decode cX11_getHullShare 8 = .ok (.iload_n 1, 1) := by decide +kernel
theorem dX11_getHullShare_9 : decode cX11_getHullShare 9 = .ok (.ifCond .ne 14, 3) := by decide +kernel
theorem dX11_getHullShare_12 : decode cX11_getHullShare 12 = .ok (.new 356, 3) := by decide +kernel
theorem dX11_getHullShare_15 : decode cX11_getHullShare 15 = .ok (.dup, 1) := by decide +kernel
theorem dX11_getHullShare_16 : decode cX11_getHullShare 16 = .ok (.ldc_w 358, 3) := by decide +kernel
theorem dX11_getHullShare_19 : decode cX11_getHullShare 19 = .ok (.invokespecial 360, 3) := by decide +kernel
theorem dX11_getHullShare_22 : decode cX11_getHullShare 22 = .ok (.athrow, 1) := by decide +kernel
theorem dX11_getMeanNeighbours_0 : decode cX11_getMeanNeighbours 0 = .ok (.aload_n 0, 1) := by decide +kernel
theorem dX11_getMeanNeighbours_1 : decode cX11_getMeanNeighbours 1 = .ok (.getfield 12, 3) := by decide +kernel
theorem dX11_getMeanNeighbours_4 : decode cX11_getMeanNeighbours 4 = .ok (.invokevirtual 117, 3) := by decide +kernel
theorem dX11_getMeanNeighbours_7 : decode cX11_getMeanNeighbours 7 = .ok (.istore_n 1, 1) := by decide +kernel
theorem dX11_getMeanNeighbours_8 : decode cX11_getMeanNeighbours 8 = .ok (.iload_n 1, 1) := by decide +kernel
theorem dX11_getMeanNeighbours_9 : decode cX11_getMeanNeighbours 9 = .ok (.ifCond .ne 14, 3) := by decide +kernel
theorem dX11_getMeanNeighbours_12 : decode cX11_getMeanNeighbours 12 = .ok (.new 356, 3) := by decide +kernel
theorem dX11_getMeanNeighbours_15 : decode cX11_getMeanNeighbours 15 = .ok (.dup, 1) := by decide +kernel
theorem dX11_getMeanNeighbours_16 : decode cX11_getMeanNeighbours 16 = .ok (.ldc_w 358, 3) := by decide +kernel
theorem dX11_getMeanNeighbours_19 : decode cX11_getMeanNeighbours 19 = .ok (.invokespecial 360, 3) := by decide +kernel
theorem dX11_getMeanNeighbours_22 : decode cX11_getMeanNeighbours 22 = .ok (.athrow, 1) := by decide +kernel
theorem dX11_checksum_0 : decode cX11_checksum 0 = .ok (.ldc2_w 363, 3) := by decide +kernel
theorem dX11_checksum_3 : decode cX11_checksum 3 = .ok (.lstore_n 1, 1) := by decide +kernel
theorem dX11_checksum_4 : decode cX11_checksum 4 = .ok (.iconst 0, 1) := by decide +kernel
theorem dX11_checksum_5 : decode cX11_checksum 5 = .ok (.istore_n 3, 1) := by decide +kernel
theorem dX11_checksum_6 : decode cX11_checksum 6 = .ok (.iload_n 3, 1) := by decide +kernel
theorem dX11_checksum_7 : decode cX11_checksum 7 = .ok (.bipush 12, 2) := by decide +kernel
theorem dX11_checksum_9 : decode cX11_checksum 9 = .ok (.if_icmp .ge 80, 3) := by decide +kernel
theorem dX11_checksum_12 : decode cX11_checksum 12 = .ok (.aload_n 0, 1) := by decide +kernel
theorem dX11_checksum_13 : decode cX11_checksum 13 = .ok (.getfield 12, 3) := by decide +kernel
theorem dX11_checksum_16 : decode cX11_checksum 16 = .ok (.iload_n 3, 1) := by decide +kernel
theorem dX11_checksum_17 : decode cX11_checksum 17 = .ok (.invokevirtual 160, 3) := by decide +kernel
theorem dX11_checksum_20 : decode cX11_checksum 20 = .ok (.ifCond .eq 63, 3) := by decide +kernel
theorem dX11_checksum_83 : decode cX11_checksum 83 = .ok (.iinc 3 1, 3) := by decide +kernel
theorem dX11_checksum_86 : decode cX11_checksum 86 = .ok (.goto (-80), 3) := by decide +kernel
theorem dX11_checksum_89 : decode cX11_checksum 89 = .ok (.aload_n 0, 1) := by decide +kernel
theorem dX11_checksum_90 : decode cX11_checksum 90 = .ok (.getfield 26, 3) := by decide +kernel
theorem dX11_checksum_93 : decode cX11_checksum 93 = .ok (.aload_n 0, 1) := by decide +kernel
theorem dX11_checksum_94 : decode cX11_checksum 94 = .ok (.getfield 12, 3) := by decide +kernel
theorem dX11_checksum_97 : decode cX11_checksum 97 = .ok (.invokevirtual 187, 3) := by decide +kernel
theorem dX11_checksum_100 : decode cX11_checksum 100 = .ok (.ldc2_w 365, 3) := by decide +kernel
theorem dX11_checksum_103 : decode cX11_checksum 103 = .ok (.lload_n 1, 1) := by decide +kernel
theorem dX11_checksum_104 : decode cX11_checksum 104 = .ok (.lmul, 1) := by decide +kernel
theorem dX11_checksum_105 : decode cX11_checksum 105 = .ok (.aload_n 0, 1) := by decide +kernel
theorem dX11_checksum_106 : decode cX11_checksum 106 = .ok (.getfield 54, 3) := by decide +kernel
theorem dX11_checksum_109 : decode cX11_checksum 109 = .ok (.getfield 272, 3) := by decide +kernel
theorem dX11_checksum_112 : decode cX11_checksum 112 = .ok (.i2l, 1) := by decide +kernel
theorem dX11_checksum_113 : decode cX11_checksum 113 = .ok (.ladd, 1) := by decide +kernel
theorem dX11_checksum_114 : decode cX11_checksum 114 = .ok (.lstore_n 1, 1) := by decide +kernel
theorem dX11_checksum_115 : decode cX11_checksum 115 = .ok (.ldc2_w 365, 3) := by decide +kernel
theorem dX11_checksum_118 : decode cX11_checksum 118 = .ok (.lload_n 1, 1) := by decide +kernel
theorem dX11_checksum_119 : decode cX11_checksum 119 = .ok (.lmul, 1) := by decide +kernel
theorem dX11_checksum_120 : decode cX11_checksum 120 = .ok (.aload_n 0, 1) := by decide +kernel
theorem dX11_checksum_121 : decode cX11_checksum 121 = .ok (.getfield 26, 3) := by decide +kernel
theorem dX11_checksum_124 : decode cX11_checksum 124 = .ok (.getfield 190, 3) := by decide +kernel
theorem dX11_checksum_127 : decode cX11_checksum 127 = .ok (.i2l, 1) := by decide +kernel
theorem dX11_checksum_128 : decode cX11_checksum 128 = .ok (.ladd, 1) := by decide +kernel
theorem dX11_checksum_129 : decode cX11_checksum 129 = .ok (.lreturn, 1) := by decide +kernel
theorem dX11_isSound_0 : decode cX11_isSound 0 = .ok (.aload_n 0, 1) := by decide +kernel
theorem dX11_isSound_1 : decode cX11_isSound 1 = .ok (.getfield 26, 3) := by decide +kernel
theorem dX11_isSound_4 : decode cX11_isSound 4 = .ok (.aload_n 0, 1) := by decide +kernel
theorem dX11_isSound_5 : decode cX11_isSound 5 = .ok (.getfield 12, 3) := by decide +kernel
theorem dX11_isSound_8 : decode cX11_isSound 8 = .ok (.invokevirtual 187, 3) := by decide +kernel
theorem dX11_isSound_11 : decode cX11_isSound 11 = .ok (.aload_n 0, 1) := by decide +kernel
theorem dX11_isSound_12 : decode cX11_isSound 12 = .ok (.getfield 33, 3) := by decide +kernel
theorem dX11_isSound_15 : decode cX11_isSound 15 = .ok (.aload_n 0, 1) := by decide +kernel
theorem dX11_isSound_16 : decode cX11_isSound 16 = .ok (.getfield 12, 3) := by decide +kernel
theorem dX11_isSound_19 : decode cX11_isSound 19 = .ok (.invokevirtual 215, 3) := by decide +kernel
theorem dX11_isSound_22 : decode cX11_isSound 22 = .ok (.aload_n 0, 1) := by decide +kernel
theorem dX11_isSound_23 : decode cX11_isSound 23 = .ok (.invokevirtual 367, 3) := by decide +kernel
theorem dX11_isSound_26 : decode cX11_isSound 26 = .ok (.ifCond .eq 28, 3) := by decide +kernel
theorem dX11_isSound_29 : decode cX11_isSound 29 = .ok (.aload_n 0, 1) := by decide +kernel
theorem dX11_isSound_30 : decode cX11_isSound 30 = .ok (.invokevirtual 371, 3) := by decide +kernel
theorem dX11_isSound_33 : decode cX11_isSound 33 = .ok (.ifCond .eq 21, 3) := by decide +kernel
theorem dX11_isSound_36 : decode cX11_isSound 36 = .ok (.aload_n 0, 1) := by decide +kernel
theorem dX11_isSound_37 : decode cX11_isSound 37 = .ok (.invokevirtual 374, 3) := by decide +kernel
theorem dX11_isSound_40 : decode cX11_isSound 40 = .ok (.ifCond .eq 14, 3) := by decide +kernel
theorem dX11_isSound_43 : decode cX11_isSound 43 = .ok (.aload_n 0, 1) := by decide +kernel
theorem dX11_isSound_44 : decode cX11_isSound 44 = .ok (.invokevirtual 377, 3) := by decide +kernel
theorem dX11_isSound_47 : decode cX11_isSound 47 = .ok (.ifCond .eq 7, 3) := by decide +kernel
theorem dX11_isSound_50 : decode cX11_isSound 50 = .ok (.iconst 1, 1) := by decide +kernel
theorem dX11_isSound_51 : decode cX11_isSound 51 = .ok (.goto 4, 3) := by decide +kernel
theorem dX11_isSound_55 : decode cX11_isSound 55 = .ok (.ireturn, 1) := by decide +kernel
theorem dX11_needPoint_0 : decode cX11_needPoint 0 = .ok (.aload_n 0, 1) := by decide +kernel
theorem dX11_needPoint_1 : decode cX11_needPoint 1 = .ok (.getfield 12, 3) := by decide +kernel
theorem dX11_needPoint_4 : decode cX11_needPoint 4 = .ok (.iload_n 1, 1) := by decide +kernel
theorem dX11_needPoint_5 : decode cX11_needPoint 5 = .ok (.invokevirtual 160, 3) := by decide +kernel
theorem dX11_needPoint_8 : decode cX11_needPoint 8 = .ok (.ifCond .ne 14, 3) := by decide +kernel
theorem dX11_needPoint_11 : decode cX11_needPoint 11 = .ok (.new 380, 3) := by decide +kernel
theorem dX11_needPoint_14 : decode cX11_needPoint 14 = .ok (.dup, 1) := by decide +kernel
theorem dX11_needPoint_15 : decode cX11_needPoint 15 = .ok (.ldc_w 382, 3) := by decide +kernel
theorem dX11_needPoint_18 : decode cX11_needPoint 18 = .ok (.invokespecial 384, 3) := by decide +kernel
theorem dX11_needPoint_21 : decode cX11_needPoint 21 = .ok (.athrow, 1) := by decide +kernel
theorem dX11_needRange_0 : decode cX11_needRange 0 = .ok (.iload_n 0, 1) := by decide +kernel
theorem dX11_needRange_1 : decode cX11_needRange 1 = .ok (.iload_n 1, 1) := by decide +kernel
theorem dX11_needRange_2 : decode cX11_needRange 2 = .ok (.if_icmp .lt 8, 3) := by decide +kernel
theorem dX11_needRange_5 : decode cX11_needRange 5 = .ok (.iload_n 0, 1) := by decide +kernel
theorem dX11_needRange_6 : decode cX11_needRange 6 = .ok (.iload_n 2, 1) := by decide +kernel
theorem dX11_needRange_7 : decode cX11_needRange 7 = .ok (.if_icmp .le 14, 3) := by decide +kernel
theorem dX11_needRange_10 : decode cX11_needRange 10 = .ok (.new 210, 3) := by decide +kernel
theorem dX11_needRange_13 : decode cX11_needRange 13 = .ok (.dup, 1) := by decide +kernel
theorem dX11_needRange_14 : decode cX11_needRange 14 = .ok (.ldc_w 385, 3) := by decide +kernel
theorem dX11_needRange_17 : decode cX11_needRange 17 = .ok (.invokespecial 214, 3) := by decide +kernel
theorem dX11_needRange_20 : decode cX11_needRange 20 = .ok (.athrow, 1) := by decide +kernel
theorem dX11_needRange_21 : decode cX11_needRange 21 = .ok (.return_, 1) := by decide +kernel
theorem dX11_needBoth_0 : decode cX11_needBoth 0 = .ok (.iload_n 0, 1) := by decide +kernel
theorem dX11_needBoth_1 : decode cX11_needBoth 1 = .ok (.iload_n 2, 1) := by decide +kernel
theorem dX11_needBoth_2 : decode cX11_needBoth 2 = .ok (.ineg, 1) := by decide +kernel
theorem dX11_needBoth_3 : decode cX11_needBoth 3 = .ok (.iload_n 2, 1) := by decide +kernel
theorem dX11_needBoth_4 : decode cX11_needBoth 4 = .ok (.invokestatic 129, 3) := by decide +kernel
theorem dX11_needBoth_7 : decode cX11_needBoth 7 = .ok (.iload_n 1, 1) := by decide +kernel
theorem dX11_needBoth_8 : decode cX11_needBoth 8 = .ok (.iload_n 2, 1) := by decide +kernel
theorem dX11_needBoth_9 : decode cX11_needBoth 9 = .ok (.ineg, 1) := by decide +kernel
theorem dX11_needBoth_10 : decode cX11_needBoth 10 = .ok (.iload_n 2, 1) := by decide +kernel
theorem dX11_needBoth_11 : decode cX11_needBoth 11 = .ok (.invokestatic 129, 3) := by decide +kernel
theorem dX11_needBoth_14 : decode cX11_needBoth 14 = .ok (.return_, 1) := by decide +kernel
theorem dX11_needKind_0 : decode cX11_needKind 0 = .ok (.iload_n 0, 1) := by decide +kernel
theorem dX11_needKind_1 : decode cX11_needKind 1 = .ok (.bipush 101, 2) := by decide +kernel
theorem dX11_needKind_3 : decode cX11_needKind 3 = .ok (.if_icmp .eq 32, 3) := by decide +kernel
theorem dX11_needKind_6 : decode cX11_needKind 6 = .ok (.iload_n 0, 1) := by decide +kernel
theorem dX11_needKind_7 : decode cX11_needKind 7 = .ok (.bipush 115, 2) := by decide +kernel
theorem dX11_needKind_9 : decode cX11_needKind 9 = .ok (.if_icmp .eq 26, 3) := by decide +kernel
theorem dX11_needKind_12 : decode cX11_needKind 12 = .ok (.iload_n 0, 1) := by decide +kernel
theorem dX11_needKind_13 : decode cX11_needKind 13 = .ok (.bipush 109, 2) := by decide +kernel
theorem dX11_needKind_15 : decode cX11_needKind 15 = .ok (.if_icmp .eq 20, 3) := by decide +kernel
theorem dX11_needKind_18 : decode cX11_needKind 18 = .ok (.iload_n 0, 1) := by decide +kernel
theorem dX11_needKind_19 : decode cX11_needKind 19 = .ok (.bipush 112, 2) := by decide +kernel
theorem dX11_needKind_21 : decode cX11_needKind 21 = .ok (.if_icmp .eq 14, 3) := by decide +kernel
theorem dX11_needKind_24 : decode cX11_needKind 24 = .ok (.new 210, 3) := by decide +kernel
theorem dX11_needKind_27 : decode cX11_needKind 27 = .ok (.dup, 1) := by decide +kernel
theorem dX11_needKind_28 : decode cX11_needKind 28 = .ok (.ldc_w 387, 3) := by decide +kernel
theorem dX11_needKind_31 : decode cX11_needKind 31 = .ok (.invokespecial 214, 3) := by decide +kernel
theorem dX11_needKind_34 : decode cX11_needKind 34 = .ok (.athrow, 1) := by decide +kernel
theorem dX11_needKind_35 : decode cX11_needKind 35 = .ok (.return_, 1) := by decide +kernel
theorem dX11_needGraph_0 : decode cX11_needGraph 0 = .ok (.iload_n 0, 1) := by decide +kernel
theorem dX11_needGraph_1 : decode cX11_needGraph 1 = .ok (.bipush 103, 2) := by decide +kernel
theorem dX11_needGraph_3 : decode cX11_needGraph 3 = .ok (.if_icmp .eq 32, 3) := by decide +kernel
theorem dX11_needGraph_6 : decode cX11_needGraph 6 = .ok (.iload_n 0, 1) := by decide +kernel
theorem dX11_needGraph_7 : decode cX11_needGraph 7 = .ok (.bipush 114, 2) := by decide +kernel
theorem dX11_needGraph_9 : decode cX11_needGraph 9 = .ok (.if_icmp .eq 26, 3) := by decide +kernel
theorem dX11_needGraph_12 : decode cX11_needGraph 12 = .ok (.iload_n 0, 1) := by decide +kernel
theorem dX11_needGraph_13 : decode cX11_needGraph 13 = .ok (.bipush 110, 2) := by decide +kernel
theorem dX11_needGraph_15 : decode cX11_needGraph 15 = .ok (.if_icmp .eq 20, 3) := by decide +kernel
theorem dX11_needGraph_18 : decode cX11_needGraph 18 = .ok (.iload_n 0, 1) := by decide +kernel
theorem dX11_needGraph_19 : decode cX11_needGraph 19 = .ok (.bipush 116, 2) := by decide +kernel
theorem dX11_needGraph_21 : decode cX11_needGraph 21 = .ok (.if_icmp .eq 14, 3) := by decide +kernel
theorem dX11_needGraph_24 : decode cX11_needGraph 24 = .ok (.new 210, 3) := by decide +kernel
theorem dX11_needGraph_27 : decode cX11_needGraph 27 = .ok (.dup, 1) := by decide +kernel
theorem dX11_needGraph_28 : decode cX11_needGraph 28 = .ok (.ldc_w 389, 3) := by decide +kernel
theorem dX11_needGraph_31 : decode cX11_needGraph 31 = .ok (.invokespecial 214, 3) := by decide +kernel
theorem dX11_needGraph_34 : decode cX11_needGraph 34 = .ok (.athrow, 1) := by decide +kernel
theorem dX11_needGraph_35 : decode cX11_needGraph 35 = .ok (.return_, 1) := by decide +kernel
theorem dX11_needLaw_0 : decode cX11_needLaw 0 = .ok (.iload_n 0, 1) := by decide +kernel
theorem dX11_needLaw_1 : decode cX11_needLaw 1 = .ok (.bipush 97, 2) := by decide +kernel
theorem dX11_needLaw_3 : decode cX11_needLaw 3 = .ok (.if_icmp .eq 20, 3) := by decide +kernel
theorem dX11_needLaw_6 : decode cX11_needLaw 6 = .ok (.iload_n 0, 1) := by decide +kernel
theorem dX11_needLaw_7 : decode cX11_needLaw 7 = .ok (.bipush 122, 2) := by decide +kernel
theorem dX11_needLaw_9 : decode cX11_needLaw 9 = .ok (.if_icmp .eq 14, 3) := by decide +kernel
theorem dX11_needLaw_12 : decode cX11_needLaw 12 = .ok (.new 210, 3) := by decide +kernel
theorem dX11_needLaw_15 : decode cX11_needLaw 15 = .ok (.dup, 1) := by decide +kernel
theorem dX11_needLaw_16 : decode cX11_needLaw 16 = .ok (.ldc_w 391, 3) := by decide +kernel
theorem dX11_needLaw_19 : decode cX11_needLaw 19 = .ok (.invokespecial 214, 3) := by decide +kernel
theorem dX11_needLaw_22 : decode cX11_needLaw 22 = .ok (.athrow, 1) := by decide +kernel
theorem dX11_needLaw_23 : decode cX11_needLaw 23 = .ok (.return_, 1) := by decide +kernel
theorem dX11_needSomePoint_0 : decode cX11_needSomePoint 0 = .ok (.aload_n 0, 1) := by decide +kernel
theorem dX11_needSomePoint_1 : decode cX11_needSomePoint 1 = .ok (.getfield 12, 3) := by decide +kernel
theorem dX11_needSomePoint_4 : decode cX11_needSomePoint 4 = .ok (.getfield 297, 3) := by decide +kernel
theorem dX11_needSomePoint_7 : decode cX11_needSomePoint 7 = .ok (.ifCond .ne 14, 3) := by decide +kernel
theorem dX11_needSomePoint_10 : decode cX11_needSomePoint 10 = .ok (.new 136, 3) := by decide +kernel
theorem dX11_needSomePoint_13 : decode cX11_needSomePoint 13 = .ok (.dup, 1) := by decide +kernel
theorem dX11_needSomePoint_14 : decode cX11_needSomePoint 14 = .ok (.ldc_w 358, 3) := by decide +kernel
theorem dX11_needSomePoint_17 : decode cX11_needSomePoint 17 = .ok (.invokespecial 140, 3) := by decide +kernel
theorem dX11_needSomePoint_20 : decode cX11_needSomePoint 20 = .ok (.athrow, 1) := by decide +kernel
theorem dX11_needSoMany_0 : decode cX11_needSoMany 0 = .ok (.aload_n 0, 1) := by decide +kernel
theorem dX11_needSoMany_1 : decode cX11_needSoMany 1 = .ok (.getfield 12, 3) := by decide +kernel
theorem dX11_needSoMany_4 : decode cX11_needSoMany 4 = .ok (.invokevirtual 117, 3) := by decide +kernel
theorem dX11_needSoMany_7 : decode cX11_needSoMany 7 = .ok (.iload_n 1, 1) := by decide +kernel
theorem dX11_needSoMany_8 : decode cX11_needSoMany 8 = .ok (.if_icmp .ge 14, 3) := by decide +kernel
theorem dX11_needSoMany_11 : decode cX11_needSoMany 11 = .ok (.new 136, 3) := by decide +kernel
theorem dX11_needSoMany_14 : decode cX11_needSoMany 14 = .ok (.dup, 1) := by decide +kernel
theorem dX11_needSoMany_15 : decode cX11_needSoMany 15 = .ok (.ldc_w 393, 3) := by decide +kernel
theorem dX11_needSoMany_18 : decode cX11_needSoMany 18 = .ok (.invokespecial 140, 3) := by decide +kernel
theorem dX11_needSoMany_21 : decode cX11_needSoMany 21 = .ok (.athrow, 1) := by decide +kernel
theorem dX11_needSoMany_22 : decode cX11_needSoMany 22 = .ok (.return_, 1) := by decide +kernel
theorem dX11_timeOfChange_0 : decode cX11_timeOfChange 0 = .ok (.aload_n 0, 1) := by decide +kernel
theorem dX11_timeOfChange_1 : decode cX11_timeOfChange 1 = .ok (.invokevirtual 153, 3) := by decide +kernel
theorem dX11_circlesAreEmpty_0 : decode cX11_circlesAreEmpty 0 = .ok (.iconst 0, 1) := by decide +kernel
theorem dX11_circlesAreEmpty_1 : decode cX11_circlesAreEmpty 1 = .ok (.istore_n 1, 1) := by decide +kernel
theorem dX11_circlesAreEmpty_2 : decode cX11_circlesAreEmpty 2 = .ok (.iload_n 1, 1) := by decide +kernel
theorem dX11_circlesAreEmpty_3 : decode cX11_circlesAreEmpty 3 = .ok (.aload_n 0, 1) := by decide +kernel
theorem dX11_circlesAreEmpty_4 : decode cX11_circlesAreEmpty 4 = .ok (.getfield 26, 3) := by decide +kernel
theorem dX11_circlesAreEmpty_7 : decode cX11_circlesAreEmpty 7 = .ok (.getfield 190, 3) := by decide +kernel
theorem dX11_circlesAreEmpty_10 : decode cX11_circlesAreEmpty 10 = .ok (.if_icmp .ge 52, 3) := by decide +kernel
theorem dX11_circlesAreEmpty_62 : decode cX11_circlesAreEmpty 62 = .ok (.iconst 1, 1) := by decide +kernel
theorem dX11_circlesAreEmpty_63 : decode cX11_circlesAreEmpty 63 = .ok (.ireturn, 1) := by decide +kernel
theorem dX11_countsFit_0 : decode cX11_countsFit 0 = .ok (.aload_n 0, 1) := by decide +kernel
theorem dX11_countsFit_1 : decode cX11_countsFit 1 = .ok (.getfield 12, 3) := by decide +kernel
theorem dX11_countsFit_4 : decode cX11_countsFit 4 = .ok (.invokevirtual 403, 3) := by decide +kernel
theorem dX11_countsFit_7 : decode cX11_countsFit 7 = .ok (.ifCond .eq 30, 3) := by decide +kernel
theorem dX11_countsFit_37 : decode cX11_countsFit 37 = .ok (.iconst 1, 1) := by decide +kernel
theorem dX11_countsFit_38 : decode cX11_countsFit 38 = .ok (.goto 4, 3) := by decide +kernel
theorem dX11_countsFit_42 : decode cX11_countsFit 42 = .ok (.ireturn, 1) := by decide +kernel
theorem dX11_treeIsOfNeighbours_0 : decode cX11_treeIsOfNeighbours 0 = .ok (.aload_n 0, 1) := by decide +kernel
theorem dX11_treeIsOfNeighbours_1 : decode cX11_treeIsOfNeighbours 1 = .ok (.getfield 12, 3) := by decide +kernel
theorem dX11_treeIsOfNeighbours_4 : decode cX11_treeIsOfNeighbours 4 = .ok (.invokevirtual 403, 3) := by decide +kernel
theorem dX11_treeIsOfNeighbours_7 : decode cX11_treeIsOfNeighbours 7 = .ok (.ifCond .ne 5, 3) := by decide +kernel
theorem dX11_treeIsOfNeighbours_10 : decode cX11_treeIsOfNeighbours 10 = .ok (.iconst 1, 1) := by decide +kernel
theorem dX11_treeIsOfNeighbours_11 : decode cX11_treeIsOfNeighbours 11 = .ok (.ireturn, 1) := by decide +kernel
theorem dX11_graphsAreNested_0 : decode cX11_graphsAreNested 0 = .ok (.iconst 0, 1) := by decide +kernel
theorem dX11_graphsAreNested_1 : decode cX11_graphsAreNested 1 = .ok (.istore_n 1, 1) := by decide +kernel
theorem dX11_graphsAreNested_2 : decode cX11_graphsAreNested 2 = .ok (.iload_n 1, 1) := by decide +kernel
theorem dX11_graphsAreNested_3 : decode cX11_graphsAreNested 3 = .ok (.bipush 12, 2) := by decide +kernel
theorem dX11_graphsAreNested_5 : decode cX11_graphsAreNested 5 = .ok (.if_icmp .ge 58, 3) := by decide +kernel
theorem dX11_graphsAreNested_8 : decode cX11_graphsAreNested 8 = .ok (.iload_n 1, 1) := by decide +kernel
theorem dX11_graphsAreNested_9 : decode cX11_graphsAreNested 9 = .ok (.iconst 1, 1) := by decide +kernel
theorem dX11_graphsAreNested_10 : decode cX11_graphsAreNested 10 = .ok (.iadd, 1) := by decide +kernel
theorem dX11_graphsAreNested_11 : decode cX11_graphsAreNested 11 = .ok (.istore_n 2, 1) := by decide +kernel
theorem dX11_graphsAreNested_12 : decode cX11_graphsAreNested 12 = .ok (.iload_n 2, 1) := by decide +kernel
theorem dX11_graphsAreNested_13 : decode cX11_graphsAreNested 13 = .ok (.bipush 12, 2) := by decide +kernel
theorem dX11_graphsAreNested_15 : decode cX11_graphsAreNested 15 = .ok (.if_icmp .ge 42, 3) := by decide +kernel
theorem dX11_graphsAreNested_18 : decode cX11_graphsAreNested 18 = .ok (.aload_n 0, 1) := by decide +kernel
theorem dX11_graphsAreNested_19 : decode cX11_graphsAreNested 19 = .ok (.getfield 12, 3) := by decide +kernel
theorem dX11_graphsAreNested_22 : decode cX11_graphsAreNested 22 = .ok (.iload_n 1, 1) := by decide +kernel
theorem dX11_graphsAreNested_23 : decode cX11_graphsAreNested 23 = .ok (.invokevirtual 160, 3) := by decide +kernel
theorem dX11_graphsAreNested_26 : decode cX11_graphsAreNested 26 = .ok (.ifCond .eq 25, 3) := by decide +kernel
theorem dX11_graphsAreNested_51 : decode cX11_graphsAreNested 51 = .ok (.iinc 2 1, 3) := by decide +kernel
theorem dX11_graphsAreNested_54 : decode cX11_graphsAreNested 54 = .ok (.goto (-42), 3) := by decide +kernel
theorem dX11_graphsAreNested_57 : decode cX11_graphsAreNested 57 = .ok (.iinc 1 1, 3) := by decide +kernel
theorem dX11_graphsAreNested_60 : decode cX11_graphsAreNested 60 = .ok (.goto (-58), 3) := by decide +kernel
theorem dX11_graphsAreNested_63 : decode cX11_graphsAreNested 63 = .ok (.iconst 1, 1) := by decide +kernel
theorem dX11_graphsAreNested_64 : decode cX11_graphsAreNested 64 = .ok (.ireturn, 1) := by decide +kernel
theorem dX11_isIn_0 : decode cX11_isIn 0 = .ok (.iload_n 0, 1) := by decide +kernel
theorem dX11_isIn_1 : decode cX11_isIn 1 = .ok (.iload_n 1, 1) := by decide +kernel
theorem dX11_isIn_2 : decode cX11_isIn 2 = .ok (.ishr, 1) := by decide +kernel
theorem dX11_isIn_3 : decode cX11_isIn 3 = .ok (.iconst 1, 1) := by decide +kernel
theorem dX11_isIn_4 : decode cX11_isIn 4 = .ok (.iand, 1) := by decide +kernel
theorem dX11_isIn_5 : decode cX11_isIn 5 = .ok (.ifCond .eq 7, 3) := by decide +kernel
theorem dX11_isIn_12 : decode cX11_isIn 12 = .ok (.iconst 0, 1) := by decide +kernel
theorem dX11_isIn_13 : decode cX11_isIn 13 = .ok (.ireturn, 1) := by decide +kernel
theorem dX12_init_0 : decode cX12_init 0 = .ok (.aload_n 0, 1) := by decide +kernel
theorem dX12_init_1 : decode cX12_init 1 = .ok (.invokespecial 1, 3) := by decide +kernel
theorem dX12_init_4 : decode cX12_init 4 = .ok (.aload_n 0, 1) := by decide +kernel
theorem dX12_init_5 : decode cX12_init 5 = .ok (.bipush 12, 2) := by decide +kernel
theorem dX12_init_7 : decode cX12_init 7 = .ok (.anewarray 9, 3) := by decide +kernel
theorem dX12_init_10 : decode cX12_init 10 = .ok (.putfield 11, 3) := by decide +kernel
theorem dX12_init_13 : decode cX12_init 13 = .ok (.aload_n 0, 1) := by decide +kernel
theorem dX12_init_14 : decode cX12_init 14 = .ok (.new 15, 3) := by decide +kernel
theorem dX12_init_17 : decode cX12_init 17 = .ok (.dup, 1) := by decide +kernel
theorem dX12_init_18 : decode cX12_init 18 = .ok (.invokespecial 17, 3) := by decide +kernel
theorem dX12_init_21 : decode cX12_init 21 = .ok (.putfield 18, 3) := by decide +kernel
theorem dX12_init_24 : decode cX12_init 24 = .ok (.aload_n 0, 1) := by decide +kernel
theorem dX12_init_25 : decode cX12_init 25 = .ok (.new 15, 3) := by decide +kernel
theorem dX12_init_28 : decode cX12_init 28 = .ok (.dup, 1) := by decide +kernel
theorem dX12_init_29 : decode cX12_init 29 = .ok (.invokespecial 17, 3) := by decide +kernel
theorem dX12_init_32 : decode cX12_init 32 = .ok (.putfield 22, 3) := by decide +kernel
theorem dX12_init_35 : decode cX12_init 35 = .ok (.return_, 1) := by decide +kernel
theorem dX12_thrown_0 : decode cX12_thrown 0 = .ok (.aload_n 0, 1) := by decide +kernel
theorem dX12_thrown_1 : decode cX12_thrown 1 = .ok (.getfield 25, 3) := by decide +kernel
theorem dX12_thrown_4 : decode cX12_thrown 4 = .ok (.ireturn, 1) := by decide +kernel
theorem dX12_isWrong_0 : decode cX12_isWrong 0 = .ok (.aload_n 0, 1) := by decide +kernel
theorem dX12_isWrong_1 : decode cX12_isWrong 1 = .ok (.iload_n 1, 1) := by decide +kernel
theorem dX12_isWrong_2 : decode cX12_isWrong 2 = .ok (.putfield 25, 3) := by decide +kernel
theorem dX12_isWrong_5 : decode cX12_isWrong 5 = .ok (.iload_n 1, 1) := by decide +kernel
theorem dX12_isWrong_6 : decode cX12_isWrong 6 = .ok (.ifCond .le 7, 3) := by decide +kernel
theorem dX12_isWrong_9 : decode cX12_isWrong 9 = .ok (.iconst 1, 1) := by decide +kernel
theorem dX12_isWrong_10 : decode cX12_isWrong 10 = .ok (.goto 4, 3) := by decide +kernel
theorem dX12_isWrong_13 : decode cX12_isWrong 13 = .ok (.iconst 0, 1) := by decide +kernel
theorem dX12_isWrong_14 : decode cX12_isWrong 14 = .ok (.ireturn, 1) := by decide +kernel
theorem dX12_isBetween_0 : decode cX12_isBetween 0 = .ok (.lload_n 2, 1) := by decide +kernel
theorem dX12_isBetween_1 : decode cX12_isBetween 1 = .ok (.lload_n 0, 1) := by decide +kernel
theorem dX12_isBetween_2 : decode cX12_isBetween 2 = .ok (.lcmp, 1) := by decide +kernel
theorem dX12_isBetween_3 : decode cX12_isBetween 3 = .ok (.ifCond .gt 14, 3) := by decide +kernel
theorem dX12_isBetween_6 : decode cX12_isBetween 6 = .ok (.lload_n 0, 1) := by decide +kernel
theorem dX12_isBetween_7 : decode cX12_isBetween 7 = .ok (.lload 4, 2) := by decide +kernel
theorem dX12_isBetween_9 : decode cX12_isBetween 9 = .ok (.lcmp, 1) := by decide +kernel
theorem dX12_isBetween_10 : decode cX12_isBetween 10 = .ok (.ifCond .gt 7, 3) := by decide +kernel
theorem dX12_isBetween_13 : decode cX12_isBetween 13 = .ok (.iconst 1, 1) := by decide +kernel
theorem dX12_isBetween_14 : decode cX12_isBetween 14 = .ok (.goto 4, 3) := by decide +kernel
theorem dX12_isBetween_17 : decode cX12_isBetween 17 = .ok (.iconst 0, 1) := by decide +kernel
theorem dX12_isBetween_18 : decode cX12_isBetween 18 = .ok (.ireturn, 1) := by decide +kernel
theorem dX12_isPlace_0 : decode cX12_isPlace 0 = .ok (.iload_n 0, 1) := by decide +kernel
theorem dX12_isPlace_1 : decode cX12_isPlace 1 = .ok (.i2l, 1) := by decide +kernel
theorem dX12_isPlace_2 : decode cX12_isPlace 2 = .ok (.iload_n 2, 1) := by decide +kernel
theorem dX12_isPlace_3 : decode cX12_isPlace 3 = .ok (.ineg, 1) := by decide +kernel
theorem dX12_isPlace_4 : decode cX12_isPlace 4 = .ok (.i2l, 1) := by decide +kernel
theorem dX12_isPlace_5 : decode cX12_isPlace 5 = .ok (.iload_n 2, 1) := by decide +kernel
theorem dX12_isPlace_6 : decode cX12_isPlace 6 = .ok (.i2l, 1) := by decide +kernel
theorem dX12_isPlace_7 : decode cX12_isPlace 7 = .ok (.invokestatic 29, 3) := by decide +kernel
theorem dX12_isPlace_10 : decode cX12_isPlace 10 = .ok (.ifCond .eq 20, 3) := by decide +kernel
theorem dX12_isPlace_13 : decode cX12_isPlace 13 = .ok (.iload_n 1, 1) := by decide +kernel
theorem dX12_isPlace_14 : decode cX12_isPlace 14 = .ok (.i2l, 1) := by decide +kernel
theorem dX12_isPlace_15 : decode cX12_isPlace 15 = .ok (.iload_n 2, 1) := by decide +kernel
theorem dX12_isPlace_16 : decode cX12_isPlace 16 = .ok (.ineg, 1) := by decide +kernel
theorem dX12_isPlace_17 : decode cX12_isPlace 17 = .ok (.i2l, 1) := by decide +kernel
theorem dX12_isPlace_18 : decode cX12_isPlace 18 = .ok (.iload_n 2, 1) := by decide +kernel
theorem dX12_isPlace_19 : decode cX12_isPlace 19 = .ok (.i2l, 1) := by decide +kernel
theorem dX12_isPlace_20 : decode cX12_isPlace 20 = .ok (.invokestatic 29, 3) := by decide +kernel
theorem dX12_isPlace_23 : decode cX12_isPlace 23 = .ok (.ifCond .eq 7, 3) := by decide +kernel
theorem dX12_isPlace_26 : decode cX12_isPlace 26 = .ok (.iconst 1, 1) := by decide +kernel
theorem dX12_isPlace_27 : decode cX12_isPlace 27 = .ok (.goto 4, 3) := by decide +kernel
theorem dX12_isPlace_30 : decode cX12_isPlace 30 = .ok (.iconst 0, 1) := by decide +kernel
theorem dX12_isPlace_31 : decode cX12_isPlace 31 = .ok (.ireturn, 1) := by decide +kernel
theorem dX12_isThere_0 : decode cX12_isThere 0 = .ok (.iload_n 1, 1) := by decide +kernel
theorem dX12_isThere_1 : decode cX12_isThere 1 = .ok (.i2l, 1) := by decide +kernel
theorem dX12_isThere_2 : decode cX12_isThere 2 = .ok (.lconst 0, 1) := by decide +kernel
theorem dX12_isThere_3 : decode cX12_isThere 3 = .ok (.ldc2_w 33, 3) := by decide +kernel
theorem dX12_isThere_6 : decode cX12_isThere 6 = .ok (.invokestatic 29, 3) := by decide +kernel
theorem dX12_isThere_9 : decode cX12_isThere 9 = .ok (.ifCond .eq 16, 3) := by decide +kernel
theorem dX12_isThere_12 : decode cX12_isThere 12 = .ok (.aload_n 0, 1) := by decide +kernel
theorem dX12_isThere_13 : decode cX12_isThere 13 = .ok (.getfield 11, 3) := by decide +kernel
theorem dX12_isThere_16 : decode cX12_isThere 16 = .ok (.iload_n 1, 1) := by decide +kernel
theorem dX12_isThere_17 : decode cX12_isThere 17 = .ok (.aaload, 1) := by decide +kernel
theorem dX12_isThere_18 : decode cX12_isThere 18 = .ok (.ifnull 7, 3) := by decide +kernel
theorem dX12_isThere_25 : decode cX12_isThere 25 = .ok (.iconst 0, 1) := by decide +kernel
theorem dX12_isThere_26 : decode cX12_isThere 26 = .ok (.ireturn, 1) := by decide +kernel
theorem dX12_isNoPoint_0 : decode cX12_isNoPoint 0 = .ok (.aload_n 0, 1) := by decide +kernel
theorem dX12_isNoPoint_1 : decode cX12_isNoPoint 1 = .ok (.aload_n 0, 1) := by decide +kernel
theorem dX12_isNoPoint_2 : decode cX12_isNoPoint 2 = .ok (.iload_n 1, 1) := by decide +kernel
theorem dX12_isNoPoint_3 : decode cX12_isNoPoint 3 = .ok (.invokevirtual 35, 3) := by decide +kernel
theorem dX12_isNoPoint_6 : decode cX12_isNoPoint 6 = .ok (.ifCond .eq 7, 3) := by decide +kernel
theorem dX12_isNoPoint_13 : decode cX12_isNoPoint 13 = .ok (.iconst 1, 1) := by decide +kernel
theorem dX12_isNoPoint_14 : decode cX12_isNoPoint 14 = .ok (.invokevirtual 39, 3) := by decide +kernel
theorem dX12_isNoPoint_17 : decode cX12_isNoPoint 17 = .ok (.ireturn, 1) := by decide +kernel
theorem dX12_many_0 : decode cX12_many 0 = .ok (.iconst 0, 1) := by decide +kernel
theorem dX12_many_1 : decode cX12_many 1 = .ok (.istore_n 1, 1) := by decide +kernel
theorem dX12_many_2 : decode cX12_many 2 = .ok (.aload_n 0, 1) := by decide +kernel
theorem dX12_many_3 : decode cX12_many 3 = .ok (.getfield 11, 3) := by decide +kernel
theorem dX12_many_6 : decode cX12_many 6 = .ok (.astore_n 2, 1) := by decide +kernel
theorem dX12_many_7 : decode cX12_many 7 = .ok (.aload_n 2, 1) := by decide +kernel
theorem dX12_many_8 : decode cX12_many 8 = .ok (.arraylength, 1) := by decide +kernel
theorem dX12_many_9 : decode cX12_many 9 = .ok (.istore_n 3, 1) := by decide +kernel
theorem dX12_many_10 : decode cX12_many 10 = .ok (.iconst 0, 1) := by decide +kernel
theorem dX12_many_11 : decode cX12_many 11 = .ok (.istore 4, 2) := by decide +kernel
theorem dX12_many_13 : decode cX12_many 13 = .ok (.iload 4, 2) := by decide +kernel
theorem dX12_many_15 : decode cX12_many 15 = .ok (.iload_n 3, 1) := by decide +kernel
theorem dX12_many_16 : decode cX12_many 16 = .ok (.if_icmp .ge 28, 3) := by decide +kernel
theorem dX12_many_19 : decode cX12_many 19 = .ok (.aload_n 2, 1) := by decide +kernel
theorem dX12_many_20 : decode cX12_many 20 = .ok (.iload 4, 2) := by decide +kernel
theorem dX12_many_22 : decode cX12_many 22 = .ok (.aaload, 1) := by decide +kernel
theorem dX12_many_23 : decode cX12_many 23 = .ok (.astore 5, 2) := by decide +kernel
theorem dX12_many_25 : decode cX12_many 25 = .ok (.iload_n 1, 1) := by decide +kernel
theorem dX12_many_26 : decode cX12_many 26 = .ok (.aload 5, 2) := by decide +kernel
theorem dX12_many_28 : decode cX12_many 28 = .ok (.ifnonnull 7, 3) := by decide +kernel
theorem dX12_many_31 : decode cX12_many 31 = .ok (.iconst 0, 1) := by decide +kernel
theorem dX12_many_32 : decode cX12_many 32 = .ok (.goto 4, 3) := by decide +kernel
theorem dX12_many_36 : decode cX12_many 36 = .ok (.iadd, 1) := by decide +kernel
theorem dX12_many_37 : decode cX12_many 37 = .ok (.istore_n 1, 1) := by decide +kernel
theorem dX12_many_38 : decode cX12_many 38 = .ok (.iinc 4 1, 3) := by decide +kernel
theorem dX12_many_41 : decode cX12_many 41 = .ok (.goto (-28), 3) := by decide +kernel
theorem dX12_many_44 : decode cX12_many 44 = .ok (.iload_n 1, 1) := by decide +kernel
theorem dX12_many_45 : decode cX12_many 45 = .ok (.ireturn, 1) := by decide +kernel
theorem dX12_at_0 : decode cX12_at 0 = .ok (.iconst (-1), 1) := by decide +kernel
theorem dX12_at_1 : decode cX12_at 1 = .ok (.istore_n 3, 1) := by decide +kernel
theorem dX12_at_2 : decode cX12_at 2 = .ok (.iconst 0, 1) := by decide +kernel
theorem dX12_at_3 : decode cX12_at 3 = .ok (.istore 4, 2) := by decide +kernel
theorem dX12_at_5 : decode cX12_at 5 = .ok (.iload 4, 2) := by decide +kernel
theorem dX12_at_7 : decode cX12_at 7 = .ok (.bipush 12, 2) := by decide +kernel
theorem dX12_at_9 : decode cX12_at 9 = .ok (.if_icmp .ge 52, 3) := by decide +kernel
theorem dX12_at_12 : decode cX12_at 12 = .ok (.aload_n 0, 1) := by decide +kernel
theorem dX12_at_13 : decode cX12_at 13 = .ok (.getfield 11, 3) := by decide +kernel
theorem dX12_at_16 : decode cX12_at 16 = .ok (.iload 4, 2) := by decide +kernel
theorem dX12_at_18 : decode cX12_at 18 = .ok (.aaload, 1) := by decide +kernel
theorem dX12_at_19 : decode cX12_at 19 = .ok (.ifnull 34, 3) := by decide +kernel
theorem dX12_at_53 : decode cX12_at 53 = .ok (.iload_n 3, 1) := by decide +kernel
theorem dX12_at_54 : decode cX12_at 54 = .ok (.istore_n 3, 1) := by decide +kernel
theorem dX12_at_55 : decode cX12_at 55 = .ok (.iinc 4 1, 3) := by decide +kernel
theorem dX12_at_58 : decode cX12_at 58 = .ok (.goto (-53), 3) := by decide +kernel
theorem dX12_at_61 : decode cX12_at 61 = .ok (.iload_n 3, 1) := by decide +kernel
theorem dX12_at_62 : decode cX12_at 62 = .ok (.ireturn, 1) := by decide +kernel
theorem dX12_copy_0 : decode cX12_copy 0 = .ok (.bipush 12, 2) := by decide +kernel
theorem dX12_copy_2 : decode cX12_copy 2 = .ok (.anewarray 9, 3) := by decide +kernel
theorem dX12_copy_5 : decode cX12_copy 5 = .ok (.astore_n 1, 1) := by decide +kernel
theorem dX12_copy_6 : decode cX12_copy 6 = .ok (.iconst 0, 1) := by decide +kernel
theorem dX12_copy_7 : decode cX12_copy 7 = .ok (.istore_n 2, 1) := by decide +kernel
theorem dX12_copy_8 : decode cX12_copy 8 = .ok (.iload_n 2, 1) := by decide +kernel
theorem dX12_copy_9 : decode cX12_copy 9 = .ok (.bipush 12, 2) := by decide +kernel
theorem dX12_copy_11 : decode cX12_copy 11 = .ok (.if_icmp .ge 31, 3) := by decide +kernel
theorem dX12_copy_14 : decode cX12_copy 14 = .ok (.aload_n 1, 1) := by decide +kernel
theorem dX12_copy_15 : decode cX12_copy 15 = .ok (.iload_n 2, 1) := by decide +kernel
theorem dX12_copy_16 : decode cX12_copy 16 = .ok (.aload_n 0, 1) := by decide +kernel
theorem dX12_copy_17 : decode cX12_copy 17 = .ok (.iload_n 2, 1) := by decide +kernel
theorem dX12_copy_18 : decode cX12_copy 18 = .ok (.aaload, 1) := by decide +kernel
theorem dX12_copy_19 : decode cX12_copy 19 = .ok (.ifnonnull 7, 3) := by decide +kernel
theorem dX12_copy_22 : decode cX12_copy 22 = .ok (.aconst_null, 1) := by decide +kernel
theorem dX12_copy_23 : decode cX12_copy 23 = .ok (.goto 12, 3) := by decide +kernel
theorem dX12_copy_35 : decode cX12_copy 35 = .ok (.aastore, 1) := by decide +kernel
theorem dX12_copy_36 : decode cX12_copy 36 = .ok (.iinc 2 1, 3) := by decide +kernel
theorem dX12_copy_39 : decode cX12_copy 39 = .ok (.goto (-31), 3) := by decide +kernel
theorem dX12_copy_42 : decode cX12_copy 42 = .ok (.aload_n 1, 1) := by decide +kernel
theorem dX12_copy_43 : decode cX12_copy 43 = .ok (.areturn, 1) := by decide +kernel
theorem dX12_keep_0 : decode cX12_keep 0 = .ok (.aload_n 0, 1) := by decide +kernel
theorem dX12_keep_1 : decode cX12_keep 1 = .ok (.getfield 18, 3) := by decide +kernel
theorem dX12_keep_4 : decode cX12_keep 4 = .ok (.aload_n 0, 1) := by decide +kernel
theorem dX12_keep_5 : decode cX12_keep 5 = .ok (.getfield 11, 3) := by decide +kernel
theorem dX12_keep_8 : decode cX12_keep 8 = .ok (.invokestatic 46, 3) := by decide +kernel
theorem dX12_keep_11 : decode cX12_keep 11 = .ok (.invokeinterface 50 2, 5) := by decide +kernel
theorem dX12_keep_16 : decode cX12_keep 16 = .ok (.pop, 1) := by decide +kernel
theorem dX12_keep_17 : decode cX12_keep 17 = .ok (.aload_n 0, 1) := by decide +kernel
theorem dX12_keep_18 : decode cX12_keep 18 = .ok (.getfield 18, 3) := by decide +kernel
theorem dX12_keep_21 : decode cX12_keep 21 = .ok (.invokeinterface 56 1, 5) := by decide +kernel
theorem dX12_keep_26 : decode cX12_keep 26 = .ok (.bipush 20, 2) := by decide +kernel
theorem dX12_keep_28 : decode cX12_keep 28 = .ok (.if_icmp .le 14, 3) := by decide +kernel
theorem dX12_keep_42 : decode cX12_keep 42 = .ok (.return_, 1) := by decide +kernel
theorem dX12_addPoint_0 : decode cX12_addPoint 0 = .ok (.aload_n 0, 1) := by decide +kernel
theorem dX12_addPoint_1 : decode cX12_addPoint 1 = .ok (.iload_n 1, 1) := by decide +kernel
theorem dX12_addPoint_2 : decode cX12_addPoint 2 = .ok (.iload_n 2, 1) := by decide +kernel
theorem dX12_addPoint_3 : decode cX12_addPoint 3 = .ok (.bipush 100, 2) := by decide +kernel
theorem dX12_addPoint_5 : decode cX12_addPoint 5 = .ok (.invokestatic 64, 3) := by decide +kernel
theorem dX12_addPoint_8 : decode cX12_addPoint 8 = .ok (.ifCond .ne 7, 3) := by decide +kernel
theorem dX12_addPoint_11 : decode cX12_addPoint 11 = .ok (.iconst 1, 1) := by decide +kernel
theorem dX12_addPoint_12 : decode cX12_addPoint 12 = .ok (.goto 31, 3) := by decide +kernel
theorem dX12_addPoint_15 : decode cX12_addPoint 15 = .ok (.aload_n 0, 1) := by decide +kernel
theorem dX12_addPoint_16 : decode cX12_addPoint 16 = .ok (.iload_n 1, 1) := by decide +kernel
theorem dX12_addPoint_17 : decode cX12_addPoint 17 = .ok (.iload_n 2, 1) := by decide +kernel
theorem dX12_addPoint_18 : decode cX12_addPoint 18 = .ok (.invokevirtual 68, 3) := by decide +kernel
theorem dX12_addPoint_21 : decode cX12_addPoint 21 = .ok (.iconst (-1), 1) := by decide +kernel
theorem dX12_addPoint_22 : decode cX12_addPoint 22 = .ok (.if_icmp .eq 7, 3) := by decide +kernel
theorem dX12_addPoint_29 : decode cX12_addPoint 29 = .ok (.aload_n 0, 1) := by decide +kernel
theorem dX12_addPoint_30 : decode cX12_addPoint 30 = .ok (.invokevirtual 72, 3) := by decide +kernel
theorem dX12_addPoint_33 : decode cX12_addPoint 33 = .ok (.bipush 12, 2) := by decide +kernel
theorem dX12_addPoint_35 : decode cX12_addPoint 35 = .ok (.if_icmp .ne 7, 3) := by decide +kernel
theorem dX12_addPoint_42 : decode cX12_addPoint 42 = .ok (.iconst 0, 1) := by decide +kernel
theorem dX12_addPoint_43 : decode cX12_addPoint 43 = .ok (.invokevirtual 39, 3) := by decide +kernel
theorem dX12_addPoint_46 : decode cX12_addPoint 46 = .ok (.ifCond .eq 5, 3) := by decide +kernel
theorem dX12_addPoint_49 : decode cX12_addPoint 49 = .ok (.iconst 0, 1) := by decide +kernel
theorem dX12_addPoint_50 : decode cX12_addPoint 50 = .ok (.ireturn, 1) := by decide +kernel
theorem dX12_addPoint_51 : decode cX12_addPoint 51 = .ok (.aload_n 0, 1) := by decide +kernel
theorem dX12_addPoint_52 : decode cX12_addPoint 52 = .ok (.invokevirtual 75, 3) := by decide +kernel
theorem dX12_addPoint_55 : decode cX12_addPoint 55 = .ok (.iconst 0, 1) := by decide +kernel
theorem dX12_addPoint_56 : decode cX12_addPoint 56 = .ok (.istore_n 3, 1) := by decide +kernel
theorem dX12_addPoint_57 : decode cX12_addPoint 57 = .ok (.aload_n 0, 1) := by decide +kernel
theorem dX12_addPoint_58 : decode cX12_addPoint 58 = .ok (.getfield 11, 3) := by decide +kernel
theorem dX12_addPoint_61 : decode cX12_addPoint 61 = .ok (.iload_n 3, 1) := by decide +kernel
theorem dX12_addPoint_62 : decode cX12_addPoint 62 = .ok (.aaload, 1) := by decide +kernel
theorem dX12_addPoint_63 : decode cX12_addPoint 63 = .ok (.ifnull 9, 3) := by decide +kernel
theorem dX12_addPoint_72 : decode cX12_addPoint 72 = .ok (.aload_n 0, 1) := by decide +kernel
theorem dX12_addPoint_73 : decode cX12_addPoint 73 = .ok (.getfield 11, 3) := by decide +kernel
theorem dX12_addPoint_76 : decode cX12_addPoint 76 = .ok (.iload_n 3, 1) := by decide +kernel
theorem dX12_addPoint_77 : decode cX12_addPoint 77 = .ok (.iconst 5, 1) := by decide +kernel
theorem dX12_addPoint_78 : decode cX12_addPoint 78 = .ok (.newarray .int, 2) := by decide +kernel
theorem dX12_addPoint_80 : decode cX12_addPoint 80 = .ok (.dup, 1) := by decide +kernel
theorem dX12_addPoint_81 : decode cX12_addPoint 81 = .ok (.iconst 0, 1) := by decide +kernel
theorem dX12_addPoint_82 : decode cX12_addPoint 82 = .ok (.iload_n 1, 1) := by decide +kernel
theorem dX12_addPoint_83 : decode cX12_addPoint 83 = .ok (.iastore, 1) := by decide +kernel
theorem dX12_addPoint_84 : decode cX12_addPoint 84 = .ok (.dup, 1) := by decide +kernel
theorem dX12_addPoint_85 : decode cX12_addPoint 85 = .ok (.iconst 1, 1) := by decide +kernel
theorem dX12_addPoint_86 : decode cX12_addPoint 86 = .ok (.iload_n 2, 1) := by decide +kernel
theorem dX12_addPoint_87 : decode cX12_addPoint 87 = .ok (.iastore, 1) := by decide +kernel
theorem dX12_addPoint_88 : decode cX12_addPoint 88 = .ok (.dup, 1) := by decide +kernel
theorem dX12_addPoint_89 : decode cX12_addPoint 89 = .ok (.iconst 2, 1) := by decide +kernel
theorem dX12_addPoint_90 : decode cX12_addPoint 90 = .ok (.iconst 0, 1) := by decide +kernel
theorem dX12_addPoint_91 : decode cX12_addPoint 91 = .ok (.iastore, 1) := by decide +kernel
theorem dX12_addPoint_92 : decode cX12_addPoint 92 = .ok (.dup, 1) := by decide +kernel
theorem dX12_addPoint_93 : decode cX12_addPoint 93 = .ok (.iconst 3, 1) := by decide +kernel
theorem dX12_addPoint_94 : decode cX12_addPoint 94 = .ok (.iconst 0, 1) := by decide +kernel
theorem dX12_addPoint_95 : decode cX12_addPoint 95 = .ok (.iastore, 1) := by decide +kernel
theorem dX12_addPoint_96 : decode cX12_addPoint 96 = .ok (.dup, 1) := by decide +kernel
theorem dX12_addPoint_97 : decode cX12_addPoint 97 = .ok (.iconst 4, 1) := by decide +kernel
theorem dX12_addPoint_98 : decode cX12_addPoint 98 = .ok (.iconst 0, 1) := by decide +kernel
theorem dX12_addPoint_99 : decode cX12_addPoint 99 = .ok (.iastore, 1) := by decide +kernel
theorem dX12_addPoint_100 : decode cX12_addPoint 100 = .ok (.aastore, 1) := by decide +kernel
theorem dX12_addPoint_101 : decode cX12_addPoint 101 = .ok (.iload_n 3, 1) := by decide +kernel
theorem dX12_addPoint_102 : decode cX12_addPoint 102 = .ok (.ireturn, 1) := by decide +kernel
theorem dX12_remove_0 : decode cX12_remove 0 = .ok (.aload_n 0, 1) := by decide +kernel
theorem dX12_remove_1 : decode cX12_remove 1 = .ok (.iload_n 1, 1) := by decide +kernel
theorem dX12_remove_2 : decode cX12_remove 2 = .ok (.invokevirtual 78, 3) := by decide +kernel
theorem dX12_remove_5 : decode cX12_remove 5 = .ok (.ifCond .eq 5, 3) := by decide +kernel
theorem dX12_remove_8 : decode cX12_remove 8 = .ok (.iconst 0, 1) := by decide +kernel
theorem dX12_remove_9 : decode cX12_remove 9 = .ok (.ireturn, 1) := by decide +kernel
theorem dX12_move_0 : decode cX12_move 0 = .ok (.aload_n 0, 1) := by decide +kernel
theorem dX12_move_1 : decode cX12_move 1 = .ok (.iload_n 1, 1) := by decide +kernel
theorem dX12_move_2 : decode cX12_move 2 = .ok (.invokevirtual 78, 3) := by decide +kernel
theorem dX12_move_5 : decode cX12_move 5 = .ok (.ifCond .ne 49, 3) := by decide +kernel
theorem dX12_move_54 : decode cX12_move 54 = .ok (.iconst 0, 1) := by decide +kernel
theorem dX12_move_55 : decode cX12_move 55 = .ok (.ireturn, 1) := by decide +kernel
theorem dX12_setWeight_0 : decode cX12_setWeight 0 = .ok (.aload_n 0, 1) := by decide +kernel
theorem dX12_setWeight_1 : decode cX12_setWeight 1 = .ok (.iload_n 1, 1) := by decide +kernel
theorem dX12_setWeight_2 : decode cX12_setWeight 2 = .ok (.invokevirtual 78, 3) := by decide +kernel
theorem dX12_setWeight_5 : decode cX12_setWeight 5 = .ok (.ifCond .ne 27, 3) := by decide +kernel
theorem dX12_setWeight_32 : decode cX12_setWeight 32 = .ok (.iconst 0, 1) := by decide +kernel
theorem dX12_setWeight_33 : decode cX12_setWeight 33 = .ok (.ireturn, 1) := by decide +kernel
theorem dX12_countPoints_0 : decode cX12_countPoints 0 = .ok (.aload_n 0, 1) := by decide +kernel
theorem dX12_countPoints_1 : decode cX12_countPoints 1 = .ok (.iconst 0, 1) := by decide +kernel
theorem dX12_countPoints_2 : decode cX12_countPoints 2 = .ok (.putfield 25, 3) := by decide +kernel
theorem dX12_countPoints_5 : decode cX12_countPoints 5 = .ok (.aload_n 0, 1) := by decide +kernel
theorem dX12_countPoints_6 : decode cX12_countPoints 6 = .ok (.invokevirtual 72, 3) := by decide +kernel
theorem dX12_countPoints_9 : decode cX12_countPoints 9 = .ok (.ireturn, 1) := by decide +kernel
theorem dX12_pointAt_0 : decode cX12_pointAt 0 = .ok (.aload_n 0, 1) := by decide +kernel
theorem dX12_pointAt_1 : decode cX12_pointAt 1 = .ok (.aload_n 0, 1) := by decide +kernel
theorem dX12_pointAt_2 : decode cX12_pointAt 2 = .ok (.iload_n 1, 1) := by decide +kernel
theorem dX12_pointAt_3 : decode cX12_pointAt 3 = .ok (.iload_n 2, 1) := by decide +kernel
theorem dX12_pointAt_4 : decode cX12_pointAt 4 = .ok (.invokevirtual 68, 3) := by decide +kernel
theorem dX12_pointAt_7 : decode cX12_pointAt 7 = .ok (.iconst (-1), 1) := by decide +kernel
theorem dX12_pointAt_8 : decode cX12_pointAt 8 = .ok (.if_icmp .ne 7, 3) := by decide +kernel
theorem dX12_pointAt_11 : decode cX12_pointAt 11 = .ok (.iconst 1, 1) := by decide +kernel
theorem dX12_pointAt_12 : decode cX12_pointAt 12 = .ok (.goto 4, 3) := by decide +kernel
theorem dX12_pointAt_16 : decode cX12_pointAt 16 = .ok (.invokevirtual 39, 3) := by decide +kernel
theorem dX12_pointAt_19 : decode cX12_pointAt 19 = .ok (.ifCond .eq 7, 3) := by decide +kernel
theorem dX12_pointAt_22 : decode cX12_pointAt 22 = .ok (.iconst 0, 1) := by decide +kernel
theorem dX12_pointAt_23 : decode cX12_pointAt 23 = .ok (.goto 9, 3) := by decide +kernel
theorem dX12_pointAt_32 : decode cX12_pointAt 32 = .ok (.ireturn, 1) := by decide +kernel
theorem dX12_undo_0 : decode cX12_undo 0 = .ok (.aload_n 0, 1) := by decide +kernel
theorem dX12_undo_1 : decode cX12_undo 1 = .ok (.aload_n 0, 1) := by decide +kernel
theorem dX12_undo_2 : decode cX12_undo 2 = .ok (.getfield 18, 3) := by decide +kernel
theorem dX12_undo_5 : decode cX12_undo 5 = .ok (.invokeinterface 87 1, 5) := by decide +kernel
theorem dX12_undo_10 : decode cX12_undo 10 = .ok (.ifCond .eq 7, 3) := by decide +kernel
theorem dX12_undo_13 : decode cX12_undo 13 = .ok (.iconst 1, 1) := by decide +kernel
theorem dX12_undo_14 : decode cX12_undo 14 = .ok (.goto 4, 3) := by decide +kernel
theorem dX12_undo_18 : decode cX12_undo 18 = .ok (.invokevirtual 39, 3) := by decide +kernel
theorem dX12_undo_21 : decode cX12_undo 21 = .ok (.ifCond .eq 5, 3) := by decide +kernel
theorem dX12_undo_24 : decode cX12_undo 24 = .ok (.iconst 0, 1) := by decide +kernel
theorem dX12_undo_25 : decode cX12_undo 25 = .ok (.ireturn, 1) := by decide +kernel
theorem dX12_isKind_0 : decode cX12_isKind 0 = .ok (.iload_n 0, 1) := by decide +kernel
theorem dX12_isKind_1 : decode cX12_isKind 1 = .ok (.bipush 101, 2) := by decide +kernel
theorem dX12_isKind_3 : decode cX12_isKind 3 = .ok (.if_icmp .eq 21, 3) := by decide +kernel
theorem dX12_isKind_6 : decode cX12_isKind 6 = .ok (.iload_n 0, 1) := by decide +kernel
theorem dX12_isKind_7 : decode cX12_isKind 7 = .ok (.bipush 115, 2) := by decide +kernel
theorem dX12_isKind_9 : decode cX12_isKind 9 = .ok (.if_icmp .eq 15, 3) := by decide +kernel
theorem dX12_isKind_12 : decode cX12_isKind 12 = .ok (.iload_n 0, 1) := by decide +kernel
theorem dX12_isKind_13 : decode cX12_isKind 13 = .ok (.bipush 109, 2) := by decide +kernel
theorem dX12_isKind_15 : decode cX12_isKind 15 = .ok (.if_icmp .eq 9, 3) := by decide +kernel
theorem dX12_isKind_18 : decode cX12_isKind 18 = .ok (.iload_n 0, 1) := by decide +kernel
theorem dX12_isKind_19 : decode cX12_isKind 19 = .ok (.bipush 112, 2) := by decide +kernel
theorem dX12_isKind_21 : decode cX12_isKind 21 = .ok (.if_icmp .ne 7, 3) := by decide +kernel
theorem dX12_isKind_24 : decode cX12_isKind 24 = .ok (.iconst 1, 1) := by decide +kernel
theorem dX12_isKind_25 : decode cX12_isKind 25 = .ok (.goto 4, 3) := by decide +kernel
theorem dX12_isKind_28 : decode cX12_isKind 28 = .ok (.iconst 0, 1) := by decide +kernel
theorem dX12_isKind_29 : decode cX12_isKind 29 = .ok (.ireturn, 1) := by decide +kernel
theorem dX12_isNoQuestion_0 : decode cX12_isNoQuestion 0 = .ok (.aload_n 0, 1) := by decide +kernel
theorem dX12_isNoQuestion_1 : decode cX12_isNoQuestion 1 = .ok (.iload_n 1, 1) := by decide +kernel
theorem dX12_isNoQuestion_2 : decode cX12_isNoQuestion 2 = .ok (.invokestatic 105, 3) := by decide +kernel
theorem dX12_isNoQuestion_5 : decode cX12_isNoQuestion 5 = .ok (.ifCond .eq 14, 3) := by decide +kernel
theorem dX12_isNoQuestion_8 : decode cX12_isNoQuestion 8 = .ok (.iload_n 2, 1) := by decide +kernel
theorem dX12_isNoQuestion_9 : decode cX12_isNoQuestion 9 = .ok (.iload_n 3, 1) := by decide +kernel
theorem dX12_isNoQuestion_10 : decode cX12_isNoQuestion 10 = .ok (.sipush 999, 3) := by decide +kernel
theorem dX12_isNoQuestion_13 : decode cX12_isNoQuestion 13 = .ok (.invokestatic 64, 3) := by decide +kernel
theorem dX12_isNoQuestion_16 : decode cX12_isNoQuestion 16 = .ok (.ifCond .ne 7, 3) := by decide +kernel
theorem dX12_isNoQuestion_19 : decode cX12_isNoQuestion 19 = .ok (.iconst 1, 1) := by decide +kernel
theorem dX12_isNoQuestion_20 : decode cX12_isNoQuestion 20 = .ok (.goto 25, 3) := by decide +kernel
theorem dX12_isNoQuestion_23 : decode cX12_isNoQuestion 23 = .ok (.iload 4, 2) := by decide +kernel
theorem dX12_isNoQuestion_25 : decode cX12_isNoQuestion 25 = .ok (.i2l, 1) := by decide +kernel
theorem dX12_isNoQuestion_26 : decode cX12_isNoQuestion 26 = .ok (.lconst 0, 1) := by decide +kernel
theorem dX12_isNoQuestion_27 : decode cX12_isNoQuestion 27 = .ok (.aload_n 0, 1) := by decide +kernel
theorem dX12_isNoQuestion_28 : decode cX12_isNoQuestion 28 = .ok (.invokevirtual 72, 3) := by decide +kernel
theorem dX12_isNoQuestion_31 : decode cX12_isNoQuestion 31 = .ok (.iconst 1, 1) := by decide +kernel
theorem dX12_isNoQuestion_32 : decode cX12_isNoQuestion 32 = .ok (.isub, 1) := by decide +kernel
theorem dX12_isNoQuestion_33 : decode cX12_isNoQuestion 33 = .ok (.i2l, 1) := by decide +kernel
theorem dX12_isNoQuestion_34 : decode cX12_isNoQuestion 34 = .ok (.invokestatic 29, 3) := by decide +kernel
theorem dX12_isNoQuestion_37 : decode cX12_isNoQuestion 37 = .ok (.ifCond .eq 7, 3) := by decide +kernel
theorem dX12_isNoQuestion_44 : decode cX12_isNoQuestion 44 = .ok (.iconst 2, 1) := by decide +kernel
theorem dX12_isNoQuestion_45 : decode cX12_isNoQuestion 45 = .ok (.invokevirtual 39, 3) := by decide +kernel
theorem dX12_isNoQuestion_48 : decode cX12_isNoQuestion 48 = .ok (.ireturn, 1) := by decide +kernel
theorem dX12_nearest_0 : decode cX12_nearest 0 = .ok (.aload_n 0, 1) := by decide +kernel
theorem dX12_nearest_1 : decode cX12_nearest 1 = .ok (.iload_n 1, 1) := by decide +kernel
theorem dX12_nearest_2 : decode cX12_nearest 2 = .ok (.iload_n 2, 1) := by decide +kernel
theorem dX12_nearest_3 : decode cX12_nearest 3 = .ok (.iload_n 3, 1) := by decide +kernel
theorem dX12_nearest_4 : decode cX12_nearest 4 = .ok (.iconst 0, 1) := by decide +kernel
theorem dX12_nearest_5 : decode cX12_nearest 5 = .ok (.invokevirtual 109, 3) := by decide +kernel
theorem dX12_nearest_8 : decode cX12_nearest 8 = .ok (.ireturn, 1) := by decide +kernel
theorem dX12_nearness__0 : decode cX12_nearness_ 0 = .ok (.aload_n 0, 1) := by decide +kernel
theorem dX12_nearness__1 : decode cX12_nearness_ 1 = .ok (.iload_n 1, 1) := by decide +kernel
theorem dX12_nearness__2 : decode cX12_nearness_ 2 = .ok (.iload_n 2, 1) := by decide +kernel
theorem dX12_nearness__3 : decode cX12_nearness_ 3 = .ok (.iload_n 3, 1) := by decide +kernel
theorem dX12_nearness__4 : decode cX12_nearness_ 4 = .ok (.iconst 0, 1) := by decide +kernel
theorem dX12_nearness__5 : decode cX12_nearness_ 5 = .ok (.invokevirtual 113, 3) := by decide +kernel
theorem dX12_nearness__8 : decode cX12_nearness_ 8 = .ok (.ifCond .eq 7, 3) := by decide +kernel
theorem dX12_nearness__11 : decode cX12_nearness_ 11 = .ok (.iconst 0, 1) := by decide +kernel
theorem dX12_nearness__12 : decode cX12_nearness_ 12 = .ok (.goto 24, 3) := by decide +kernel
theorem dX12_nearness__36 : decode cX12_nearness_ 36 = .ok (.ireturn, 1) := by decide +kernel
theorem dX12_farthest_0 : decode cX12_farthest 0 = .ok (.aload_n 0, 1) := by decide +kernel
theorem dX12_farthest_1 : decode cX12_farthest 1 = .ok (.iload_n 1, 1) := by decide +kernel
theorem dX12_farthest_2 : decode cX12_farthest 2 = .ok (.iload_n 2, 1) := by decide +kernel
theorem dX12_farthest_3 : decode cX12_farthest 3 = .ok (.iload_n 3, 1) := by decide +kernel
theorem dX12_farthest_4 : decode cX12_farthest 4 = .ok (.iconst 0, 1) := by decide +kernel
theorem dX12_farthest_5 : decode cX12_farthest 5 = .ok (.invokevirtual 113, 3) := by decide +kernel
theorem dX12_farthest_8 : decode cX12_farthest 8 = .ok (.ifCond .eq 5, 3) := by decide +kernel
theorem dX12_farthest_11 : decode cX12_farthest 11 = .ok (.iconst 0, 1) := by decide +kernel
theorem dX12_farthest_12 : decode cX12_farthest 12 = .ok (.ireturn, 1) := by decide +kernel
theorem dX12_nearestAt_0 : decode cX12_nearestAt 0 = .ok (.aload_n 0, 1) := by decide +kernel
theorem dX12_nearestAt_1 : decode cX12_nearestAt 1 = .ok (.iload_n 1, 1) := by decide +kernel
theorem dX12_nearestAt_2 : decode cX12_nearestAt 2 = .ok (.iload_n 2, 1) := by decide +kernel
theorem dX12_nearestAt_3 : decode cX12_nearestAt 3 = .ok (.iload_n 3, 1) := by decide +kernel
theorem dX12_nearestAt_4 : decode cX12_nearestAt 4 = .ok (.iload 4, 2) := by decide +kernel
theorem dX12_nearestAt_6 : decode cX12_nearestAt 6 = .ok (.invokevirtual 113, 3) := by decide +kernel
theorem dX12_nearestAt_9 : decode cX12_nearestAt 9 = .ok (.ifCond .eq 7, 3) := by decide +kernel
theorem dX12_nearestAt_12 : decode cX12_nearestAt 12 = .ok (.iconst 0, 1) := by decide +kernel
theorem dX12_nearestAt_13 : decode cX12_nearestAt 13 = .ok (.goto 13, 3) := by decide +kernel
theorem dX12_nearestAt_26 : decode cX12_nearestAt 26 = .ok (.ireturn, 1) := by decide +kernel
theorem dX12_within_0 : decode cX12_within 0 = .ok (.aload_n 0, 1) := by decide +kernel
theorem dX12_within_1 : decode cX12_within 1 = .ok (.iload_n 1, 1) := by decide +kernel
theorem dX12_within_2 : decode cX12_within 2 = .ok (.iload_n 2, 1) := by decide +kernel
theorem dX12_within_3 : decode cX12_within 3 = .ok (.sipush 999, 3) := by decide +kernel
theorem dX12_within_6 : decode cX12_within 6 = .ok (.invokestatic 64, 3) := by decide +kernel
theorem dX12_within_9 : decode cX12_within 9 = .ok (.ifCond .eq 15, 3) := by decide +kernel
theorem dX12_within_12 : decode cX12_within 12 = .ok (.iload_n 3, 1) := by decide +kernel
theorem dX12_within_13 : decode cX12_within 13 = .ok (.i2l, 1) := by decide +kernel
theorem dX12_within_14 : decode cX12_within 14 = .ok (.lconst 0, 1) := by decide +kernel
theorem dX12_within_15 : decode cX12_within 15 = .ok (.ldc2_w 121, 3) := by decide +kernel
theorem dX12_within_18 : decode cX12_within 18 = .ok (.invokestatic 29, 3) := by decide +kernel
theorem dX12_within_21 : decode cX12_within 21 = .ok (.ifCond .ne 7, 3) := by decide +kernel
theorem dX12_within_24 : decode cX12_within 24 = .ok (.iconst 1, 1) := by decide +kernel
theorem dX12_within_25 : decode cX12_within 25 = .ok (.goto 4, 3) := by decide +kernel
theorem dX12_within_28 : decode cX12_within 28 = .ok (.iconst 0, 1) := by decide +kernel
theorem dX12_within_29 : decode cX12_within 29 = .ok (.invokevirtual 39, 3) := by decide +kernel
theorem dX12_within_32 : decode cX12_within 32 = .ok (.ifCond .eq 5, 3) := by decide +kernel
theorem dX12_within_35 : decode cX12_within 35 = .ok (.iconst 0, 1) := by decide +kernel
theorem dX12_within_36 : decode cX12_within 36 = .ok (.ireturn, 1) := by decide +kernel
theorem dX12_within_37 : decode cX12_within 37 = .ok (.iconst 0, 1) := by decide +kernel
theorem dX12_within_38 : decode cX12_within 38 = .ok (.istore 4, 2) := by decide +kernel
theorem dX12_within_40 : decode cX12_within 40 = .ok (.aload_n 0, 1) := by decide +kernel
theorem dX12_within_41 : decode cX12_within 41 = .ok (.getfield 11, 3) := by decide +kernel
theorem dX12_within_44 : decode cX12_within 44 = .ok (.astore 5, 2) := by decide +kernel
theorem dX12_within_46 : decode cX12_within 46 = .ok (.aload 5, 2) := by decide +kernel
theorem dX12_within_48 : decode cX12_within 48 = .ok (.arraylength, 1) := by decide +kernel
theorem dX12_within_49 : decode cX12_within 49 = .ok (.istore 6, 2) := by decide +kernel
theorem dX12_within_51 : decode cX12_within 51 = .ok (.iconst 0, 1) := by decide +kernel
theorem dX12_within_52 : decode cX12_within 52 = .ok (.istore 7, 2) := by decide +kernel
theorem dX12_within_54 : decode cX12_within 54 = .ok (.iload 7, 2) := by decide +kernel
theorem dX12_within_56 : decode cX12_within 56 = .ok (.iload 6, 2) := by decide +kernel
theorem dX12_within_58 : decode cX12_within 58 = .ok (.if_icmp .ge 46, 3) := by decide +kernel
theorem dX12_within_61 : decode cX12_within 61 = .ok (.aload 5, 2) := by decide +kernel
theorem dX12_within_63 : decode cX12_within 63 = .ok (.iload 7, 2) := by decide +kernel
theorem dX12_within_65 : decode cX12_within 65 = .ok (.aaload, 1) := by decide +kernel
theorem dX12_within_66 : decode cX12_within 66 = .ok (.astore 8, 2) := by decide +kernel
theorem dX12_within_68 : decode cX12_within 68 = .ok (.iload 4, 2) := by decide +kernel
theorem dX12_within_70 : decode cX12_within 70 = .ok (.aload 8, 2) := by decide +kernel
theorem dX12_within_72 : decode cX12_within 72 = .ok (.ifnull 22, 3) := by decide +kernel
theorem dX12_within_94 : decode cX12_within 94 = .ok (.iconst 0, 1) := by decide +kernel
theorem dX12_within_95 : decode cX12_within 95 = .ok (.iadd, 1) := by decide +kernel
theorem dX12_within_96 : decode cX12_within 96 = .ok (.istore 4, 2) := by decide +kernel
theorem dX12_within_98 : decode cX12_within 98 = .ok (.iinc 7 1, 3) := by decide +kernel
theorem dX12_within_101 : decode cX12_within 101 = .ok (.goto (-47), 3) := by decide +kernel
theorem dX12_within_104 : decode cX12_within 104 = .ok (.iload 4, 2) := by decide +kernel
theorem dX12_within_106 : decode cX12_within 106 = .ok (.ireturn, 1) := by decide +kernel
theorem dX12_cell_0 : decode cX12_cell 0 = .ok (.aload_n 0, 1) := by decide +kernel
theorem dX12_cell_1 : decode cX12_cell 1 = .ok (.iload_n 2, 1) := by decide +kernel
theorem dX12_cell_2 : decode cX12_cell 2 = .ok (.invokevirtual 78, 3) := by decide +kernel
theorem dX12_cell_5 : decode cX12_cell 5 = .ok (.ifCond .ne 22, 3) := by decide +kernel
theorem dX12_cell_27 : decode cX12_cell 27 = .ok (.iconst 0, 1) := by decide +kernel
theorem dX12_cell_28 : decode cX12_cell 28 = .ok (.ireturn, 1) := by decide +kernel
theorem dX12_areThree_0 : decode cX12_areThree 0 = .ok (.aload_n 0, 1) := by decide +kernel
theorem dX12_areThree_1 : decode cX12_areThree 1 = .ok (.aload_n 0, 1) := by decide +kernel
theorem dX12_areThree_2 : decode cX12_areThree 2 = .ok (.iload_n 1, 1) := by decide +kernel
theorem dX12_areThree_3 : decode cX12_areThree 3 = .ok (.invokevirtual 35, 3) := by decide +kernel
theorem dX12_areThree_6 : decode cX12_areThree 6 = .ok (.ifCond .eq 23, 3) := by decide +kernel
theorem dX12_areThree_29 : decode cX12_areThree 29 = .ok (.iconst 1, 1) := by decide +kernel
theorem dX12_areThree_30 : decode cX12_areThree 30 = .ok (.invokevirtual 39, 3) := by decide +kernel
theorem dX12_areThree_33 : decode cX12_areThree 33 = .ok (.ifCond .ne 7, 3) := by decide +kernel
theorem dX12_areThree_40 : decode cX12_areThree 40 = .ok (.iconst 0, 1) := by decide +kernel
theorem dX12_areThree_41 : decode cX12_areThree 41 = .ok (.ireturn, 1) := by decide +kernel
theorem dX12_turn_0 : decode cX12_turn 0 = .ok (.aload_n 0, 1) := by decide +kernel
theorem dX12_turn_1 : decode cX12_turn 1 = .ok (.iload_n 1, 1) := by decide +kernel
theorem dX12_turn_2 : decode cX12_turn 2 = .ok (.iload_n 2, 1) := by decide +kernel
theorem dX12_turn_3 : decode cX12_turn 3 = .ok (.iload_n 3, 1) := by decide +kernel
theorem dX12_turn_4 : decode cX12_turn 4 = .ok (.invokevirtual 137, 3) := by decide +kernel
theorem dX12_turn_7 : decode cX12_turn 7 = .ok (.ifCond .eq 13, 3) := by decide +kernel
theorem dX12_turn_20 : decode cX12_turn 20 = .ok (.iconst 0, 1) := by decide +kernel
theorem dX12_turn_21 : decode cX12_turn 21 = .ok (.ireturn, 1) := by decide +kernel
theorem dX12_inCircle_0 : decode cX12_inCircle 0 = .ok (.aload_n 0, 1) := by decide +kernel
theorem dX12_inCircle_1 : decode cX12_inCircle 1 = .ok (.aload_n 0, 1) := by decide +kernel
theorem dX12_inCircle_2 : decode cX12_inCircle 2 = .ok (.iload_n 1, 1) := by decide +kernel
theorem dX12_inCircle_3 : decode cX12_inCircle 3 = .ok (.invokevirtual 35, 3) := by decide +kernel
theorem dX12_inCircle_6 : decode cX12_inCircle 6 = .ok (.ifCond .eq 28, 3) := by decide +kernel
theorem dX12_inCircle_34 : decode cX12_inCircle 34 = .ok (.iconst 1, 1) := by decide +kernel
theorem dX12_inCircle_35 : decode cX12_inCircle 35 = .ok (.goto 18, 3) := by decide +kernel
theorem dX12_inCircle_53 : decode cX12_inCircle 53 = .ok (.invokevirtual 39, 3) := by decide +kernel
theorem dX12_inCircle_56 : decode cX12_inCircle 56 = .ok (.ifCond .eq 5, 3) := by decide +kernel
theorem dX12_inCircle_59 : decode cX12_inCircle 59 = .ok (.iconst 0, 1) := by decide +kernel
theorem dX12_inCircle_60 : decode cX12_inCircle 60 = .ok (.ireturn, 1) := by decide +kernel
theorem dX12_countTriangles_0 : decode cX12_countTriangles 0 = .ok (.aload_n 0, 1) := by decide +kernel
theorem dX12_countTriangles_1 : decode cX12_countTriangles 1 = .ok (.iconst 0, 1) := by decide +kernel
theorem dX12_countTriangles_2 : decode cX12_countTriangles 2 = .ok (.putfield 25, 3) := by decide +kernel
theorem dX12_countTriangles_5 : decode cX12_countTriangles 5 = .ok (.iconst 0, 1) := by decide +kernel
theorem dX12_countTriangles_6 : decode cX12_countTriangles 6 = .ok (.istore_n 1, 1) := by decide +kernel
theorem dX12_countTriangles_7 : decode cX12_countTriangles 7 = .ok (.iconst 0, 1) := by decide +kernel
theorem dX12_countTriangles_8 : decode cX12_countTriangles 8 = .ok (.istore_n 2, 1) := by decide +kernel
theorem dX12_countTriangles_9 : decode cX12_countTriangles 9 = .ok (.iload_n 2, 1) := by decide +kernel
theorem dX12_countTriangles_10 : decode cX12_countTriangles 10 = .ok (.bipush 12, 2) := by decide +kernel
theorem dX12_countTriangles_12 : decode cX12_countTriangles 12 = .ok (.if_icmp .ge 87, 3) := by decide +kernel
theorem dX12_countTriangles_15 : decode cX12_countTriangles 15 = .ok (.iload_n 2, 1) := by decide +kernel
theorem dX12_countTriangles_16 : decode cX12_countTriangles 16 = .ok (.iconst 1, 1) := by decide +kernel
theorem dX12_countTriangles_17 : decode cX12_countTriangles 17 = .ok (.iadd, 1) := by decide +kernel
theorem dX12_countTriangles_18 : decode cX12_countTriangles 18 = .ok (.istore_n 3, 1) := by decide +kernel
theorem dX12_countTriangles_19 : decode cX12_countTriangles 19 = .ok (.iload_n 3, 1) := by decide +kernel
theorem dX12_countTriangles_20 : decode cX12_countTriangles 20 = .ok (.bipush 12, 2) := by decide +kernel
theorem dX12_countTriangles_22 : decode cX12_countTriangles 22 = .ok (.if_icmp .ge 71, 3) := by decide +kernel
theorem dX12_countTriangles_25 : decode cX12_countTriangles 25 = .ok (.iload_n 3, 1) := by decide +kernel
theorem dX12_countTriangles_26 : decode cX12_countTriangles 26 = .ok (.iconst 1, 1) := by decide +kernel
theorem dX12_countTriangles_27 : decode cX12_countTriangles 27 = .ok (.iadd, 1) := by decide +kernel
theorem dX12_countTriangles_28 : decode cX12_countTriangles 28 = .ok (.istore 4, 2) := by decide +kernel
theorem dX12_countTriangles_30 : decode cX12_countTriangles 30 = .ok (.iload 4, 2) := by decide +kernel
theorem dX12_countTriangles_32 : decode cX12_countTriangles 32 = .ok (.bipush 12, 2) := by decide +kernel
theorem dX12_countTriangles_34 : decode cX12_countTriangles 34 = .ok (.if_icmp .ge 53, 3) := by decide +kernel
theorem dX12_countTriangles_37 : decode cX12_countTriangles 37 = .ok (.iload_n 1, 1) := by decide +kernel
theorem dX12_countTriangles_38 : decode cX12_countTriangles 38 = .ok (.aload_n 0, 1) := by decide +kernel
theorem dX12_countTriangles_39 : decode cX12_countTriangles 39 = .ok (.iload_n 2, 1) := by decide +kernel
theorem dX12_countTriangles_40 : decode cX12_countTriangles 40 = .ok (.invokevirtual 35, 3) := by decide +kernel
theorem dX12_countTriangles_43 : decode cX12_countTriangles 43 = .ok (.ifCond .eq 35, 3) := by decide +kernel
theorem dX12_countTriangles_78 : decode cX12_countTriangles 78 = .ok (.iconst 0, 1) := by decide +kernel
theorem dX12_countTriangles_79 : decode cX12_countTriangles 79 = .ok (.iadd, 1) := by decide +kernel
theorem dX12_countTriangles_80 : decode cX12_countTriangles 80 = .ok (.istore_n 1, 1) := by decide +kernel
theorem dX12_countTriangles_81 : decode cX12_countTriangles 81 = .ok (.iinc 4 1, 3) := by decide +kernel
theorem dX12_countTriangles_84 : decode cX12_countTriangles 84 = .ok (.goto (-54), 3) := by decide +kernel
theorem dX12_countTriangles_87 : decode cX12_countTriangles 87 = .ok (.iinc 3 1, 3) := by decide +kernel
theorem dX12_countTriangles_90 : decode cX12_countTriangles 90 = .ok (.goto (-71), 3) := by decide +kernel
theorem dX12_countTriangles_93 : decode cX12_countTriangles 93 = .ok (.iinc 2 1, 3) := by decide +kernel
theorem dX12_countTriangles_96 : decode cX12_countTriangles 96 = .ok (.goto (-87), 3) := by decide +kernel
theorem dX12_countTriangles_99 : decode cX12_countTriangles 99 = .ok (.iload_n 1, 1) := by decide +kernel
theorem dX12_countTriangles_100 : decode cX12_countTriangles 100 = .ok (.ireturn, 1) := by decide +kernel
theorem dX12_isTriangle_0 : decode cX12_isTriangle 0 = .ok (.aload_n 0, 1) := by decide +kernel
theorem dX12_isTriangle_1 : decode cX12_isTriangle 1 = .ok (.iload_n 1, 1) := by decide +kernel
theorem dX12_isTriangle_2 : decode cX12_isTriangle 2 = .ok (.iload_n 2, 1) := by decide +kernel
theorem dX12_isTriangle_3 : decode cX12_isTriangle 3 = .ok (.iload_n 3, 1) := by decide +kernel
theorem dX12_isTriangle_4 : decode cX12_isTriangle 4 = .ok (.invokevirtual 137, 3) := by decide +kernel
theorem dX12_isTriangle_7 : decode cX12_isTriangle 7 = .ok (.ifCond .eq 17, 3) := by decide +kernel
theorem dX12_isTriangle_24 : decode cX12_isTriangle 24 = .ok (.iconst 0, 1) := by decide +kernel
theorem dX12_isTriangle_25 : decode cX12_isTriangle 25 = .ok (.ireturn, 1) := by decide +kernel
theorem dX12_areTwo_0 : decode cX12_areTwo 0 = .ok (.aload_n 0, 1) := by decide +kernel
theorem dX12_areTwo_1 : decode cX12_areTwo 1 = .ok (.aload_n 0, 1) := by decide +kernel
theorem dX12_areTwo_2 : decode cX12_areTwo 2 = .ok (.iload_n 1, 1) := by decide +kernel
theorem dX12_areTwo_3 : decode cX12_areTwo 3 = .ok (.invokevirtual 35, 3) := by decide +kernel
theorem dX12_areTwo_6 : decode cX12_areTwo 6 = .ok (.ifCond .eq 15, 3) := by decide +kernel
theorem dX12_areTwo_21 : decode cX12_areTwo 21 = .ok (.iconst 1, 1) := by decide +kernel
theorem dX12_areTwo_22 : decode cX12_areTwo 22 = .ok (.invokevirtual 39, 3) := by decide +kernel
theorem dX12_areTwo_25 : decode cX12_areTwo 25 = .ok (.ifCond .ne 7, 3) := by decide +kernel
theorem dX12_areTwo_32 : decode cX12_areTwo 32 = .ok (.iconst 0, 1) := by decide +kernel
theorem dX12_areTwo_33 : decode cX12_areTwo 33 = .ok (.ireturn, 1) := by decide +kernel
theorem dX12_isEdge_0 : decode cX12_isEdge 0 = .ok (.iconst 0, 1) := by decide +kernel
theorem dX12_isEdge_1 : decode cX12_isEdge 1 = .ok (.istore_n 3, 1) := by decide +kernel
theorem dX12_isEdge_2 : decode cX12_isEdge 2 = .ok (.iconst 0, 1) := by decide +kernel
theorem dX12_isEdge_3 : decode cX12_isEdge 3 = .ok (.istore 4, 2) := by decide +kernel
theorem dX12_isEdge_5 : decode cX12_isEdge 5 = .ok (.iload 4, 2) := by decide +kernel
theorem dX12_isEdge_7 : decode cX12_isEdge 7 = .ok (.bipush 12, 2) := by decide +kernel
theorem dX12_isEdge_9 : decode cX12_isEdge 9 = .ok (.if_icmp .ge 55, 3) := by decide +kernel
theorem dX12_isEdge_12 : decode cX12_isEdge 12 = .ok (.iload_n 3, 1) := by decide +kernel
theorem dX12_isEdge_13 : decode cX12_isEdge 13 = .ok (.ifCond .ne 51, 3) := by decide +kernel
theorem dX12_isEdge_16 : decode cX12_isEdge 16 = .ok (.aload_n 0, 1) := by decide +kernel
theorem dX12_isEdge_17 : decode cX12_isEdge 17 = .ok (.iload_n 1, 1) := by decide +kernel
theorem dX12_isEdge_18 : decode cX12_isEdge 18 = .ok (.invokevirtual 35, 3) := by decide +kernel
theorem dX12_isEdge_21 : decode cX12_isEdge 21 = .ok (.ifCond .eq 35, 3) := by decide +kernel
theorem dX12_isEdge_56 : decode cX12_isEdge 56 = .ok (.iconst 0, 1) := by decide +kernel
theorem dX12_isEdge_57 : decode cX12_isEdge 57 = .ok (.istore_n 3, 1) := by decide +kernel
theorem dX12_isEdge_58 : decode cX12_isEdge 58 = .ok (.iinc 4 1, 3) := by decide +kernel
theorem dX12_isEdge_61 : decode cX12_isEdge 61 = .ok (.goto (-56), 3) := by decide +kernel
theorem dX12_isEdge_64 : decode cX12_isEdge 64 = .ok (.iload_n 3, 1) := by decide +kernel
theorem dX12_isEdge_65 : decode cX12_isEdge 65 = .ok (.ireturn, 1) := by decide +kernel
theorem dX12_areNeighbours_0 : decode cX12_areNeighbours 0 = .ok (.aload_n 0, 1) := by decide +kernel
theorem dX12_areNeighbours_1 : decode cX12_areNeighbours 1 = .ok (.iload_n 1, 1) := by decide +kernel
theorem dX12_areNeighbours_2 : decode cX12_areNeighbours 2 = .ok (.iload_n 2, 1) := by decide +kernel
theorem dX12_areNeighbours_3 : decode cX12_areNeighbours 3 = .ok (.invokevirtual 150, 3) := by decide +kernel
theorem dX12_areNeighbours_6 : decode cX12_areNeighbours 6 = .ok (.ifCond .eq 16, 3) := by decide +kernel
theorem dX12_areNeighbours_22 : decode cX12_areNeighbours 22 = .ok (.iconst 0, 1) := by decide +kernel
theorem dX12_areNeighbours_23 : decode cX12_areNeighbours 23 = .ok (.ireturn, 1) := by decide +kernel
theorem dX12_neighbours_0 : decode cX12_neighbours 0 = .ok (.iconst 0, 1) := by decide +kernel
theorem dX12_neighbours_1 : decode cX12_neighbours 1 = .ok (.istore_n 2, 1) := by decide +kernel
theorem dX12_neighbours_2 : decode cX12_neighbours 2 = .ok (.iconst 0, 1) := by decide +kernel
theorem dX12_neighbours_3 : decode cX12_neighbours 3 = .ok (.istore_n 3, 1) := by decide +kernel
theorem dX12_neighbours_4 : decode cX12_neighbours 4 = .ok (.iload_n 3, 1) := by decide +kernel
theorem dX12_neighbours_5 : decode cX12_neighbours 5 = .ok (.bipush 12, 2) := by decide +kernel
theorem dX12_neighbours_7 : decode cX12_neighbours 7 = .ok (.if_icmp .ge 26, 3) := by decide +kernel
theorem dX12_neighbours_10 : decode cX12_neighbours 10 = .ok (.iload_n 2, 1) := by decide +kernel
theorem dX12_neighbours_11 : decode cX12_neighbours 11 = .ok (.aload_n 0, 1) := by decide +kernel
theorem dX12_neighbours_12 : decode cX12_neighbours 12 = .ok (.iload_n 1, 1) := by decide +kernel
theorem dX12_neighbours_13 : decode cX12_neighbours 13 = .ok (.iload_n 3, 1) := by decide +kernel
theorem dX12_neighbours_14 : decode cX12_neighbours 14 = .ok (.invokevirtual 154, 3) := by decide +kernel
theorem dX12_neighbours_17 : decode cX12_neighbours 17 = .ok (.ifCond .eq 7, 3) := by decide +kernel
theorem dX12_neighbours_24 : decode cX12_neighbours 24 = .ok (.iconst 0, 1) := by decide +kernel
theorem dX12_neighbours_25 : decode cX12_neighbours 25 = .ok (.iadd, 1) := by decide +kernel
theorem dX12_neighbours_26 : decode cX12_neighbours 26 = .ok (.istore_n 2, 1) := by decide +kernel
theorem dX12_neighbours_27 : decode cX12_neighbours 27 = .ok (.iinc 3 1, 3) := by decide +kernel
theorem dX12_neighbours_30 : decode cX12_neighbours 30 = .ok (.goto (-26), 3) := by decide +kernel
theorem dX12_neighbours_33 : decode cX12_neighbours 33 = .ok (.iload_n 2, 1) := by decide +kernel
theorem dX12_neighbours_34 : decode cX12_neighbours 34 = .ok (.ireturn, 1) := by decide +kernel
theorem dX12_countNeighbours_0 : decode cX12_countNeighbours 0 = .ok (.aload_n 0, 1) := by decide +kernel
theorem dX12_countNeighbours_1 : decode cX12_countNeighbours 1 = .ok (.iload_n 1, 1) := by decide +kernel
theorem dX12_countNeighbours_2 : decode cX12_countNeighbours 2 = .ok (.invokevirtual 78, 3) := by decide +kernel
theorem dX12_countNeighbours_5 : decode cX12_countNeighbours 5 = .ok (.ifCond .eq 7, 3) := by decide +kernel
theorem dX12_countNeighbours_8 : decode cX12_countNeighbours 8 = .ok (.iconst 0, 1) := by decide +kernel
theorem dX12_countNeighbours_9 : decode cX12_countNeighbours 9 = .ok (.goto 8, 3) := by decide +kernel
theorem dX12_countNeighbours_17 : decode cX12_countNeighbours 17 = .ok (.ireturn, 1) := by decide +kernel
theorem dX12_tree_0 : decode cX12_tree 0 = .ok (.bipush 12, 2) := by decide +kernel
theorem dX12_tree_2 : decode cX12_tree 2 = .ok (.bipush 12, 2) := by decide +kernel
theorem dX12_tree_4 : decode cX12_tree 4 = .ok (.multianewarray 164 2, 4) := by decide +kernel
theorem dX12_tree_8 : decode cX12_tree 8 = .ok (.astore_n 1, 1) := by decide +kernel
theorem dX12_tree_9 : decode cX12_tree 9 = .ok (.bipush 12, 2) := by decide +kernel
theorem dX12_tree_11 : decode cX12_tree 11 = .ok (.newarray .int, 2) := by decide +kernel
theorem dX12_tree_13 : decode cX12_tree 13 = .ok (.astore_n 2, 1) := by decide +kernel
theorem dX12_tree_14 : decode cX12_tree 14 = .ok (.iconst 0, 1) := by decide +kernel
theorem dX12_tree_15 : decode cX12_tree 15 = .ok (.istore_n 3, 1) := by decide +kernel
theorem dX12_tree_16 : decode cX12_tree 16 = .ok (.iload_n 3, 1) := by decide +kernel
theorem dX12_tree_17 : decode cX12_tree 17 = .ok (.bipush 12, 2) := by decide +kernel
theorem dX12_tree_19 : decode cX12_tree 19 = .ok (.if_icmp .ge 13, 3) := by decide +kernel
theorem dX12_tree_22 : decode cX12_tree 22 = .ok (.aload_n 2, 1) := by decide +kernel
theorem dX12_tree_23 : decode cX12_tree 23 = .ok (.iload_n 3, 1) := by decide +kernel
theorem dX12_tree_24 : decode cX12_tree 24 = .ok (.iload_n 3, 1) := by decide +kernel
theorem dX12_tree_25 : decode cX12_tree 25 = .ok (.iastore, 1) := by decide +kernel
theorem dX12_tree_26 : decode cX12_tree 26 = .ok (.iinc 3 1, 3) := by decide +kernel
theorem dX12_tree_29 : decode cX12_tree 29 = .ok (.goto (-13), 3) := by decide +kernel
theorem dX12_tree_32 : decode cX12_tree 32 = .ok (.iconst 1, 1) := by decide +kernel
theorem dX12_tree_33 : decode cX12_tree 33 = .ok (.istore_n 3, 1) := by decide +kernel
theorem dX12_tree_34 : decode cX12_tree 34 = .ok (.iload_n 3, 1) := by decide +kernel
theorem dX12_tree_35 : decode cX12_tree 35 = .ok (.aload_n 0, 1) := by decide +kernel
theorem dX12_tree_36 : decode cX12_tree 36 = .ok (.invokevirtual 72, 3) := by decide +kernel
theorem dX12_tree_39 : decode cX12_tree 39 = .ok (.if_icmp .ge 180, 3) := by decide +kernel
theorem dX12_tree_219 : decode cX12_tree 219 = .ok (.aload_n 1, 1) := by decide +kernel
theorem dX12_tree_220 : decode cX12_tree 220 = .ok (.areturn, 1) := by decide +kernel
theorem dX12_isGraph_0 : decode cX12_isGraph 0 = .ok (.iload_n 0, 1) := by decide +kernel
theorem dX12_isGraph_1 : decode cX12_isGraph 1 = .ok (.bipush 103, 2) := by decide +kernel
theorem dX12_isGraph_3 : decode cX12_isGraph 3 = .ok (.if_icmp .eq 21, 3) := by decide +kernel
theorem dX12_isGraph_6 : decode cX12_isGraph 6 = .ok (.iload_n 0, 1) := by decide +kernel
theorem dX12_isGraph_7 : decode cX12_isGraph 7 = .ok (.bipush 114, 2) := by decide +kernel
theorem dX12_isGraph_9 : decode cX12_isGraph 9 = .ok (.if_icmp .eq 15, 3) := by decide +kernel
theorem dX12_isGraph_12 : decode cX12_isGraph 12 = .ok (.iload_n 0, 1) := by decide +kernel
theorem dX12_isGraph_13 : decode cX12_isGraph 13 = .ok (.bipush 110, 2) := by decide +kernel
theorem dX12_isGraph_15 : decode cX12_isGraph 15 = .ok (.if_icmp .eq 9, 3) := by decide +kernel
theorem dX12_isGraph_18 : decode cX12_isGraph 18 = .ok (.iload_n 0, 1) := by decide +kernel
theorem dX12_isGraph_19 : decode cX12_isGraph 19 = .ok (.bipush 116, 2) := by decide +kernel
theorem dX12_isGraph_21 : decode cX12_isGraph 21 = .ok (.if_icmp .ne 7, 3) := by decide +kernel
theorem dX12_isGraph_24 : decode cX12_isGraph 24 = .ok (.iconst 1, 1) := by decide +kernel
theorem dX12_isGraph_25 : decode cX12_isGraph 25 = .ok (.goto 4, 3) := by decide +kernel
theorem dX12_isGraph_28 : decode cX12_isGraph 28 = .ok (.iconst 0, 1) := by decide +kernel
theorem dX12_isGraph_29 : decode cX12_isGraph 29 = .ok (.ireturn, 1) := by decide +kernel
theorem dX12_isJoined_0 : decode cX12_isJoined 0 = .ok (.aload_n 0, 1) := by decide +kernel
theorem dX12_isJoined_1 : decode cX12_isJoined 1 = .ok (.iload_n 2, 1) := by decide +kernel
theorem dX12_isJoined_2 : decode cX12_isJoined 2 = .ok (.iload_n 3, 1) := by decide +kernel
theorem dX12_isJoined_3 : decode cX12_isJoined 3 = .ok (.invokevirtual 150, 3) := by decide +kernel
theorem dX12_isJoined_6 : decode cX12_isJoined 6 = .ok (.ifCond .eq 45, 3) := by decide +kernel
theorem dX12_isJoined_51 : decode cX12_isJoined 51 = .ok (.iconst 0, 1) := by decide +kernel
theorem dX12_isJoined_52 : decode cX12_isJoined 52 = .ok (.ireturn, 1) := by decide +kernel
theorem dX12_countJoined_0 : decode cX12_countJoined 0 = .ok (.aload_n 0, 1) := by decide +kernel
theorem dX12_countJoined_1 : decode cX12_countJoined 1 = .ok (.iload_n 1, 1) := by decide +kernel
theorem dX12_countJoined_2 : decode cX12_countJoined 2 = .ok (.invokestatic 172, 3) := by decide +kernel
theorem dX12_countJoined_5 : decode cX12_countJoined 5 = .ok (.ifCond .eq 7, 3) := by decide +kernel
theorem dX12_countJoined_8 : decode cX12_countJoined 8 = .ok (.iconst 0, 1) := by decide +kernel
theorem dX12_countJoined_9 : decode cX12_countJoined 9 = .ok (.goto 4, 3) := by decide +kernel
theorem dX12_countJoined_12 : decode cX12_countJoined 12 = .ok (.iconst 1, 1) := by decide +kernel
theorem dX12_countJoined_13 : decode cX12_countJoined 13 = .ok (.invokevirtual 39, 3) := by decide +kernel
theorem dX12_countJoined_16 : decode cX12_countJoined 16 = .ok (.ifCond .eq 5, 3) := by decide +kernel
theorem dX12_countJoined_19 : decode cX12_countJoined 19 = .ok (.iconst 0, 1) := by decide +kernel
theorem dX12_countJoined_20 : decode cX12_countJoined 20 = .ok (.ireturn, 1) := by decide +kernel
theorem dX12_countJoined_21 : decode cX12_countJoined 21 = .ok (.aload_n 0, 1) := by decide +kernel
theorem dX12_countJoined_22 : decode cX12_countJoined 22 = .ok (.invokevirtual 175, 3) := by decide +kernel
theorem dX12_countJoined_25 : decode cX12_countJoined 25 = .ok (.astore_n 2, 1) := by decide +kernel
theorem dX12_countJoined_26 : decode cX12_countJoined 26 = .ok (.iconst 0, 1) := by decide +kernel
theorem dX12_countJoined_27 : decode cX12_countJoined 27 = .ok (.istore_n 3, 1) := by decide +kernel
theorem dX12_countJoined_28 : decode cX12_countJoined 28 = .ok (.iconst 0, 1) := by decide +kernel
theorem dX12_countJoined_29 : decode cX12_countJoined 29 = .ok (.istore 4, 2) := by decide +kernel
theorem dX12_countJoined_31 : decode cX12_countJoined 31 = .ok (.iload 4, 2) := by decide +kernel
theorem dX12_countJoined_33 : decode cX12_countJoined 33 = .ok (.bipush 12, 2) := by decide +kernel
theorem dX12_countJoined_35 : decode cX12_countJoined 35 = .ok (.if_icmp .ge 67, 3) := by decide +kernel
theorem dX12_countJoined_38 : decode cX12_countJoined 38 = .ok (.iload 4, 2) := by decide +kernel
theorem dX12_countJoined_40 : decode cX12_countJoined 40 = .ok (.iconst 1, 1) := by decide +kernel
theorem dX12_countJoined_41 : decode cX12_countJoined 41 = .ok (.iadd, 1) := by decide +kernel
theorem dX12_countJoined_42 : decode cX12_countJoined 42 = .ok (.istore 5, 2) := by decide +kernel
theorem dX12_countJoined_44 : decode cX12_countJoined 44 = .ok (.iload 5, 2) := by decide +kernel
theorem dX12_countJoined_46 : decode cX12_countJoined 46 = .ok (.bipush 12, 2) := by decide +kernel
theorem dX12_countJoined_48 : decode cX12_countJoined 48 = .ok (.if_icmp .ge 48, 3) := by decide +kernel
theorem dX12_countJoined_51 : decode cX12_countJoined 51 = .ok (.iload_n 3, 1) := by decide +kernel
theorem dX12_countJoined_52 : decode cX12_countJoined 52 = .ok (.aload_n 0, 1) := by decide +kernel
theorem dX12_countJoined_53 : decode cX12_countJoined 53 = .ok (.iload 4, 2) := by decide +kernel
theorem dX12_countJoined_55 : decode cX12_countJoined 55 = .ok (.invokevirtual 35, 3) := by decide +kernel
theorem dX12_countJoined_58 : decode cX12_countJoined 58 = .ok (.ifCond .eq 29, 3) := by decide +kernel
theorem dX12_countJoined_87 : decode cX12_countJoined 87 = .ok (.iconst 0, 1) := by decide +kernel
theorem dX12_countJoined_88 : decode cX12_countJoined 88 = .ok (.iadd, 1) := by decide +kernel
theorem dX12_countJoined_89 : decode cX12_countJoined 89 = .ok (.istore_n 3, 1) := by decide +kernel
theorem dX12_countJoined_90 : decode cX12_countJoined 90 = .ok (.iinc 5 1, 3) := by decide +kernel
theorem dX12_countJoined_93 : decode cX12_countJoined 93 = .ok (.goto (-49), 3) := by decide +kernel
theorem dX12_countJoined_96 : decode cX12_countJoined 96 = .ok (.iinc 4 1, 3) := by decide +kernel
theorem dX12_countJoined_99 : decode cX12_countJoined 99 = .ok (.goto (-68), 3) := by decide +kernel
theorem dX12_countJoined_102 : decode cX12_countJoined 102 = .ok (.iload_n 3, 1) := by decide +kernel
theorem dX12_countJoined_103 : decode cX12_countJoined 103 = .ok (.ireturn, 1) := by decide +kernel
theorem dX12_treeSum_0 : decode cX12_treeSum 0 = .ok (.aload_n 0, 1) := by decide +kernel
theorem dX12_treeSum_1 : decode cX12_treeSum 1 = .ok (.iconst 0, 1) := by decide +kernel
theorem dX12_treeSum_2 : decode cX12_treeSum 2 = .ok (.putfield 25, 3) := by decide +kernel
theorem dX12_treeSum_5 : decode cX12_treeSum 5 = .ok (.aload_n 0, 1) := by decide +kernel
theorem dX12_treeSum_6 : decode cX12_treeSum 6 = .ok (.invokevirtual 175, 3) := by decide +kernel
theorem dX12_treeSum_9 : decode cX12_treeSum 9 = .ok (.astore_n 1, 1) := by decide +kernel
theorem dX12_treeSum_10 : decode cX12_treeSum 10 = .ok (.lconst 0, 1) := by decide +kernel
theorem dX12_treeSum_11 : decode cX12_treeSum 11 = .ok (.lstore_n 2, 1) := by decide +kernel
theorem dX12_treeSum_12 : decode cX12_treeSum 12 = .ok (.iconst 0, 1) := by decide +kernel
theorem dX12_treeSum_13 : decode cX12_treeSum 13 = .ok (.istore 4, 2) := by decide +kernel
theorem dX12_treeSum_15 : decode cX12_treeSum 15 = .ok (.iload 4, 2) := by decide +kernel
theorem dX12_treeSum_17 : decode cX12_treeSum 17 = .ok (.bipush 12, 2) := by decide +kernel
theorem dX12_treeSum_19 : decode cX12_treeSum 19 = .ok (.if_icmp .ge 53, 3) := by decide +kernel
theorem dX12_treeSum_22 : decode cX12_treeSum 22 = .ok (.iload 4, 2) := by decide +kernel
theorem dX12_treeSum_24 : decode cX12_treeSum 24 = .ok (.iconst 1, 1) := by decide +kernel
theorem dX12_treeSum_25 : decode cX12_treeSum 25 = .ok (.iadd, 1) := by decide +kernel
theorem dX12_treeSum_26 : decode cX12_treeSum 26 = .ok (.istore 5, 2) := by decide +kernel
theorem dX12_treeSum_28 : decode cX12_treeSum 28 = .ok (.iload 5, 2) := by decide +kernel
theorem dX12_treeSum_30 : decode cX12_treeSum 30 = .ok (.bipush 12, 2) := by decide +kernel
theorem dX12_treeSum_32 : decode cX12_treeSum 32 = .ok (.if_icmp .ge 34, 3) := by decide +kernel
theorem dX12_treeSum_35 : decode cX12_treeSum 35 = .ok (.lload_n 2, 1) := by decide +kernel
theorem dX12_treeSum_36 : decode cX12_treeSum 36 = .ok (.aload_n 1, 1) := by decide +kernel
theorem dX12_treeSum_37 : decode cX12_treeSum 37 = .ok (.iload 4, 2) := by decide +kernel
theorem dX12_treeSum_39 : decode cX12_treeSum 39 = .ok (.aaload, 1) := by decide +kernel
theorem dX12_treeSum_40 : decode cX12_treeSum 40 = .ok (.iload 5, 2) := by decide +kernel
theorem dX12_treeSum_42 : decode cX12_treeSum 42 = .ok (.baload, 1) := by decide +kernel
theorem dX12_treeSum_43 : decode cX12_treeSum 43 = .ok (.ifCond .eq 14, 3) := by decide +kernel
theorem dX12_treeSum_57 : decode cX12_treeSum 57 = .ok (.lconst 0, 1) := by decide +kernel
theorem dX12_treeSum_58 : decode cX12_treeSum 58 = .ok (.ladd, 1) := by decide +kernel
theorem dX12_treeSum_59 : decode cX12_treeSum 59 = .ok (.lstore_n 2, 1) := by decide +kernel
theorem dX12_treeSum_60 : decode cX12_treeSum 60 = .ok (.iinc 5 1, 3) := by decide +kernel
theorem dX12_treeSum_63 : decode cX12_treeSum 63 = .ok (.goto (-35), 3) := by decide +kernel
theorem dX12_treeSum_66 : decode cX12_treeSum 66 = .ok (.iinc 4 1, 3) := by decide +kernel
theorem dX12_treeSum_69 : decode cX12_treeSum 69 = .ok (.goto (-54), 3) := by decide +kernel
theorem dX12_treeSum_72 : decode cX12_treeSum 72 = .ok (.lload_n 2, 1) := by decide +kernel
theorem dX12_treeSum_73 : decode cX12_treeSum 73 = .ok (.l2i, 1) := by decide +kernel
theorem dX12_treeSum_74 : decode cX12_treeSum 74 = .ok (.ireturn, 1) := by decide +kernel
theorem dX12_edges_0 : decode cX12_edges 0 = .ok (.bipush 12, 2) := by decide +kernel
theorem dX12_edges_2 : decode cX12_edges 2 = .ok (.bipush 12, 2) := by decide +kernel
theorem dX12_edges_4 : decode cX12_edges 4 = .ok (.multianewarray 164 2, 4) := by decide +kernel
theorem dX12_edges_8 : decode cX12_edges 8 = .ok (.astore_n 1, 1) := by decide +kernel
theorem dX12_edges_9 : decode cX12_edges 9 = .ok (.iconst 0, 1) := by decide +kernel
theorem dX12_edges_10 : decode cX12_edges 10 = .ok (.istore_n 2, 1) := by decide +kernel
theorem dX12_edges_11 : decode cX12_edges 11 = .ok (.iload_n 2, 1) := by decide +kernel
theorem dX12_edges_12 : decode cX12_edges 12 = .ok (.bipush 12, 2) := by decide +kernel
theorem dX12_edges_14 : decode cX12_edges 14 = .ok (.if_icmp .ge 47, 3) := by decide +kernel
theorem dX12_edges_17 : decode cX12_edges 17 = .ok (.iconst 0, 1) := by decide +kernel
theorem dX12_edges_18 : decode cX12_edges 18 = .ok (.istore_n 3, 1) := by decide +kernel
theorem dX12_edges_19 : decode cX12_edges 19 = .ok (.iload_n 3, 1) := by decide +kernel
theorem dX12_edges_20 : decode cX12_edges 20 = .ok (.bipush 12, 2) := by decide +kernel
theorem dX12_edges_22 : decode cX12_edges 22 = .ok (.if_icmp .ge 33, 3) := by decide +kernel
theorem dX12_edges_25 : decode cX12_edges 25 = .ok (.aload_n 1, 1) := by decide +kernel
theorem dX12_edges_26 : decode cX12_edges 26 = .ok (.iload_n 2, 1) := by decide +kernel
theorem dX12_edges_27 : decode cX12_edges 27 = .ok (.aaload, 1) := by decide +kernel
theorem dX12_edges_28 : decode cX12_edges 28 = .ok (.iload_n 3, 1) := by decide +kernel
theorem dX12_edges_29 : decode cX12_edges 29 = .ok (.iload_n 2, 1) := by decide +kernel
theorem dX12_edges_30 : decode cX12_edges 30 = .ok (.iload_n 3, 1) := by decide +kernel
theorem dX12_edges_31 : decode cX12_edges 31 = .ok (.if_icmp .eq 16, 3) := by decide +kernel
theorem dX12_edges_34 : decode cX12_edges 34 = .ok (.aload_n 0, 1) := by decide +kernel
theorem dX12_edges_35 : decode cX12_edges 35 = .ok (.iload_n 2, 1) := by decide +kernel
theorem dX12_edges_36 : decode cX12_edges 36 = .ok (.iload_n 3, 1) := by decide +kernel
theorem dX12_edges_37 : decode cX12_edges 37 = .ok (.invokevirtual 154, 3) := by decide +kernel
theorem dX12_edges_40 : decode cX12_edges 40 = .ok (.ifCond .eq 7, 3) := by decide +kernel
theorem dX12_edges_47 : decode cX12_edges 47 = .ok (.iconst 0, 1) := by decide +kernel
theorem dX12_edges_48 : decode cX12_edges 48 = .ok (.bastore, 1) := by decide +kernel
theorem dX12_edges_49 : decode cX12_edges 49 = .ok (.iinc 3 1, 3) := by decide +kernel
theorem dX12_edges_52 : decode cX12_edges 52 = .ok (.goto (-33), 3) := by decide +kernel
theorem dX12_edges_55 : decode cX12_edges 55 = .ok (.iinc 2 1, 3) := by decide +kernel
theorem dX12_edges_58 : decode cX12_edges 58 = .ok (.goto (-47), 3) := by decide +kernel
theorem dX12_edges_61 : decode cX12_edges 61 = .ok (.aload_n 1, 1) := by decide +kernel
theorem dX12_edges_62 : decode cX12_edges 62 = .ok (.areturn, 1) := by decide +kernel
theorem dX12_steps_0 : decode cX12_steps 0 = .ok (.aload_n 0, 1) := by decide +kernel
theorem dX12_steps_1 : decode cX12_steps 1 = .ok (.iload_n 1, 1) := by decide +kernel
theorem dX12_steps_2 : decode cX12_steps 2 = .ok (.iload_n 2, 1) := by decide +kernel
theorem dX12_steps_3 : decode cX12_steps 3 = .ok (.invokevirtual 150, 3) := by decide +kernel
theorem dX12_steps_6 : decode cX12_steps 6 = .ok (.ifCond .ne 5, 3) := by decide +kernel
theorem dX12_steps_9 : decode cX12_steps 9 = .ok (.iconst 0, 1) := by decide +kernel
theorem dX12_steps_10 : decode cX12_steps 10 = .ok (.ireturn, 1) := by decide +kernel

theorem dX11_farthest_21 : decode cX11_farthest 21 = .ok (.iload_n 2, 1) := by decide +kernel
theorem dX11_farthest_22 : decode cX11_farthest 22 = .ok (.iload_n 3, 1) := by decide +kernel
theorem dX11_farthest_23 : decode cX11_farthest 23 = .ok (.invokevirtual 164, 3) := by decide +kernel
theorem dX11_farthest_26 : decode cX11_farthest 26 = .ok (.ireturn, 1) := by decide +kernel
theorem dX11_nearestAt_0 : decode cX11_nearestAt 0 = .ok (.iload_n 1, 1) := by decide +kernel
theorem dX11_nearestAt_1 : decode cX11_nearestAt 1 = .ok (.invokestatic 149, 3) := by decide +kernel
theorem dX11_nearestAt_4 : decode cX11_nearestAt 4 = .ok (.iload_n 2, 1) := by decide +kernel
theorem dX11_nearestAt_5 : decode cX11_nearestAt 5 = .ok (.iload_n 3, 1) := by decide +kernel
theorem dX11_nearestAt_6 : decode cX11_nearestAt 6 = .ok (.sipush 999, 3) := by decide +kernel
theorem dX11_nearestAt_9 : decode cX11_nearestAt 9 = .ok (.invokestatic 79, 3) := by decide +kernel
theorem dX11_nearestAt_12 : decode cX11_nearestAt 12 = .ok (.iconst 0, 1) := by decide +kernel
theorem dX11_nearestAt_13 : decode cX11_nearestAt 13 = .ok (.istore 5, 2) := by decide +kernel
theorem dX11_nearestAt_15 : decode cX11_nearestAt 15 = .ok (.iload 5, 2) := by decide +kernel
theorem dX11_nearestAt_17 : decode cX11_nearestAt 17 = .ok (.bipush 12, 2) := by decide +kernel
theorem dX11_nearestAt_19 : decode cX11_nearestAt 19 = .ok (.if_icmp .ge 41, 3) := by decide +kernel
theorem dX11_nearestAt_22 : decode cX11_nearestAt 22 = .ok (.aload_n 0, 1) := by decide +kernel
theorem dX11_nearestAt_23 : decode cX11_nearestAt 23 = .ok (.getfield 12, 3) := by decide +kernel
theorem dX11_nearestAt_26 : decode cX11_nearestAt 26 = .ok (.iload 5, 2) := by decide +kernel
theorem dX11_nearestAt_28 : decode cX11_nearestAt 28 = .ok (.invokevirtual 160, 3) := by decide +kernel
theorem dX11_nearestAt_31 : decode cX11_nearestAt 31 = .ok (.ifCond .eq 23, 3) := by decide +kernel
theorem dX11_nearestAt_34 : decode cX11_nearestAt 34 = .ok (.aload_n 0, 1) := by decide +kernel
theorem dX11_nearestAt_35 : decode cX11_nearestAt 35 = .ok (.getfield 12, 3) := by decide +kernel
theorem dX11_nearestAt_38 : decode cX11_nearestAt 38 = .ok (.iload_n 1, 1) := by decide +kernel
theorem dX11_nearestAt_39 : decode cX11_nearestAt 39 = .ok (.iload 5, 2) := by decide +kernel
theorem dX11_nearestAt_41 : decode cX11_nearestAt 41 = .ok (.iload_n 2, 1) := by decide +kernel
theorem dX11_nearestAt_42 : decode cX11_nearestAt 42 = .ok (.iload_n 3, 1) := by decide +kernel
theorem dX11_nearestAt_43 : decode cX11_nearestAt 43 = .ok (.invokevirtual 167, 3) := by decide +kernel
theorem dX11_nearestAt_46 : decode cX11_nearestAt 46 = .ok (.iload 4, 2) := by decide +kernel
theorem dX11_nearestAt_48 : decode cX11_nearestAt 48 = .ok (.if_icmp .ne 6, 3) := by decide +kernel
theorem dX11_nearestAt_51 : decode cX11_nearestAt 51 = .ok (.iload 5, 2) := by decide +kernel
theorem dX11_nearestAt_53 : decode cX11_nearestAt 53 = .ok (.ireturn, 1) := by decide +kernel
theorem dX11_nearestAt_54 : decode cX11_nearestAt 54 = .ok (.iinc 5 1, 3) := by decide +kernel
theorem dX11_nearestAt_57 : decode cX11_nearestAt 57 = .ok (.goto (-42), 3) := by decide +kernel
theorem dX11_nearestAt_60 : decode cX11_nearestAt 60 = .ok (.new 136, 3) := by decide +kernel
theorem dX11_nearestAt_63 : decode cX11_nearestAt 63 = .ok (.dup, 1) := by decide +kernel
theorem dX11_nearestAt_64 : decode cX11_nearestAt 64 = .ok (.ldc 170, 2) := by decide +kernel
theorem dX11_nearestAt_66 : decode cX11_nearestAt 66 = .ok (.invokespecial 140, 3) := by decide +kernel
theorem dX11_nearestAt_69 : decode cX11_nearestAt 69 = .ok (.athrow, 1) := by decide +kernel
theorem dX11_within_0 : decode cX11_within 0 = .ok (.iload_n 1, 1) := by decide +kernel
theorem dX11_within_1 : decode cX11_within 1 = .ok (.iload_n 2, 1) := by decide +kernel
theorem dX11_within_2 : decode cX11_within 2 = .ok (.sipush 999, 3) := by decide +kernel
theorem dX11_within_5 : decode cX11_within 5 = .ok (.invokestatic 79, 3) := by decide +kernel
theorem dX11_within_8 : decode cX11_within 8 = .ok (.iload_n 3, 1) := by decide +kernel
theorem dX11_within_9 : decode cX11_within 9 = .ok (.iconst 0, 1) := by decide +kernel
theorem dX11_within_10 : decode cX11_within 10 = .ok (.ldc 172, 2) := by decide +kernel
theorem dX11_within_12 : decode cX11_within 12 = .ok (.invokestatic 129, 3) := by decide +kernel
theorem dX11_within_15 : decode cX11_within 15 = .ok (.iconst 0, 1) := by decide +kernel
theorem dX11_within_16 : decode cX11_within 16 = .ok (.istore 4, 2) := by decide +kernel
theorem dX11_within_18 : decode cX11_within 18 = .ok (.iconst 0, 1) := by decide +kernel
theorem dX11_within_19 : decode cX11_within 19 = .ok (.istore 5, 2) := by decide +kernel
theorem dX11_within_21 : decode cX11_within 21 = .ok (.iload 5, 2) := by decide +kernel
theorem dX11_within_23 : decode cX11_within 23 = .ok (.bipush 12, 2) := by decide +kernel
theorem dX11_within_25 : decode cX11_within 25 = .ok (.if_icmp .ge 41, 3) := by decide +kernel
theorem dX11_within_28 : decode cX11_within 28 = .ok (.aload_n 0, 1) := by decide +kernel
theorem dX11_within_29 : decode cX11_within 29 = .ok (.getfield 12, 3) := by decide +kernel
theorem dX11_within_32 : decode cX11_within 32 = .ok (.iload 5, 2) := by decide +kernel
theorem dX11_within_34 : decode cX11_within 34 = .ok (.invokevirtual 160, 3) := by decide +kernel
theorem dX11_within_37 : decode cX11_within 37 = .ok (.ifCond .eq 23, 3) := by decide +kernel
theorem dX11_within_40 : decode cX11_within 40 = .ok (.aload_n 0, 1) := by decide +kernel
theorem dX11_within_41 : decode cX11_within 41 = .ok (.getfield 12, 3) := by decide +kernel
theorem dX11_within_44 : decode cX11_within 44 = .ok (.bipush 101, 2) := by decide +kernel
theorem dX11_within_46 : decode cX11_within 46 = .ok (.iload 5, 2) := by decide +kernel
theorem dX11_within_48 : decode cX11_within 48 = .ok (.iload_n 1, 1) := by decide +kernel
theorem dX11_within_49 : decode cX11_within 49 = .ok (.iload_n 2, 1) := by decide +kernel
theorem dX11_within_50 : decode cX11_within 50 = .ok (.invokevirtual 122, 3) := by decide +kernel
theorem dX11_within_53 : decode cX11_within 53 = .ok (.iload_n 3, 1) := by decide +kernel
theorem dX11_within_54 : decode cX11_within 54 = .ok (.if_icmp .gt 6, 3) := by decide +kernel
theorem dX11_within_57 : decode cX11_within 57 = .ok (.iinc 4 1, 3) := by decide +kernel
theorem dX11_within_60 : decode cX11_within 60 = .ok (.iinc 5 1, 3) := by decide +kernel
theorem dX11_within_63 : decode cX11_within 63 = .ok (.goto (-42), 3) := by decide +kernel
theorem dX11_within_66 : decode cX11_within 66 = .ok (.iload 4, 2) := by decide +kernel
theorem dX11_within_68 : decode cX11_within 68 = .ok (.ireturn, 1) := by decide +kernel
theorem dX11_cell_0 : decode cX11_cell 0 = .ok (.aload_n 0, 1) := by decide +kernel
theorem dX11_cell_1 : decode cX11_cell 1 = .ok (.iload_n 2, 1) := by decide +kernel
theorem dX11_cell_2 : decode cX11_cell 2 = .ok (.invokevirtual 110, 3) := by decide +kernel
theorem dX11_cell_5 : decode cX11_cell 5 = .ok (.iload_n 1, 1) := by decide +kernel
theorem dX11_cell_6 : decode cX11_cell 6 = .ok (.invokestatic 149, 3) := by decide +kernel
theorem dX11_cell_9 : decode cX11_cell 9 = .ok (.iconst 0, 1) := by decide +kernel
theorem dX11_cell_10 : decode cX11_cell 10 = .ok (.istore_n 3, 1) := by decide +kernel
theorem dX11_cell_11 : decode cX11_cell 11 = .ok (.bipush (-20), 2) := by decide +kernel
theorem dX11_cell_13 : decode cX11_cell 13 = .ok (.istore 4, 2) := by decide +kernel
theorem dX11_cell_15 : decode cX11_cell 15 = .ok (.iload 4, 2) := by decide +kernel
theorem dX11_cell_17 : decode cX11_cell 17 = .ok (.bipush 20, 2) := by decide +kernel
theorem dX11_cell_19 : decode cX11_cell 19 = .ok (.if_icmp .gt 45, 3) := by decide +kernel
theorem dX11_cell_22 : decode cX11_cell 22 = .ok (.bipush (-20), 2) := by decide +kernel
theorem dX11_cell_24 : decode cX11_cell 24 = .ok (.istore 5, 2) := by decide +kernel
theorem dX11_cell_26 : decode cX11_cell 26 = .ok (.iload 5, 2) := by decide +kernel
theorem dX11_cell_28 : decode cX11_cell 28 = .ok (.bipush 20, 2) := by decide +kernel
theorem dX11_cell_30 : decode cX11_cell 30 = .ok (.if_icmp .gt 28, 3) := by decide +kernel
theorem dX11_cell_33 : decode cX11_cell 33 = .ok (.aload_n 0, 1) := by decide +kernel
theorem dX11_cell_34 : decode cX11_cell 34 = .ok (.getfield 12, 3) := by decide +kernel
theorem dX11_cell_37 : decode cX11_cell 37 = .ok (.iload_n 1, 1) := by decide +kernel
theorem dX11_cell_38 : decode cX11_cell 38 = .ok (.iload_n 2, 1) := by decide +kernel
theorem dX11_cell_39 : decode cX11_cell 39 = .ok (.iload 4, 2) := by decide +kernel
theorem dX11_cell_41 : decode cX11_cell 41 = .ok (.iload 5, 2) := by decide +kernel
theorem dX11_cell_43 : decode cX11_cell 43 = .ok (.invokevirtual 173, 3) := by decide +kernel
theorem dX11_cell_46 : decode cX11_cell 46 = .ok (.ifCond .eq 6, 3) := by decide +kernel
theorem dX11_cell_49 : decode cX11_cell 49 = .ok (.iinc 3 1, 3) := by decide +kernel
theorem dX11_cell_52 : decode cX11_cell 52 = .ok (.iinc 5 1, 3) := by decide +kernel
theorem dX11_cell_55 : decode cX11_cell 55 = .ok (.goto (-29), 3) := by decide +kernel
theorem dX11_cell_58 : decode cX11_cell 58 = .ok (.iinc 4 1, 3) := by decide +kernel
theorem dX11_cell_61 : decode cX11_cell 61 = .ok (.goto (-46), 3) := by decide +kernel
theorem dX11_cell_64 : decode cX11_cell 64 = .ok (.iload_n 3, 1) := by decide +kernel
theorem dX11_cell_65 : decode cX11_cell 65 = .ok (.ireturn, 1) := by decide +kernel
theorem dX11_turn_0 : decode cX11_turn 0 = .ok (.aload_n 0, 1) := by decide +kernel
theorem dX11_turn_1 : decode cX11_turn 1 = .ok (.iload_n 1, 1) := by decide +kernel
theorem dX11_turn_2 : decode cX11_turn 2 = .ok (.invokevirtual 110, 3) := by decide +kernel
theorem dX11_turn_5 : decode cX11_turn 5 = .ok (.aload_n 0, 1) := by decide +kernel
theorem dX11_turn_6 : decode cX11_turn 6 = .ok (.iload_n 2, 1) := by decide +kernel
theorem dX11_turn_7 : decode cX11_turn 7 = .ok (.invokevirtual 110, 3) := by decide +kernel
theorem dX11_turn_10 : decode cX11_turn 10 = .ok (.aload_n 0, 1) := by decide +kernel
theorem dX11_turn_11 : decode cX11_turn 11 = .ok (.iload_n 3, 1) := by decide +kernel
theorem dX11_turn_12 : decode cX11_turn 12 = .ok (.invokevirtual 110, 3) := by decide +kernel
theorem dX11_turn_15 : decode cX11_turn 15 = .ok (.aload_n 0, 1) := by decide +kernel
theorem dX11_turn_16 : decode cX11_turn 16 = .ok (.getfield 12, 3) := by decide +kernel
theorem dX11_turn_19 : decode cX11_turn 19 = .ok (.iload_n 1, 1) := by decide +kernel
theorem dX11_turn_20 : decode cX11_turn 20 = .ok (.iload_n 2, 1) := by decide +kernel
theorem dX11_turn_21 : decode cX11_turn 21 = .ok (.iload_n 3, 1) := by decide +kernel
theorem dX11_turn_22 : decode cX11_turn 22 = .ok (.invokevirtual 177, 3) := by decide +kernel
theorem dX11_turn_25 : decode cX11_turn 25 = .ok (.ireturn, 1) := by decide +kernel
theorem dX11_inCircle_0 : decode cX11_inCircle 0 = .ok (.aload_n 0, 1) := by decide +kernel
theorem dX11_inCircle_1 : decode cX11_inCircle 1 = .ok (.iload_n 1, 1) := by decide +kernel
theorem dX11_inCircle_2 : decode cX11_inCircle 2 = .ok (.invokevirtual 110, 3) := by decide +kernel
theorem dX11_inCircle_5 : decode cX11_inCircle 5 = .ok (.aload_n 0, 1) := by decide +kernel
theorem dX11_inCircle_6 : decode cX11_inCircle 6 = .ok (.iload_n 2, 1) := by decide +kernel
theorem dX11_inCircle_7 : decode cX11_inCircle 7 = .ok (.invokevirtual 110, 3) := by decide +kernel
theorem dX11_inCircle_10 : decode cX11_inCircle 10 = .ok (.aload_n 0, 1) := by decide +kernel
theorem dX11_inCircle_11 : decode cX11_inCircle 11 = .ok (.iload_n 3, 1) := by decide +kernel
theorem dX11_inCircle_12 : decode cX11_inCircle 12 = .ok (.invokevirtual 110, 3) := by decide +kernel
theorem dX11_inCircle_15 : decode cX11_inCircle 15 = .ok (.aload_n 0, 1) := by decide +kernel
theorem dX11_inCircle_16 : decode cX11_inCircle 16 = .ok (.iload 4, 2) := by decide +kernel
theorem dX11_inCircle_18 : decode cX11_inCircle 18 = .ok (.invokevirtual 110, 3) := by decide +kernel
theorem dX11_inCircle_21 : decode cX11_inCircle 21 = .ok (.aload_n 0, 1) := by decide +kernel
theorem dX11_inCircle_22 : decode cX11_inCircle 22 = .ok (.getfield 12, 3) := by decide +kernel
theorem dX11_inCircle_25 : decode cX11_inCircle 25 = .ok (.iload_n 1, 1) := by decide +kernel
theorem dX11_inCircle_26 : decode cX11_inCircle 26 = .ok (.iload_n 2, 1) := by decide +kernel
theorem dX11_inCircle_27 : decode cX11_inCircle 27 = .ok (.iload_n 3, 1) := by decide +kernel
theorem dX11_inCircle_28 : decode cX11_inCircle 28 = .ok (.invokevirtual 177, 3) := by decide +kernel
theorem dX11_inCircle_31 : decode cX11_inCircle 31 = .ok (.ifCond .ne 13, 3) := by decide +kernel
theorem dX11_inCircle_34 : decode cX11_inCircle 34 = .ok (.new 87, 3) := by decide +kernel
theorem dX11_inCircle_37 : decode cX11_inCircle 37 = .ok (.dup, 1) := by decide +kernel
theorem dX11_inCircle_38 : decode cX11_inCircle 38 = .ok (.ldc 181, 2) := by decide +kernel
theorem dX11_inCircle_40 : decode cX11_inCircle 40 = .ok (.invokespecial 91, 3) := by decide +kernel
theorem dX11_inCircle_43 : decode cX11_inCircle 43 = .ok (.athrow, 1) := by decide +kernel
theorem dX11_inCircle_44 : decode cX11_inCircle 44 = .ok (.aload_n 0, 1) := by decide +kernel
theorem dX11_inCircle_45 : decode cX11_inCircle 45 = .ok (.getfield 12, 3) := by decide +kernel
theorem dX11_inCircle_48 : decode cX11_inCircle 48 = .ok (.iload_n 1, 1) := by decide +kernel
theorem dX11_inCircle_49 : decode cX11_inCircle 49 = .ok (.iload_n 2, 1) := by decide +kernel
theorem dX11_inCircle_50 : decode cX11_inCircle 50 = .ok (.iload_n 3, 1) := by decide +kernel
theorem dX11_inCircle_51 : decode cX11_inCircle 51 = .ok (.iload 4, 2) := by decide +kernel
theorem dX11_inCircle_53 : decode cX11_inCircle 53 = .ok (.invokevirtual 183, 3) := by decide +kernel
theorem dX11_inCircle_56 : decode cX11_inCircle 56 = .ok (.ireturn, 1) := by decide +kernel
theorem dX11_countTriangles_0 : decode cX11_countTriangles 0 = .ok (.aload_n 0, 1) := by decide +kernel
theorem dX11_countTriangles_1 : decode cX11_countTriangles 1 = .ok (.getfield 26, 3) := by decide +kernel
theorem dX11_countTriangles_4 : decode cX11_countTriangles 4 = .ok (.aload_n 0, 1) := by decide +kernel
theorem dX11_countTriangles_5 : decode cX11_countTriangles 5 = .ok (.getfield 12, 3) := by decide +kernel
theorem dX11_countTriangles_8 : decode cX11_countTriangles 8 = .ok (.invokevirtual 187, 3) := by decide +kernel
theorem dX11_countTriangles_11 : decode cX11_countTriangles 11 = .ok (.aload_n 0, 1) := by decide +kernel
theorem dX11_countTriangles_12 : decode cX11_countTriangles 12 = .ok (.getfield 26, 3) := by decide +kernel
theorem dX11_countTriangles_15 : decode cX11_countTriangles 15 = .ok (.getfield 190, 3) := by decide +kernel
theorem dX11_countTriangles_18 : decode cX11_countTriangles 18 = .ok (.ireturn, 1) := by decide +kernel
theorem dX11_isTriangle_0 : decode cX11_isTriangle 0 = .ok (.aload_n 0, 1) := by decide +kernel
theorem dX11_isTriangle_1 : decode cX11_isTriangle 1 = .ok (.iload_n 1, 1) := by decide +kernel
theorem dX11_isTriangle_2 : decode cX11_isTriangle 2 = .ok (.invokevirtual 110, 3) := by decide +kernel
theorem dX11_isTriangle_5 : decode cX11_isTriangle 5 = .ok (.aload_n 0, 1) := by decide +kernel
theorem dX11_isTriangle_6 : decode cX11_isTriangle 6 = .ok (.iload_n 2, 1) := by decide +kernel
theorem dX11_isTriangle_7 : decode cX11_isTriangle 7 = .ok (.invokevirtual 110, 3) := by decide +kernel
theorem dX11_isTriangle_10 : decode cX11_isTriangle 10 = .ok (.aload_n 0, 1) := by decide +kernel
theorem dX11_isTriangle_11 : decode cX11_isTriangle 11 = .ok (.iload_n 3, 1) := by decide +kernel
theorem dX11_isTriangle_12 : decode cX11_isTriangle 12 = .ok (.invokevirtual 110, 3) := by decide +kernel
theorem dX11_isTriangle_15 : decode cX11_isTriangle 15 = .ok (.aload_n 0, 1) := by decide +kernel
theorem dX11_isTriangle_16 : decode cX11_isTriangle 16 = .ok (.getfield 26, 3) := by decide +kernel
theorem dX11_isTriangle_19 : decode cX11_isTriangle 19 = .ok (.aload_n 0, 1) := by decide +kernel
theorem dX11_isTriangle_20 : decode cX11_isTriangle 20 = .ok (.getfield 12, 3) := by decide +kernel
theorem dX11_isTriangle_23 : decode cX11_isTriangle 23 = .ok (.invokevirtual 187, 3) := by decide +kernel
theorem dX11_isTriangle_26 : decode cX11_isTriangle 26 = .ok (.aload_n 0, 1) := by decide +kernel
theorem dX11_isTriangle_27 : decode cX11_isTriangle 27 = .ok (.getfield 26, 3) := by decide +kernel
theorem dX11_isTriangle_30 : decode cX11_isTriangle 30 = .ok (.iconst 1, 1) := by decide +kernel
theorem dX11_isTriangle_31 : decode cX11_isTriangle 31 = .ok (.iload_n 1, 1) := by decide +kernel
theorem dX11_isTriangle_32 : decode cX11_isTriangle 32 = .ok (.ishl, 1) := by decide +kernel
theorem dX11_isTriangle_33 : decode cX11_isTriangle 33 = .ok (.iconst 1, 1) := by decide +kernel
theorem dX11_isTriangle_34 : decode cX11_isTriangle 34 = .ok (.iload_n 2, 1) := by decide +kernel
theorem dX11_isTriangle_35 : decode cX11_isTriangle 35 = .ok (.ishl, 1) := by decide +kernel
theorem dX11_isTriangle_36 : decode cX11_isTriangle 36 = .ok (.ior, 1) := by decide +kernel
theorem dX11_isTriangle_37 : decode cX11_isTriangle 37 = .ok (.iconst 1, 1) := by decide +kernel
theorem dX11_isTriangle_38 : decode cX11_isTriangle 38 = .ok (.iload_n 3, 1) := by decide +kernel
theorem dX11_isTriangle_39 : decode cX11_isTriangle 39 = .ok (.ishl, 1) := by decide +kernel
theorem dX11_isTriangle_40 : decode cX11_isTriangle 40 = .ok (.ior, 1) := by decide +kernel
theorem dX11_isTriangle_41 : decode cX11_isTriangle 41 = .ok (.invokevirtual 191, 3) := by decide +kernel
theorem dX11_isTriangle_44 : decode cX11_isTriangle 44 = .ok (.ireturn, 1) := by decide +kernel
theorem dX11_areNeighbours_0 : decode cX11_areNeighbours 0 = .ok (.aload_n 0, 1) := by decide +kernel
theorem dX11_areNeighbours_1 : decode cX11_areNeighbours 1 = .ok (.iload_n 1, 1) := by decide +kernel
theorem dX11_areNeighbours_2 : decode cX11_areNeighbours 2 = .ok (.invokevirtual 110, 3) := by decide +kernel
theorem dX11_areNeighbours_5 : decode cX11_areNeighbours 5 = .ok (.aload_n 0, 1) := by decide +kernel
theorem dX11_areNeighbours_6 : decode cX11_areNeighbours 6 = .ok (.iload_n 2, 1) := by decide +kernel
theorem dX11_areNeighbours_7 : decode cX11_areNeighbours 7 = .ok (.invokevirtual 110, 3) := by decide +kernel
theorem dX11_areNeighbours_10 : decode cX11_areNeighbours 10 = .ok (.aload_n 0, 1) := by decide +kernel
theorem dX11_areNeighbours_11 : decode cX11_areNeighbours 11 = .ok (.getfield 26, 3) := by decide +kernel
theorem dX11_areNeighbours_14 : decode cX11_areNeighbours 14 = .ok (.aload_n 0, 1) := by decide +kernel
theorem dX11_areNeighbours_15 : decode cX11_areNeighbours 15 = .ok (.getfield 12, 3) := by decide +kernel
theorem dX11_areNeighbours_18 : decode cX11_areNeighbours 18 = .ok (.invokevirtual 187, 3) := by decide +kernel
theorem dX11_areNeighbours_21 : decode cX11_areNeighbours 21 = .ok (.aload_n 0, 1) := by decide +kernel
theorem dX11_areNeighbours_22 : decode cX11_areNeighbours 22 = .ok (.getfield 26, 3) := by decide +kernel
theorem dX11_areNeighbours_25 : decode cX11_areNeighbours 25 = .ok (.iload_n 1, 1) := by decide +kernel
theorem dX11_areNeighbours_26 : decode cX11_areNeighbours 26 = .ok (.iload_n 2, 1) := by decide +kernel
theorem dX11_areNeighbours_27 : decode cX11_areNeighbours 27 = .ok (.invokevirtual 194, 3) := by decide +kernel
theorem dX11_areNeighbours_30 : decode cX11_areNeighbours 30 = .ok (.ireturn, 1) := by decide +kernel
theorem dX11_countNeighbours_0 : decode cX11_countNeighbours 0 = .ok (.aload_n 0, 1) := by decide +kernel
theorem dX11_countNeighbours_1 : decode cX11_countNeighbours 1 = .ok (.iload_n 1, 1) := by decide +kernel
theorem dX11_countNeighbours_2 : decode cX11_countNeighbours 2 = .ok (.invokevirtual 110, 3) := by decide +kernel
theorem dX11_countNeighbours_5 : decode cX11_countNeighbours 5 = .ok (.aload_n 0, 1) := by decide +kernel
theorem dX11_countNeighbours_6 : decode cX11_countNeighbours 6 = .ok (.getfield 26, 3) := by decide +kernel
theorem dX11_countNeighbours_9 : decode cX11_countNeighbours 9 = .ok (.aload_n 0, 1) := by decide +kernel
theorem dX11_countNeighbours_10 : decode cX11_countNeighbours 10 = .ok (.getfield 12, 3) := by decide +kernel
theorem dX11_countNeighbours_13 : decode cX11_countNeighbours 13 = .ok (.invokevirtual 187, 3) := by decide +kernel
theorem dX11_countNeighbours_16 : decode cX11_countNeighbours 16 = .ok (.aload_n 0, 1) := by decide +kernel
theorem dX11_countNeighbours_17 : decode cX11_countNeighbours 17 = .ok (.getfield 26, 3) := by decide +kernel
theorem dX11_countNeighbours_20 : decode cX11_countNeighbours 20 = .ok (.getfield 198, 3) := by decide +kernel
theorem dX11_countNeighbours_23 : decode cX11_countNeighbours 23 = .ok (.iload_n 1, 1) := by decide +kernel
theorem dX11_countNeighbours_24 : decode cX11_countNeighbours 24 = .ok (.iaload, 1) := by decide +kernel
theorem dX11_countNeighbours_25 : decode cX11_countNeighbours 25 = .ok (.invokestatic 201, 3) := by decide +kernel
theorem dX11_countNeighbours_28 : decode cX11_countNeighbours 28 = .ok (.ireturn, 1) := by decide +kernel
theorem dX11_isJoined_0 : decode cX11_isJoined 0 = .ok (.aload_n 0, 1) := by decide +kernel
theorem dX11_isJoined_1 : decode cX11_isJoined 1 = .ok (.iload_n 2, 1) := by decide +kernel
theorem dX11_isJoined_2 : decode cX11_isJoined 2 = .ok (.invokevirtual 110, 3) := by decide +kernel
theorem dX11_isJoined_5 : decode cX11_isJoined 5 = .ok (.aload_n 0, 1) := by decide +kernel
theorem dX11_isJoined_6 : decode cX11_isJoined 6 = .ok (.iload_n 3, 1) := by decide +kernel
theorem dX11_isJoined_7 : decode cX11_isJoined 7 = .ok (.invokevirtual 110, 3) := by decide +kernel
theorem dX11_isJoined_10 : decode cX11_isJoined 10 = .ok (.iload_n 1, 1) := by decide +kernel
theorem dX11_isJoined_11 : decode cX11_isJoined 11 = .ok (.invokestatic 207, 3) := by decide +kernel
theorem dX11_isJoined_14 : decode cX11_isJoined 14 = .ok (.iload_n 2, 1) := by decide +kernel
theorem dX11_isJoined_15 : decode cX11_isJoined 15 = .ok (.iload_n 3, 1) := by decide +kernel
theorem dX11_isJoined_16 : decode cX11_isJoined 16 = .ok (.if_icmp .ne 13, 3) := by decide +kernel
theorem dX11_isJoined_19 : decode cX11_isJoined 19 = .ok (.new 210, 3) := by decide +kernel
theorem dX11_isJoined_22 : decode cX11_isJoined 22 = .ok (.dup, 1) := by decide +kernel
theorem dX11_isJoined_23 : decode cX11_isJoined 23 = .ok (.ldc 212, 2) := by decide +kernel
theorem dX11_isJoined_25 : decode cX11_isJoined 25 = .ok (.invokespecial 214, 3) := by decide +kernel
theorem dX11_isJoined_28 : decode cX11_isJoined 28 = .ok (.athrow, 1) := by decide +kernel
theorem dX11_isJoined_29 : decode cX11_isJoined 29 = .ok (.aload_n 0, 1) := by decide +kernel
theorem dX11_isJoined_30 : decode cX11_isJoined 30 = .ok (.getfield 33, 3) := by decide +kernel
theorem dX11_isJoined_33 : decode cX11_isJoined 33 = .ok (.aload_n 0, 1) := by decide +kernel
theorem dX11_isJoined_34 : decode cX11_isJoined 34 = .ok (.getfield 12, 3) := by decide +kernel
theorem dX11_isJoined_37 : decode cX11_isJoined 37 = .ok (.invokevirtual 215, 3) := by decide +kernel
theorem dX11_isJoined_40 : decode cX11_isJoined 40 = .ok (.aload_n 0, 1) := by decide +kernel
theorem dX11_isJoined_41 : decode cX11_isJoined 41 = .ok (.getfield 33, 3) := by decide +kernel
theorem dX11_isJoined_44 : decode cX11_isJoined 44 = .ok (.aload_n 0, 1) := by decide +kernel
theorem dX11_isJoined_45 : decode cX11_isJoined 45 = .ok (.getfield 12, 3) := by decide +kernel
theorem dX11_isJoined_48 : decode cX11_isJoined 48 = .ok (.iload_n 1, 1) := by decide +kernel
theorem dX11_isJoined_49 : decode cX11_isJoined 49 = .ok (.iload_n 2, 1) := by decide +kernel
theorem dX11_isJoined_50 : decode cX11_isJoined 50 = .ok (.iload_n 3, 1) := by decide +kernel
theorem dX11_isJoined_51 : decode cX11_isJoined 51 = .ok (.invokevirtual 218, 3) := by decide +kernel
theorem dX11_isJoined_54 : decode cX11_isJoined 54 = .ok (.ireturn, 1) := by decide +kernel
theorem dX11_countJoined_0 : decode cX11_countJoined 0 = .ok (.iload_n 1, 1) := by decide +kernel
theorem dX11_countJoined_1 : decode cX11_countJoined 1 = .ok (.invokestatic 207, 3) := by decide +kernel
theorem dX11_countJoined_4 : decode cX11_countJoined 4 = .ok (.aload_n 0, 1) := by decide +kernel
theorem dX11_countJoined_5 : decode cX11_countJoined 5 = .ok (.getfield 33, 3) := by decide +kernel
theorem dX11_countJoined_8 : decode cX11_countJoined 8 = .ok (.aload_n 0, 1) := by decide +kernel
theorem dX11_countJoined_9 : decode cX11_countJoined 9 = .ok (.getfield 12, 3) := by decide +kernel
theorem dX11_countJoined_12 : decode cX11_countJoined 12 = .ok (.invokevirtual 215, 3) := by decide +kernel
theorem dX11_countJoined_15 : decode cX11_countJoined 15 = .ok (.aload_n 0, 1) := by decide +kernel
theorem dX11_countJoined_16 : decode cX11_countJoined 16 = .ok (.getfield 33, 3) := by decide +kernel
theorem dX11_countJoined_19 : decode cX11_countJoined 19 = .ok (.aload_n 0, 1) := by decide +kernel
theorem dX11_countJoined_20 : decode cX11_countJoined 20 = .ok (.getfield 12, 3) := by decide +kernel
theorem dX11_countJoined_23 : decode cX11_countJoined 23 = .ok (.iload_n 1, 1) := by decide +kernel
theorem dX11_countJoined_24 : decode cX11_countJoined 24 = .ok (.invokevirtual 222, 3) := by decide +kernel
theorem dX11_countJoined_27 : decode cX11_countJoined 27 = .ok (.ireturn, 1) := by decide +kernel
theorem dX11_treeSum_0 : decode cX11_treeSum 0 = .ok (.aload_n 0, 1) := by decide +kernel
theorem dX11_treeSum_1 : decode cX11_treeSum 1 = .ok (.getfield 33, 3) := by decide +kernel
theorem dX11_treeSum_4 : decode cX11_treeSum 4 = .ok (.aload_n 0, 1) := by decide +kernel
theorem dX11_treeSum_5 : decode cX11_treeSum 5 = .ok (.getfield 12, 3) := by decide +kernel
theorem dX11_treeSum_8 : decode cX11_treeSum 8 = .ok (.invokevirtual 215, 3) := by decide +kernel
theorem dX11_treeSum_11 : decode cX11_treeSum 11 = .ok (.aload_n 0, 1) := by decide +kernel
theorem dX11_treeSum_12 : decode cX11_treeSum 12 = .ok (.getfield 33, 3) := by decide +kernel
theorem dX11_treeSum_15 : decode cX11_treeSum 15 = .ok (.getfield 226, 3) := by decide +kernel
theorem dX11_treeSum_18 : decode cX11_treeSum 18 = .ok (.ireturn, 1) := by decide +kernel
theorem dX11_steps_0 : decode cX11_steps 0 = .ok (.aload_n 0, 1) := by decide +kernel
theorem dX11_steps_1 : decode cX11_steps 1 = .ok (.iload_n 1, 1) := by decide +kernel
theorem dX11_steps_2 : decode cX11_steps 2 = .ok (.invokevirtual 110, 3) := by decide +kernel
theorem dX11_steps_5 : decode cX11_steps 5 = .ok (.aload_n 0, 1) := by decide +kernel
theorem dX11_steps_6 : decode cX11_steps 6 = .ok (.iload_n 2, 1) := by decide +kernel
theorem dX11_steps_7 : decode cX11_steps 7 = .ok (.invokevirtual 110, 3) := by decide +kernel
theorem dX11_steps_10 : decode cX11_steps 10 = .ok (.aload_n 0, 1) := by decide +kernel
theorem dX11_steps_11 : decode cX11_steps 11 = .ok (.getfield 26, 3) := by decide +kernel
theorem dX11_steps_14 : decode cX11_steps 14 = .ok (.aload_n 0, 1) := by decide +kernel
theorem dX11_steps_15 : decode cX11_steps 15 = .ok (.getfield 12, 3) := by decide +kernel
theorem dX11_steps_18 : decode cX11_steps 18 = .ok (.invokevirtual 187, 3) := by decide +kernel
theorem dX11_steps_21 : decode cX11_steps 21 = .ok (.aload_n 0, 1) := by decide +kernel
theorem dX11_steps_22 : decode cX11_steps 22 = .ok (.getfield 26, 3) := by decide +kernel
theorem dX11_steps_25 : decode cX11_steps 25 = .ok (.iload_n 1, 1) := by decide +kernel
theorem dX11_steps_26 : decode cX11_steps 26 = .ok (.iload_n 2, 1) := by decide +kernel
theorem dX11_steps_27 : decode cX11_steps 27 = .ok (.invokevirtual 229, 3) := by decide +kernel
theorem dX11_steps_30 : decode cX11_steps 30 = .ok (.istore_n 3, 1) := by decide +kernel
theorem dX11_steps_31 : decode cX11_steps 31 = .ok (.iload_n 3, 1) := by decide +kernel
theorem dX11_steps_32 : decode cX11_steps 32 = .ok (.iconst (-1), 1) := by decide +kernel
theorem dX11_steps_33 : decode cX11_steps 33 = .ok (.if_icmp .ne 13, 3) := by decide +kernel
theorem dX11_steps_36 : decode cX11_steps 36 = .ok (.new 136, 3) := by decide +kernel
theorem dX11_steps_39 : decode cX11_steps 39 = .ok (.dup, 1) := by decide +kernel
theorem dX11_steps_40 : decode cX11_steps 40 = .ok (.ldc 232, 2) := by decide +kernel
theorem dX11_steps_42 : decode cX11_steps 42 = .ok (.invokespecial 140, 3) := by decide +kernel
theorem dX11_steps_45 : decode cX11_steps 45 = .ok (.athrow, 1) := by decide +kernel
theorem dX11_steps_46 : decode cX11_steps 46 = .ok (.iload_n 3, 1) := by decide +kernel
theorem dX11_steps_47 : decode cX11_steps 47 = .ok (.ireturn, 1) := by decide +kernel
theorem dX11_countHull_0 : decode cX11_countHull 0 = .ok (.aload_n 0, 1) := by decide +kernel
theorem dX11_countHull_1 : decode cX11_countHull 1 = .ok (.getfield 40, 3) := by decide +kernel
theorem dX11_countHull_4 : decode cX11_countHull 4 = .ok (.aload_n 0, 1) := by decide +kernel
theorem dX11_countHull_5 : decode cX11_countHull 5 = .ok (.getfield 12, 3) := by decide +kernel
theorem dX11_countHull_8 : decode cX11_countHull 8 = .ok (.invokevirtual 234, 3) := by decide +kernel
theorem dX11_countHull_11 : decode cX11_countHull 11 = .ok (.aload_n 0, 1) := by decide +kernel
theorem dX11_countHull_12 : decode cX11_countHull 12 = .ok (.getfield 40, 3) := by decide +kernel
theorem dX11_countHull_15 : decode cX11_countHull 15 = .ok (.getfield 235, 3) := by decide +kernel
theorem dX11_countHull_18 : decode cX11_countHull 18 = .ok (.ireturn, 1) := by decide +kernel
theorem dX11_hullAt_0 : decode cX11_hullAt 0 = .ok (.aload_n 0, 1) := by decide +kernel
theorem dX11_hullAt_1 : decode cX11_hullAt 1 = .ok (.getfield 40, 3) := by decide +kernel
theorem dX11_hullAt_4 : decode cX11_hullAt 4 = .ok (.aload_n 0, 1) := by decide +kernel
theorem dX11_hullAt_5 : decode cX11_hullAt 5 = .ok (.getfield 12, 3) := by decide +kernel
theorem dX11_hullAt_8 : decode cX11_hullAt 8 = .ok (.invokevirtual 234, 3) := by decide +kernel
theorem dX11_hullAt_11 : decode cX11_hullAt 11 = .ok (.iload_n 1, 1) := by decide +kernel
theorem dX11_hullAt_12 : decode cX11_hullAt 12 = .ok (.ifCond .lt 26, 3) := by decide +kernel
theorem dX11_hullAt_15 : decode cX11_hullAt 15 = .ok (.iload_n 1, 1) := by decide +kernel
theorem dX11_hullAt_16 : decode cX11_hullAt 16 = .ok (.aload_n 0, 1) := by decide +kernel
theorem dX11_hullAt_17 : decode cX11_hullAt 17 = .ok (.getfield 40, 3) := by decide +kernel
theorem dX11_hullAt_20 : decode cX11_hullAt 20 = .ok (.getfield 235, 3) := by decide +kernel
theorem dX11_hullAt_23 : decode cX11_hullAt 23 = .ok (.if_icmp .ge 15, 3) := by decide +kernel
theorem dX11_hullAt_26 : decode cX11_hullAt 26 = .ok (.iload_n 1, 1) := by decide +kernel
theorem dX11_hullAt_27 : decode cX11_hullAt 27 = .ok (.aload_n 0, 1) := by decide +kernel
theorem dX11_hullAt_28 : decode cX11_hullAt 28 = .ok (.getfield 40, 3) := by decide +kernel
theorem dX11_hullAt_31 : decode cX11_hullAt 31 = .ok (.getfield 236, 3) := by decide +kernel
theorem dX11_hullAt_34 : decode cX11_hullAt 34 = .ok (.arraylength, 1) := by decide +kernel
theorem dX11_hullAt_35 : decode cX11_hullAt 35 = .ok (.if_icmp .lt 13, 3) := by decide +kernel
theorem dX11_hullAt_38 : decode cX11_hullAt 38 = .ok (.new 136, 3) := by decide +kernel
theorem dX11_hullAt_41 : decode cX11_hullAt 41 = .ok (.dup, 1) := by decide +kernel
theorem dX11_hullAt_42 : decode cX11_hullAt 42 = .ok (.ldc 239, 2) := by decide +kernel
theorem dX11_hullAt_44 : decode cX11_hullAt 44 = .ok (.invokespecial 140, 3) := by decide +kernel
theorem dX11_hullAt_47 : decode cX11_hullAt 47 = .ok (.athrow, 1) := by decide +kernel
theorem dX11_hullAt_48 : decode cX11_hullAt 48 = .ok (.aload_n 0, 1) := by decide +kernel
theorem dX11_hullAt_49 : decode cX11_hullAt 49 = .ok (.getfield 40, 3) := by decide +kernel
theorem dX11_hullAt_52 : decode cX11_hullAt 52 = .ok (.getfield 236, 3) := by decide +kernel
theorem dX11_hullAt_55 : decode cX11_hullAt 55 = .ok (.iload_n 1, 1) := by decide +kernel
theorem dX11_hullAt_56 : decode cX11_hullAt 56 = .ok (.iaload, 1) := by decide +kernel
theorem dX11_hullAt_57 : decode cX11_hullAt 57 = .ok (.ireturn, 1) := by decide +kernel
theorem dX11_hullArea_0 : decode cX11_hullArea 0 = .ok (.aload_n 0, 1) := by decide +kernel
theorem dX11_hullArea_1 : decode cX11_hullArea 1 = .ok (.getfield 40, 3) := by decide +kernel
theorem dX11_hullArea_4 : decode cX11_hullArea 4 = .ok (.aload_n 0, 1) := by decide +kernel
theorem dX11_hullArea_5 : decode cX11_hullArea 5 = .ok (.getfield 12, 3) := by decide +kernel
theorem dX11_hullArea_8 : decode cX11_hullArea 8 = .ok (.invokevirtual 234, 3) := by decide +kernel
theorem dX11_hullArea_11 : decode cX11_hullArea 11 = .ok (.aload_n 0, 1) := by decide +kernel
theorem dX11_hullArea_12 : decode cX11_hullArea 12 = .ok (.getfield 40, 3) := by decide +kernel
theorem dX11_hullArea_15 : decode cX11_hullArea 15 = .ok (.aload_n 0, 1) := by decide +kernel
theorem dX11_hullArea_16 : decode cX11_hullArea 16 = .ok (.getfield 12, 3) := by decide +kernel
theorem dX11_hullArea_19 : decode cX11_hullArea 19 = .ok (.invokevirtual 241, 3) := by decide +kernel
theorem dX11_hullArea_22 : decode cX11_hullArea 22 = .ok (.ireturn, 1) := by decide +kernel
theorem dX11_layer_0 : decode cX11_layer 0 = .ok (.aload_n 0, 1) := by decide +kernel
theorem dX11_layer_1 : decode cX11_layer 1 = .ok (.iload_n 1, 1) := by decide +kernel
theorem dX11_layer_2 : decode cX11_layer 2 = .ok (.invokevirtual 110, 3) := by decide +kernel
theorem dX11_layer_5 : decode cX11_layer 5 = .ok (.aload_n 0, 1) := by decide +kernel
theorem dX11_layer_6 : decode cX11_layer 6 = .ok (.getfield 40, 3) := by decide +kernel
theorem dX11_layer_9 : decode cX11_layer 9 = .ok (.aload_n 0, 1) := by decide +kernel
theorem dX11_layer_10 : decode cX11_layer 10 = .ok (.getfield 12, 3) := by decide +kernel
theorem dX11_layer_13 : decode cX11_layer 13 = .ok (.iload_n 1, 1) := by decide +kernel
theorem dX11_layer_14 : decode cX11_layer 14 = .ok (.invokevirtual 245, 3) := by decide +kernel
theorem dX11_layer_17 : decode cX11_layer 17 = .ok (.ireturn, 1) := by decide +kernel
theorem dX11_depth_0 : decode cX11_depth 0 = .ok (.aload_n 0, 1) := by decide +kernel
theorem dX11_depth_1 : decode cX11_depth 1 = .ok (.iload_n 1, 1) := by decide +kernel
theorem dX11_depth_2 : decode cX11_depth 2 = .ok (.invokevirtual 110, 3) := by decide +kernel
theorem dX11_depth_5 : decode cX11_depth 5 = .ok (.aload_n 0, 1) := by decide +kernel
theorem dX11_depth_6 : decode cX11_depth 6 = .ok (.getfield 40, 3) := by decide +kernel
theorem dX11_depth_9 : decode cX11_depth 9 = .ok (.aload_n 0, 1) := by decide +kernel
theorem dX11_depth_10 : decode cX11_depth 10 = .ok (.getfield 12, 3) := by decide +kernel
theorem dX11_depth_13 : decode cX11_depth 13 = .ok (.iload_n 1, 1) := by decide +kernel
theorem dX11_depth_14 : decode cX11_depth 14 = .ok (.invokevirtual 249, 3) := by decide +kernel
theorem dX11_depth_17 : decode cX11_depth 17 = .ok (.ireturn, 1) := by decide +kernel
theorem dX11_countParts_0 : decode cX11_countParts 0 = .ok (.iload_n 1, 1) := by decide +kernel
theorem dX11_countParts_1 : decode cX11_countParts 1 = .ok (.iconst 0, 1) := by decide +kernel
theorem dX11_countParts_2 : decode cX11_countParts 2 = .ok (.ldc 252, 2) := by decide +kernel
theorem dX11_countParts_4 : decode cX11_countParts 4 = .ok (.invokestatic 129, 3) := by decide +kernel
theorem dX11_countParts_7 : decode cX11_countParts 7 = .ok (.aload_n 0, 1) := by decide +kernel
theorem dX11_countParts_8 : decode cX11_countParts 8 = .ok (.getfield 26, 3) := by decide +kernel
theorem dX11_countParts_11 : decode cX11_countParts 11 = .ok (.aload_n 0, 1) := by decide +kernel
theorem dX11_countParts_12 : decode cX11_countParts 12 = .ok (.getfield 12, 3) := by decide +kernel
theorem dX11_countParts_15 : decode cX11_countParts 15 = .ok (.invokevirtual 187, 3) := by decide +kernel
theorem dX11_countParts_18 : decode cX11_countParts 18 = .ok (.aload_n 0, 1) := by decide +kernel
theorem dX11_countParts_19 : decode cX11_countParts 19 = .ok (.getfield 47, 3) := by decide +kernel
theorem dX11_countParts_22 : decode cX11_countParts 22 = .ok (.aload_n 0, 1) := by decide +kernel
theorem dX11_countParts_23 : decode cX11_countParts 23 = .ok (.getfield 12, 3) := by decide +kernel
theorem dX11_countParts_26 : decode cX11_countParts 26 = .ok (.aload_n 0, 1) := by decide +kernel
theorem dX11_countParts_27 : decode cX11_countParts 27 = .ok (.getfield 26, 3) := by decide +kernel
theorem dX11_countParts_30 : decode cX11_countParts 30 = .ok (.iload_n 1, 1) := by decide +kernel
theorem dX11_countParts_31 : decode cX11_countParts 31 = .ok (.invokevirtual 253, 3) := by decide +kernel
theorem dX11_countParts_34 : decode cX11_countParts 34 = .ok (.aload_n 0, 1) := by decide +kernel
theorem dX11_countParts_35 : decode cX11_countParts 35 = .ok (.getfield 47, 3) := by decide +kernel
theorem dX11_countParts_38 : decode cX11_countParts 38 = .ok (.getfield 257, 3) := by decide +kernel
theorem dX11_countParts_41 : decode cX11_countParts 41 = .ok (.getfield 261, 3) := by decide +kernel
theorem dX11_countParts_44 : decode cX11_countParts 44 = .ok (.ireturn, 1) := by decide +kernel
theorem dX11_countHoles_0 : decode cX11_countHoles 0 = .ok (.iload_n 1, 1) := by decide +kernel
theorem dX11_countHoles_1 : decode cX11_countHoles 1 = .ok (.iconst 0, 1) := by decide +kernel
theorem dX11_countHoles_2 : decode cX11_countHoles 2 = .ok (.ldc 252, 2) := by decide +kernel
theorem dX11_countHoles_4 : decode cX11_countHoles 4 = .ok (.invokestatic 129, 3) := by decide +kernel
theorem dX11_countHoles_7 : decode cX11_countHoles 7 = .ok (.aload_n 0, 1) := by decide +kernel
theorem dX11_countHoles_8 : decode cX11_countHoles 8 = .ok (.getfield 26, 3) := by decide +kernel
theorem dX11_countHoles_11 : decode cX11_countHoles 11 = .ok (.aload_n 0, 1) := by decide +kernel
theorem dX11_countHoles_12 : decode cX11_countHoles 12 = .ok (.getfield 12, 3) := by decide +kernel
theorem dX11_countHoles_15 : decode cX11_countHoles 15 = .ok (.invokevirtual 187, 3) := by decide +kernel
theorem dX11_countHoles_18 : decode cX11_countHoles 18 = .ok (.aload_n 0, 1) := by decide +kernel
theorem dX11_countHoles_19 : decode cX11_countHoles 19 = .ok (.getfield 47, 3) := by decide +kernel
theorem dX11_countHoles_22 : decode cX11_countHoles 22 = .ok (.aload_n 0, 1) := by decide +kernel
theorem dX11_countHoles_23 : decode cX11_countHoles 23 = .ok (.getfield 12, 3) := by decide +kernel
theorem dX11_countHoles_26 : decode cX11_countHoles 26 = .ok (.aload_n 0, 1) := by decide +kernel
theorem dX11_countHoles_27 : decode cX11_countHoles 27 = .ok (.getfield 26, 3) := by decide +kernel
theorem dX11_countHoles_30 : decode cX11_countHoles 30 = .ok (.iload_n 1, 1) := by decide +kernel
theorem dX11_countHoles_31 : decode cX11_countHoles 31 = .ok (.invokevirtual 253, 3) := by decide +kernel
theorem dX11_countHoles_34 : decode cX11_countHoles 34 = .ok (.aload_n 0, 1) := by decide +kernel
theorem dX11_countHoles_35 : decode cX11_countHoles 35 = .ok (.getfield 47, 3) := by decide +kernel
theorem dX11_countHoles_38 : decode cX11_countHoles 38 = .ok (.getfield 264, 3) := by decide +kernel
theorem dX11_countHoles_41 : decode cX11_countHoles 41 = .ok (.aload_n 0, 1) := by decide +kernel
theorem dX11_countHoles_42 : decode cX11_countHoles 42 = .ok (.getfield 12, 3) := by decide +kernel
theorem dX11_countHoles_45 : decode cX11_countHoles 45 = .ok (.invokevirtual 117, 3) := by decide +kernel
theorem dX11_countHoles_48 : decode cX11_countHoles 48 = .ok (.isub, 1) := by decide +kernel
theorem dX11_countHoles_49 : decode cX11_countHoles 49 = .ok (.aload_n 0, 1) := by decide +kernel
theorem dX11_countHoles_50 : decode cX11_countHoles 50 = .ok (.getfield 47, 3) := by decide +kernel
theorem dX11_countHoles_53 : decode cX11_countHoles 53 = .ok (.getfield 257, 3) := by decide +kernel
theorem dX11_countHoles_56 : decode cX11_countHoles 56 = .ok (.getfield 261, 3) := by decide +kernel
theorem dX11_countHoles_59 : decode cX11_countHoles 59 = .ok (.iadd, 1) := by decide +kernel
theorem dX11_countHoles_60 : decode cX11_countHoles 60 = .ok (.aload_n 0, 1) := by decide +kernel
theorem dX11_countHoles_61 : decode cX11_countHoles 61 = .ok (.getfield 47, 3) := by decide +kernel
theorem dX11_countHoles_64 : decode cX11_countHoles 64 = .ok (.getfield 267, 3) := by decide +kernel
theorem dX11_countHoles_67 : decode cX11_countHoles 67 = .ok (.isub, 1) := by decide +kernel
theorem dX11_countHoles_68 : decode cX11_countHoles 68 = .ok (.ireturn, 1) := by decide +kernel
theorem dX11_addWall_0 : decode cX11_addWall 0 = .ok (.iload_n 1, 1) := by decide +kernel
theorem dX11_addWall_1 : decode cX11_addWall 1 = .ok (.iload_n 2, 1) := by decide +kernel
theorem dX11_addWall_2 : decode cX11_addWall 2 = .ok (.bipush 100, 2) := by decide +kernel
theorem dX11_addWall_4 : decode cX11_addWall 4 = .ok (.invokestatic 79, 3) := by decide +kernel
theorem dX11_addWall_7 : decode cX11_addWall 7 = .ok (.iload_n 3, 1) := by decide +kernel
theorem dX11_addWall_8 : decode cX11_addWall 8 = .ok (.iload 4, 2) := by decide +kernel
theorem dX11_addWall_10 : decode cX11_addWall 10 = .ok (.bipush 100, 2) := by decide +kernel
theorem dX11_addWall_12 : decode cX11_addWall 12 = .ok (.invokestatic 79, 3) := by decide +kernel
theorem dX11_addWall_15 : decode cX11_addWall 15 = .ok (.iload_n 1, 1) := by decide +kernel
theorem dX11_addWall_16 : decode cX11_addWall 16 = .ok (.iload_n 3, 1) := by decide +kernel
theorem dX11_addWall_17 : decode cX11_addWall 17 = .ok (.if_icmp .ne 20, 3) := by decide +kernel
theorem dX11_addWall_20 : decode cX11_addWall 20 = .ok (.iload_n 2, 1) := by decide +kernel
theorem dX11_addWall_21 : decode cX11_addWall 21 = .ok (.iload 4, 2) := by decide +kernel
theorem dX11_addWall_23 : decode cX11_addWall 23 = .ok (.if_icmp .ne 14, 3) := by decide +kernel
theorem dX11_addWall_26 : decode cX11_addWall 26 = .ok (.new 210, 3) := by decide +kernel
theorem dX11_addWall_29 : decode cX11_addWall 29 = .ok (.dup, 1) := by decide +kernel
theorem dX11_addWall_30 : decode cX11_addWall 30 = .ok (.ldc_w 270, 3) := by decide +kernel
theorem dX11_addWall_33 : decode cX11_addWall 33 = .ok (.invokespecial 214, 3) := by decide +kernel
theorem dX11_addWall_36 : decode cX11_addWall 36 = .ok (.athrow, 1) := by decide +kernel
theorem dX11_addWall_37 : decode cX11_addWall 37 = .ok (.aload_n 0, 1) := by decide +kernel
theorem dX11_addWall_38 : decode cX11_addWall 38 = .ok (.getfield 54, 3) := by decide +kernel
theorem dX11_addWall_41 : decode cX11_addWall 41 = .ok (.getfield 272, 3) := by decide +kernel
theorem dX11_addWall_44 : decode cX11_addWall 44 = .ok (.bipush 10, 2) := by decide +kernel
theorem dX11_addWall_46 : decode cX11_addWall 46 = .ok (.if_icmp .lt 14, 3) := by decide +kernel
theorem dX11_addWall_49 : decode cX11_addWall 49 = .ok (.new 98, 3) := by decide +kernel
theorem dX11_addWall_52 : decode cX11_addWall 52 = .ok (.dup, 1) := by decide +kernel
theorem dX11_addWall_53 : decode cX11_addWall 53 = .ok (.ldc_w 273, 3) := by decide +kernel
theorem dX11_addWall_56 : decode cX11_addWall 56 = .ok (.invokespecial 102, 3) := by decide +kernel
theorem dX11_addWall_59 : decode cX11_addWall 59 = .ok (.athrow, 1) := by decide +kernel
theorem dX11_addWall_60 : decode cX11_addWall 60 = .ok (.aload_n 0, 1) := by decide +kernel
theorem dX11_addWall_61 : decode cX11_addWall 61 = .ok (.getfield 54, 3) := by decide +kernel
theorem dX11_addWall_64 : decode cX11_addWall 64 = .ok (.iload_n 1, 1) := by decide +kernel
theorem dX11_addWall_65 : decode cX11_addWall 65 = .ok (.iload_n 2, 1) := by decide +kernel
theorem dX11_addWall_66 : decode cX11_addWall 66 = .ok (.iload_n 3, 1) := by decide +kernel
theorem dX11_addWall_67 : decode cX11_addWall 67 = .ok (.iload 4, 2) := by decide +kernel
theorem dX11_addWall_69 : decode cX11_addWall 69 = .ok (.invokevirtual 275, 3) := by decide +kernel
theorem dX11_addWall_72 : decode cX11_addWall 72 = .ok (.aload_n 0, 1) := by decide +kernel
theorem dX11_addWall_73 : decode cX11_addWall 73 = .ok (.getfield 54, 3) := by decide +kernel
theorem dX11_addWall_76 : decode cX11_addWall 76 = .ok (.getfield 272, 3) := by decide +kernel
theorem dX11_addWall_79 : decode cX11_addWall 79 = .ok (.iconst 1, 1) := by decide +kernel
theorem dX11_addWall_80 : decode cX11_addWall 80 = .ok (.isub, 1) := by decide +kernel
theorem dX11_addWall_81 : decode cX11_addWall 81 = .ok (.ireturn, 1) := by decide +kernel
theorem dX11_dropWall_0 : decode cX11_dropWall 0 = .ok (.aload_n 0, 1) := by decide +kernel
theorem dX11_dropWall_1 : decode cX11_dropWall 1 = .ok (.getfield 54, 3) := by decide +kernel
theorem dX11_dropWall_4 : decode cX11_dropWall 4 = .ok (.getfield 272, 3) := by decide +kernel
theorem dX11_dropWall_7 : decode cX11_dropWall 7 = .ok (.ifCond .ne 14, 3) := by decide +kernel
theorem dX11_dropWall_10 : decode cX11_dropWall 10 = .ok (.new 136, 3) := by decide +kernel
theorem dX11_dropWall_13 : decode cX11_dropWall 13 = .ok (.dup, 1) := by decide +kernel
theorem dX11_dropWall_14 : decode cX11_dropWall 14 = .ok (.ldc_w 279, 3) := by decide +kernel
theorem dX11_dropWall_17 : decode cX11_dropWall 17 = .ok (.invokespecial 140, 3) := by decide +kernel
theorem dX11_dropWall_20 : decode cX11_dropWall 20 = .ok (.athrow, 1) := by decide +kernel
theorem dX11_dropWall_21 : decode cX11_dropWall 21 = .ok (.aload_n 0, 1) := by decide +kernel
theorem dX11_dropWall_22 : decode cX11_dropWall 22 = .ok (.getfield 54, 3) := by decide +kernel
theorem dX11_dropWall_25 : decode cX11_dropWall 25 = .ok (.dup, 1) := by decide +kernel
theorem dX11_dropWall_26 : decode cX11_dropWall 26 = .ok (.getfield 272, 3) := by decide +kernel
theorem dX11_dropWall_29 : decode cX11_dropWall 29 = .ok (.iconst 1, 1) := by decide +kernel
theorem dX11_dropWall_30 : decode cX11_dropWall 30 = .ok (.isub, 1) := by decide +kernel
theorem dX11_dropWall_31 : decode cX11_dropWall 31 = .ok (.putfield 272, 3) := by decide +kernel
theorem dX11_dropWall_34 : decode cX11_dropWall 34 = .ok (.aload_n 0, 1) := by decide +kernel
theorem dX11_dropWall_35 : decode cX11_dropWall 35 = .ok (.getfield 54, 3) := by decide +kernel
theorem dX11_dropWall_38 : decode cX11_dropWall 38 = .ok (.getfield 272, 3) := by decide +kernel
theorem dX11_dropWall_41 : decode cX11_dropWall 41 = .ok (.ireturn, 1) := by decide +kernel
theorem dX11_sees_0 : decode cX11_sees 0 = .ok (.aload_n 0, 1) := by decide +kernel
theorem dX11_sees_1 : decode cX11_sees 1 = .ok (.iload_n 3, 1) := by decide +kernel
theorem dX11_sees_2 : decode cX11_sees 2 = .ok (.invokevirtual 110, 3) := by decide +kernel
theorem dX11_sees_5 : decode cX11_sees 5 = .ok (.iload_n 1, 1) := by decide +kernel
theorem dX11_sees_6 : decode cX11_sees 6 = .ok (.iload_n 2, 1) := by decide +kernel
theorem dX11_sees_7 : decode cX11_sees 7 = .ok (.bipush 100, 2) := by decide +kernel
theorem dX11_sees_9 : decode cX11_sees 9 = .ok (.invokestatic 79, 3) := by decide +kernel
theorem dX11_sees_12 : decode cX11_sees 12 = .ok (.aload_n 0, 1) := by decide +kernel
theorem dX11_sees_13 : decode cX11_sees 13 = .ok (.getfield 54, 3) := by decide +kernel
theorem dX11_sees_16 : decode cX11_sees 16 = .ok (.iload_n 1, 1) := by decide +kernel
theorem dX11_sees_17 : decode cX11_sees 17 = .ok (.iload_n 2, 1) := by decide +kernel
theorem dX11_sees_18 : decode cX11_sees 18 = .ok (.aload_n 0, 1) := by decide +kernel
theorem dX11_sees_19 : decode cX11_sees 19 = .ok (.getfield 12, 3) := by decide +kernel
theorem dX11_sees_22 : decode cX11_sees 22 = .ok (.getfield 281, 3) := by decide +kernel
theorem dX11_sees_25 : decode cX11_sees 25 = .ok (.iload_n 3, 1) := by decide +kernel
theorem dX11_sees_26 : decode cX11_sees 26 = .ok (.iaload, 1) := by decide +kernel
theorem dX11_sees_27 : decode cX11_sees 27 = .ok (.aload_n 0, 1) := by decide +kernel
theorem dX11_sees_28 : decode cX11_sees 28 = .ok (.getfield 12, 3) := by decide +kernel
theorem dX11_sees_31 : decode cX11_sees 31 = .ok (.getfield 284, 3) := by decide +kernel
theorem dX11_sees_34 : decode cX11_sees 34 = .ok (.iload_n 3, 1) := by decide +kernel
theorem dX11_sees_35 : decode cX11_sees 35 = .ok (.iaload, 1) := by decide +kernel
theorem dX11_sees_36 : decode cX11_sees 36 = .ok (.invokevirtual 287, 3) := by decide +kernel
theorem dX11_sees_39 : decode cX11_sees 39 = .ok (.ireturn, 1) := by decide +kernel
theorem dX11_countSeen_0 : decode cX11_countSeen 0 = .ok (.aload_n 0, 1) := by decide +kernel
theorem dX11_countSeen_1 : decode cX11_countSeen 1 = .ok (.iload_n 1, 1) := by decide +kernel
theorem dX11_countSeen_2 : decode cX11_countSeen 2 = .ok (.invokevirtual 110, 3) := by decide +kernel
theorem dX11_countSeen_5 : decode cX11_countSeen 5 = .ok (.aload_n 0, 1) := by decide +kernel
theorem dX11_countSeen_6 : decode cX11_countSeen 6 = .ok (.iload_n 1, 1) := by decide +kernel
theorem dX11_countSeen_7 : decode cX11_countSeen 7 = .ok (.invokevirtual 291, 3) := by decide +kernel
theorem dX11_countSeen_10 : decode cX11_countSeen 10 = .ok (.iconst 1, 1) := by decide +kernel
theorem dX11_countSeen_11 : decode cX11_countSeen 11 = .ok (.iload_n 1, 1) := by decide +kernel
theorem dX11_countSeen_12 : decode cX11_countSeen 12 = .ok (.ishl, 1) := by decide +kernel
theorem dX11_countSeen_13 : decode cX11_countSeen 13 = .ok (.iconst (-1), 1) := by decide +kernel
theorem dX11_countSeen_14 : decode cX11_countSeen 14 = .ok (.ixor, 1) := by decide +kernel
theorem dX11_countSeen_15 : decode cX11_countSeen 15 = .ok (.iand, 1) := by decide +kernel
theorem dX11_countSeen_16 : decode cX11_countSeen 16 = .ok (.invokestatic 201, 3) := by decide +kernel
theorem dX11_countSeen_19 : decode cX11_countSeen 19 = .ok (.ireturn, 1) := by decide +kernel
theorem dX11_leastGuards_0 : decode cX11_leastGuards 0 = .ok (.iconst 0, 1) := by decide +kernel
theorem dX11_leastGuards_1 : decode cX11_leastGuards 1 = .ok (.istore_n 1, 1) := by decide +kernel
theorem dX11_leastGuards_2 : decode cX11_leastGuards 2 = .ok (.iload_n 1, 1) := by decide +kernel
theorem dX11_leastGuards_3 : decode cX11_leastGuards 3 = .ok (.bipush 12, 2) := by decide +kernel
theorem dX11_leastGuards_5 : decode cX11_leastGuards 5 = .ok (.if_icmp .ge 42, 3) := by decide +kernel
theorem dX11_leastGuards_8 : decode cX11_leastGuards 8 = .ok (.aload_n 0, 1) := by decide +kernel
theorem dX11_leastGuards_9 : decode cX11_leastGuards 9 = .ok (.getfield 61, 3) := by decide +kernel
theorem dX11_leastGuards_12 : decode cX11_leastGuards 12 = .ok (.getfield 294, 3) := by decide +kernel
theorem dX11_leastGuards_15 : decode cX11_leastGuards 15 = .ok (.iload_n 1, 1) := by decide +kernel
theorem dX11_leastGuards_16 : decode cX11_leastGuards 16 = .ok (.aload_n 0, 1) := by decide +kernel
theorem dX11_leastGuards_17 : decode cX11_leastGuards 17 = .ok (.getfield 12, 3) := by decide +kernel
theorem dX11_leastGuards_20 : decode cX11_leastGuards 20 = .ok (.iload_n 1, 1) := by decide +kernel
theorem dX11_leastGuards_21 : decode cX11_leastGuards 21 = .ok (.invokevirtual 160, 3) := by decide +kernel
theorem dX11_leastGuards_24 : decode cX11_leastGuards 24 = .ok (.ifCond .eq 15, 3) := by decide +kernel
theorem dX11_leastGuards_27 : decode cX11_leastGuards 27 = .ok (.aload_n 0, 1) := by decide +kernel
theorem dX11_leastGuards_28 : decode cX11_leastGuards 28 = .ok (.iload_n 1, 1) := by decide +kernel
theorem dX11_leastGuards_29 : decode cX11_leastGuards 29 = .ok (.invokevirtual 291, 3) := by decide +kernel
theorem dX11_leastGuards_32 : decode cX11_leastGuards 32 = .ok (.iconst 1, 1) := by decide +kernel
theorem dX11_leastGuards_33 : decode cX11_leastGuards 33 = .ok (.iload_n 1, 1) := by decide +kernel
theorem dX11_leastGuards_34 : decode cX11_leastGuards 34 = .ok (.ishl, 1) := by decide +kernel
theorem dX11_leastGuards_35 : decode cX11_leastGuards 35 = .ok (.ior, 1) := by decide +kernel
theorem dX11_leastGuards_36 : decode cX11_leastGuards 36 = .ok (.goto 4, 3) := by decide +kernel
theorem dX11_leastGuards_39 : decode cX11_leastGuards 39 = .ok (.iconst 0, 1) := by decide +kernel
theorem dX11_leastGuards_40 : decode cX11_leastGuards 40 = .ok (.iastore, 1) := by decide +kernel
theorem dX11_leastGuards_41 : decode cX11_leastGuards 41 = .ok (.iinc 1 1, 3) := by decide +kernel
theorem dX11_leastGuards_44 : decode cX11_leastGuards 44 = .ok (.goto (-42), 3) := by decide +kernel
theorem dX11_leastGuards_47 : decode cX11_leastGuards 47 = .ok (.aload_n 0, 1) := by decide +kernel
theorem dX11_leastGuards_48 : decode cX11_leastGuards 48 = .ok (.getfield 61, 3) := by decide +kernel
theorem dX11_leastGuards_51 : decode cX11_leastGuards 51 = .ok (.aload_n 0, 1) := by decide +kernel
theorem dX11_leastGuards_52 : decode cX11_leastGuards 52 = .ok (.getfield 12, 3) := by decide +kernel
theorem dX11_leastGuards_55 : decode cX11_leastGuards 55 = .ok (.getfield 297, 3) := by decide +kernel
theorem dX11_leastGuards_58 : decode cX11_leastGuards 58 = .ok (.invokevirtual 300, 3) := by decide +kernel
theorem dX11_leastGuards_61 : decode cX11_leastGuards 61 = .ok (.ireturn, 1) := by decide +kernel
theorem dX11_setSpeed_0 : decode cX11_setSpeed 0 = .ok (.aload_n 0, 1) := by decide +kernel
theorem dX11_setSpeed_1 : decode cX11_setSpeed 1 = .ok (.iload_n 1, 1) := by decide +kernel
theorem dX11_setSpeed_2 : decode cX11_setSpeed 2 = .ok (.invokevirtual 110, 3) := by decide +kernel
theorem dX11_setSpeed_5 : decode cX11_setSpeed 5 = .ok (.iload_n 2, 1) := by decide +kernel
theorem dX11_setSpeed_6 : decode cX11_setSpeed 6 = .ok (.iload_n 3, 1) := by decide +kernel
theorem dX11_setSpeed_7 : decode cX11_setSpeed 7 = .ok (.bipush 9, 2) := by decide +kernel
theorem dX11_setSpeed_9 : decode cX11_setSpeed 9 = .ok (.invokestatic 79, 3) := by decide +kernel
theorem dX11_setSpeed_12 : decode cX11_setSpeed 12 = .ok (.aload_n 0, 1) := by decide +kernel
theorem dX11_setSpeed_13 : decode cX11_setSpeed 13 = .ok (.getfield 12, 3) := by decide +kernel
theorem dX11_setSpeed_16 : decode cX11_setSpeed 16 = .ok (.iload_n 1, 1) := by decide +kernel
theorem dX11_setSpeed_17 : decode cX11_setSpeed 17 = .ok (.invokevirtual 303, 3) := by decide +kernel
theorem dX11_setSpeed_20 : decode cX11_setSpeed 20 = .ok (.ifCond .ne 7, 3) := by decide +kernel
theorem dX11_setSpeed_23 : decode cX11_setSpeed 23 = .ok (.iconst 1, 1) := by decide +kernel
theorem dX11_setSpeed_24 : decode cX11_setSpeed 24 = .ok (.goto 4, 3) := by decide +kernel
theorem dX11_setSpeed_27 : decode cX11_setSpeed 27 = .ok (.iconst 0, 1) := by decide +kernel
theorem dX11_setSpeed_28 : decode cX11_setSpeed 28 = .ok (.istore 4, 2) := by decide +kernel
theorem dX11_setSpeed_30 : decode cX11_setSpeed 30 = .ok (.aload_n 0, 1) := by decide +kernel
theorem dX11_setSpeed_31 : decode cX11_setSpeed 31 = .ok (.getfield 12, 3) := by decide +kernel
theorem dX11_setSpeed_34 : decode cX11_setSpeed 34 = .ok (.getfield 306, 3) := by decide +kernel
theorem dX11_setSpeed_37 : decode cX11_setSpeed 37 = .ok (.iload_n 1, 1) := by decide +kernel
theorem dX11_setSpeed_38 : decode cX11_setSpeed 38 = .ok (.iload_n 2, 1) := by decide +kernel
theorem dX11_setSpeed_39 : decode cX11_setSpeed 39 = .ok (.iastore, 1) := by decide +kernel
theorem dX11_setSpeed_40 : decode cX11_setSpeed 40 = .ok (.aload_n 0, 1) := by decide +kernel
theorem dX11_setSpeed_41 : decode cX11_setSpeed 41 = .ok (.getfield 12, 3) := by decide +kernel
theorem dX11_setSpeed_44 : decode cX11_setSpeed 44 = .ok (.getfield 309, 3) := by decide +kernel
theorem dX11_setSpeed_47 : decode cX11_setSpeed 47 = .ok (.iload_n 1, 1) := by decide +kernel
theorem dX11_setSpeed_48 : decode cX11_setSpeed 48 = .ok (.iload_n 3, 1) := by decide +kernel
theorem dX11_setSpeed_49 : decode cX11_setSpeed 49 = .ok (.iastore, 1) := by decide +kernel
theorem dX11_setSpeed_50 : decode cX11_setSpeed 50 = .ok (.iload 4, 2) := by decide +kernel
theorem dX11_setSpeed_52 : decode cX11_setSpeed 52 = .ok (.ireturn, 1) := by decide +kernel
theorem dX11_pass_0 : decode cX11_pass 0 = .ok (.iload_n 1, 1) := by decide +kernel
theorem dX11_pass_1 : decode cX11_pass 1 = .ok (.iconst 1, 1) := by decide +kernel
theorem dX11_pass_2 : decode cX11_pass 2 = .ok (.bipush 20, 2) := by decide +kernel
theorem dX11_pass_4 : decode cX11_pass 4 = .ok (.invokestatic 129, 3) := by decide +kernel
theorem dX11_pass_7 : decode cX11_pass 7 = .ok (.aload_n 0, 1) := by decide +kernel
theorem dX11_pass_8 : decode cX11_pass 8 = .ok (.getfield 12, 3) := by decide +kernel
theorem dX11_pass_11 : decode cX11_pass 11 = .ok (.iload_n 1, 1) := by decide +kernel
theorem dX11_pass_12 : decode cX11_pass 12 = .ok (.invokevirtual 312, 3) := by decide +kernel
theorem dX11_pass_15 : decode cX11_pass 15 = .ok (.ifCond .ne 14, 3) := by decide +kernel
theorem dX11_pass_18 : decode cX11_pass 18 = .ok (.new 87, 3) := by decide +kernel
theorem dX11_pass_21 : decode cX11_pass 21 = .ok (.dup, 1) := by decide +kernel
theorem dX11_pass_22 : decode cX11_pass 22 = .ok (.ldc_w 315, 3) := by decide +kernel
theorem dX11_pass_25 : decode cX11_pass 25 = .ok (.invokespecial 91, 3) := by decide +kernel
theorem dX11_pass_28 : decode cX11_pass 28 = .ok (.athrow, 1) := by decide +kernel
theorem dX11_pass_29 : decode cX11_pass 29 = .ok (.aload_n 0, 1) := by decide +kernel
theorem dX11_pass_30 : decode cX11_pass 30 = .ok (.getfield 12, 3) := by decide +kernel
theorem dX11_pass_33 : decode cX11_pass 33 = .ok (.iload_n 1, 1) := by decide +kernel
theorem dX11_pass_34 : decode cX11_pass 34 = .ok (.invokevirtual 317, 3) := by decide +kernel
theorem dX11_pass_37 : decode cX11_pass 37 = .ok (.ireturn, 1) := by decide +kernel
theorem dX11_nextNearest_0 : decode cX11_nextNearest 0 = .ok (.iload_n 1, 1) := by decide +kernel
theorem dX11_nextNearest_1 : decode cX11_nextNearest 1 = .ok (.iload_n 2, 1) := by decide +kernel
theorem dX11_nextNearest_2 : decode cX11_nextNearest 2 = .ok (.bipush 100, 2) := by decide +kernel
theorem dX11_nextNearest_4 : decode cX11_nextNearest 4 = .ok (.invokestatic 79, 3) := by decide +kernel
theorem dX11_nextNearest_7 : decode cX11_nextNearest 7 = .ok (.aload_n 0, 1) := by decide +kernel
theorem dX11_nextNearest_8 : decode cX11_nextNearest 8 = .ok (.getfield 12, 3) := by decide +kernel
theorem dX11_nextNearest_11 : decode cX11_nextNearest 11 = .ok (.aload_n 0, 1) := by decide +kernel
theorem dX11_nextNearest_12 : decode cX11_nextNearest 12 = .ok (.iload_n 1, 1) := by decide +kernel
theorem dX11_nextNearest_13 : decode cX11_nextNearest 13 = .ok (.iload_n 2, 1) := by decide +kernel
theorem dX11_nextNearest_14 : decode cX11_nextNearest 14 = .ok (.invokevirtual 320, 3) := by decide +kernel
theorem dX11_nextNearest_17 : decode cX11_nextNearest 17 = .ok (.iload_n 1, 1) := by decide +kernel
theorem dX11_nextNearest_18 : decode cX11_nextNearest 18 = .ok (.iload_n 2, 1) := by decide +kernel
theorem dX11_nextNearest_19 : decode cX11_nextNearest 19 = .ok (.invokevirtual 323, 3) := by decide +kernel
theorem dX11_nextNearest_22 : decode cX11_nextNearest 22 = .ok (.ireturn, 1) := by decide +kernel
theorem dX11_nextTime_0 : decode cX11_nextTime 0 = .ok (.iload_n 1, 1) := by decide +kernel
theorem dX11_nextTime_1 : decode cX11_nextTime 1 = .ok (.iload_n 2, 1) := by decide +kernel
theorem dX11_nextTime_2 : decode cX11_nextTime 2 = .ok (.bipush 100, 2) := by decide +kernel
theorem dX11_nextTime_4 : decode cX11_nextTime 4 = .ok (.invokestatic 79, 3) := by decide +kernel
theorem dX11_nextTime_7 : decode cX11_nextTime 7 = .ok (.aload_n 0, 1) := by decide +kernel
theorem dX11_nextTime_8 : decode cX11_nextTime 8 = .ok (.iload_n 1, 1) := by decide +kernel
theorem dX11_nextTime_9 : decode cX11_nextTime 9 = .ok (.iload_n 2, 1) := by decide +kernel
theorem dX11_nextTime_10 : decode cX11_nextTime 10 = .ok (.invokevirtual 320, 3) := by decide +kernel
theorem dX11_nextTime_13 : decode cX11_nextTime 13 = .ok (.ireturn, 1) := by decide +kernel
theorem dX11_cluster_0 : decode cX11_cluster 0 = .ok (.aload_n 0, 1) := by decide +kernel
theorem dX11_cluster_1 : decode cX11_cluster 1 = .ok (.iload_n 3, 1) := by decide +kernel
theorem dX11_cluster_2 : decode cX11_cluster 2 = .ok (.invokevirtual 110, 3) := by decide +kernel
theorem dX11_cluster_5 : decode cX11_cluster 5 = .ok (.iload_n 1, 1) := by decide +kernel
theorem dX11_cluster_6 : decode cX11_cluster 6 = .ok (.invokestatic 326, 3) := by decide +kernel
theorem dX11_cluster_9 : decode cX11_cluster 9 = .ok (.iload_n 2, 1) := by decide +kernel
theorem dX11_cluster_10 : decode cX11_cluster 10 = .ok (.iconst 1, 1) := by decide +kernel
theorem dX11_cluster_11 : decode cX11_cluster 11 = .ok (.aload_n 0, 1) := by decide +kernel
theorem dX11_cluster_12 : decode cX11_cluster 12 = .ok (.getfield 12, 3) := by decide +kernel
theorem dX11_cluster_15 : decode cX11_cluster 15 = .ok (.invokevirtual 117, 3) := by decide +kernel
theorem dX11_cluster_18 : decode cX11_cluster 18 = .ok (.invokestatic 129, 3) := by decide +kernel
theorem dX11_cluster_21 : decode cX11_cluster 21 = .ok (.aload_n 0, 1) := by decide +kernel
theorem dX11_cluster_22 : decode cX11_cluster 22 = .ok (.getfield 68, 3) := by decide +kernel
theorem dX11_cluster_25 : decode cX11_cluster 25 = .ok (.aload_n 0, 1) := by decide +kernel
theorem dX11_cluster_26 : decode cX11_cluster 26 = .ok (.getfield 12, 3) := by decide +kernel
theorem dX11_cluster_29 : decode cX11_cluster 29 = .ok (.iload_n 1, 1) := by decide +kernel
theorem dX11_cluster_30 : decode cX11_cluster 30 = .ok (.iload_n 2, 1) := by decide +kernel
theorem dX11_cluster_31 : decode cX11_cluster 31 = .ok (.invokevirtual 329, 3) := by decide +kernel
theorem dX11_cluster_34 : decode cX11_cluster 34 = .ok (.aload_n 0, 1) := by decide +kernel
theorem dX11_cluster_35 : decode cX11_cluster 35 = .ok (.getfield 68, 3) := by decide +kernel
theorem dX11_cluster_38 : decode cX11_cluster 38 = .ok (.getfield 333, 3) := by decide +kernel
theorem dX11_cluster_41 : decode cX11_cluster 41 = .ok (.getfield 334, 3) := by decide +kernel
theorem dX11_cluster_44 : decode cX11_cluster 44 = .ok (.iload_n 3, 1) := by decide +kernel
theorem dX11_cluster_45 : decode cX11_cluster 45 = .ok (.iaload, 1) := by decide +kernel
theorem dX11_cluster_46 : decode cX11_cluster 46 = .ok (.ireturn, 1) := by decide +kernel
theorem dX11_joinedAt_0 : decode cX11_joinedAt 0 = .ok (.iload_n 1, 1) := by decide +kernel
theorem dX11_joinedAt_1 : decode cX11_joinedAt 1 = .ok (.invokestatic 326, 3) := by decide +kernel
theorem dX11_joinedAt_4 : decode cX11_joinedAt 4 = .ok (.iload_n 2, 1) := by decide +kernel
theorem dX11_joinedAt_5 : decode cX11_joinedAt 5 = .ok (.iconst 1, 1) := by decide +kernel
theorem dX11_joinedAt_6 : decode cX11_joinedAt 6 = .ok (.aload_n 0, 1) := by decide +kernel
theorem dX11_joinedAt_7 : decode cX11_joinedAt 7 = .ok (.getfield 12, 3) := by decide +kernel
theorem dX11_joinedAt_10 : decode cX11_joinedAt 10 = .ok (.invokevirtual 117, 3) := by decide +kernel
theorem dX11_joinedAt_13 : decode cX11_joinedAt 13 = .ok (.iconst 1, 1) := by decide +kernel
theorem dX11_joinedAt_14 : decode cX11_joinedAt 14 = .ok (.isub, 1) := by decide +kernel
theorem dX11_joinedAt_15 : decode cX11_joinedAt 15 = .ok (.invokestatic 129, 3) := by decide +kernel
theorem dX11_joinedAt_18 : decode cX11_joinedAt 18 = .ok (.aload_n 0, 1) := by decide +kernel
theorem dX11_joinedAt_19 : decode cX11_joinedAt 19 = .ok (.getfield 68, 3) := by decide +kernel
theorem dX11_joinedAt_22 : decode cX11_joinedAt 22 = .ok (.aload_n 0, 1) := by decide +kernel
theorem dX11_joinedAt_23 : decode cX11_joinedAt 23 = .ok (.getfield 12, 3) := by decide +kernel
theorem dX11_joinedAt_26 : decode cX11_joinedAt 26 = .ok (.iload_n 1, 1) := by decide +kernel
theorem dX11_joinedAt_27 : decode cX11_joinedAt 27 = .ok (.iload_n 2, 1) := by decide +kernel
theorem dX11_joinedAt_28 : decode cX11_joinedAt 28 = .ok (.invokevirtual 329, 3) := by decide +kernel
theorem dX11_joinedAt_31 : decode cX11_joinedAt 31 = .ok (.aload_n 0, 1) := by decide +kernel
theorem dX11_joinedAt_32 : decode cX11_joinedAt 32 = .ok (.getfield 68, 3) := by decide +kernel
theorem dX11_joinedAt_35 : decode cX11_joinedAt 35 = .ok (.getfield 337, 3) := by decide +kernel
theorem dX11_joinedAt_38 : decode cX11_joinedAt 38 = .ok (.ireturn, 1) := by decide +kernel
theorem dX11_centreDistance_0 : decode cX11_centreDistance 0 = .ok (.iload_n 1, 1) := by decide +kernel
theorem dX11_centreDistance_1 : decode cX11_centreDistance 1 = .ok (.iconst 1, 1) := by decide +kernel
theorem dX11_centreDistance_2 : decode cX11_centreDistance 2 = .ok (.iconst 4, 1) := by decide +kernel
theorem dX11_centreDistance_3 : decode cX11_centreDistance 3 = .ok (.invokestatic 129, 3) := by decide +kernel
theorem dX11_centreDistance_6 : decode cX11_centreDistance 6 = .ok (.aload_n 0, 1) := by decide +kernel
theorem dX11_centreDistance_7 : decode cX11_centreDistance 7 = .ok (.iload_n 1, 1) := by decide +kernel
theorem dX11_centreDistance_8 : decode cX11_centreDistance 8 = .ok (.invokevirtual 340, 3) := by decide +kernel
theorem dX11_centreDistance_11 : decode cX11_centreDistance 11 = .ok (.aload_n 0, 1) := by decide +kernel
theorem dX11_centreDistance_12 : decode cX11_centreDistance 12 = .ok (.getfield 75, 3) := by decide +kernel
theorem dX11_centreDistance_15 : decode cX11_centreDistance 15 = .ok (.aload_n 0, 1) := by decide +kernel
theorem dX11_centreDistance_16 : decode cX11_centreDistance 16 = .ok (.getfield 12, 3) := by decide +kernel
theorem dX11_centreDistance_19 : decode cX11_centreDistance 19 = .ok (.iload_n 1, 1) := by decide +kernel
theorem dX11_centreDistance_20 : decode cX11_centreDistance 20 = .ok (.invokevirtual 343, 3) := by decide +kernel
theorem dX11_centreDistance_23 : decode cX11_centreDistance 23 = .ok (.aload_n 0, 1) := by decide +kernel
theorem dX11_centreDistance_24 : decode cX11_centreDistance 24 = .ok (.getfield 75, 3) := by decide +kernel
theorem dX11_centreDistance_27 : decode cX11_centreDistance 27 = .ok (.getfield 347, 3) := by decide +kernel
theorem dX11_centreDistance_30 : decode cX11_centreDistance 30 = .ok (.ireturn, 1) := by decide +kernel
theorem dX11_centre_0 : decode cX11_centre 0 = .ok (.iload_n 1, 1) := by decide +kernel
theorem dX11_centre_1 : decode cX11_centre 1 = .ok (.iconst 1, 1) := by decide +kernel
theorem dX11_centre_2 : decode cX11_centre 2 = .ok (.iconst 4, 1) := by decide +kernel
theorem dX11_centre_3 : decode cX11_centre 3 = .ok (.invokestatic 129, 3) := by decide +kernel
theorem dX11_centre_6 : decode cX11_centre 6 = .ok (.iload_n 2, 1) := by decide +kernel
theorem dX11_centre_7 : decode cX11_centre 7 = .ok (.iconst 0, 1) := by decide +kernel
theorem dX11_centre_8 : decode cX11_centre 8 = .ok (.iload_n 1, 1) := by decide +kernel
theorem dX11_centre_9 : decode cX11_centre 9 = .ok (.iconst 1, 1) := by decide +kernel
theorem dX11_centre_10 : decode cX11_centre 10 = .ok (.isub, 1) := by decide +kernel
theorem dX11_centre_11 : decode cX11_centre 11 = .ok (.invokestatic 129, 3) := by decide +kernel
theorem dX11_centre_14 : decode cX11_centre 14 = .ok (.aload_n 0, 1) := by decide +kernel
theorem dX11_centre_15 : decode cX11_centre 15 = .ok (.iload_n 1, 1) := by decide +kernel
theorem dX11_centre_16 : decode cX11_centre 16 = .ok (.invokevirtual 340, 3) := by decide +kernel
theorem dX11_centre_19 : decode cX11_centre 19 = .ok (.aload_n 0, 1) := by decide +kernel
theorem dX11_centre_20 : decode cX11_centre 20 = .ok (.getfield 75, 3) := by decide +kernel
theorem dX11_centre_23 : decode cX11_centre 23 = .ok (.aload_n 0, 1) := by decide +kernel
theorem dX11_centre_24 : decode cX11_centre 24 = .ok (.getfield 12, 3) := by decide +kernel
theorem dX11_centre_27 : decode cX11_centre 27 = .ok (.iload_n 1, 1) := by decide +kernel
theorem dX11_centre_28 : decode cX11_centre 28 = .ok (.invokevirtual 343, 3) := by decide +kernel
theorem dX11_centre_31 : decode cX11_centre 31 = .ok (.aload_n 0, 1) := by decide +kernel
theorem dX11_centre_32 : decode cX11_centre 32 = .ok (.getfield 75, 3) := by decide +kernel
theorem dX11_centre_35 : decode cX11_centre 35 = .ok (.iload_n 2, 1) := by decide +kernel
theorem dX11_centre_36 : decode cX11_centre 36 = .ok (.invokevirtual 350, 3) := by decide +kernel
theorem dX11_centre_39 : decode cX11_centre 39 = .ok (.ireturn, 1) := by decide +kernel
theorem dX11_countDiscs_0 : decode cX11_countDiscs 0 = .ok (.iload_n 1, 1) := by decide +kernel
theorem dX11_countDiscs_1 : decode cX11_countDiscs 1 = .ok (.iconst 0, 1) := by decide +kernel
theorem dX11_countDiscs_2 : decode cX11_countDiscs 2 = .ok (.ldc 252, 2) := by decide +kernel
theorem dX11_countDiscs_4 : decode cX11_countDiscs 4 = .ok (.invokestatic 129, 3) := by decide +kernel
theorem dX11_countDiscs_7 : decode cX11_countDiscs 7 = .ok (.iconst 0, 1) := by decide +kernel
theorem dX11_countDiscs_8 : decode cX11_countDiscs 8 = .ok (.istore_n 2, 1) := by decide +kernel
theorem dX11_countDiscs_9 : decode cX11_countDiscs 9 = .ok (.iload_n 2, 1) := by decide +kernel
theorem dX11_countDiscs_10 : decode cX11_countDiscs 10 = .ok (.bipush 12, 2) := by decide +kernel
theorem dX11_countDiscs_12 : decode cX11_countDiscs 12 = .ok (.if_icmp .ge 39, 3) := by decide +kernel
theorem dX11_countDiscs_15 : decode cX11_countDiscs 15 = .ok (.aload_n 0, 1) := by decide +kernel
theorem dX11_countDiscs_16 : decode cX11_countDiscs 16 = .ok (.getfield 61, 3) := by decide +kernel
theorem dX11_countDiscs_19 : decode cX11_countDiscs 19 = .ok (.getfield 294, 3) := by decide +kernel
theorem dX11_countDiscs_22 : decode cX11_countDiscs 22 = .ok (.iload_n 2, 1) := by decide +kernel
theorem dX11_countDiscs_23 : decode cX11_countDiscs 23 = .ok (.aload_n 0, 1) := by decide +kernel
theorem dX11_countDiscs_24 : decode cX11_countDiscs 24 = .ok (.getfield 12, 3) := by decide +kernel
theorem dX11_countDiscs_27 : decode cX11_countDiscs 27 = .ok (.iload_n 2, 1) := by decide +kernel
theorem dX11_countDiscs_28 : decode cX11_countDiscs 28 = .ok (.invokevirtual 160, 3) := by decide +kernel
theorem dX11_countDiscs_31 : decode cX11_countDiscs 31 = .ok (.ifCond .eq 12, 3) := by decide +kernel
theorem dX11_countDiscs_34 : decode cX11_countDiscs 34 = .ok (.aload_n 0, 1) := by decide +kernel
theorem dX11_countDiscs_35 : decode cX11_countDiscs 35 = .ok (.iload_n 2, 1) := by decide +kernel
theorem dX11_countDiscs_36 : decode cX11_countDiscs 36 = .ok (.iload_n 1, 1) := by decide +kernel
theorem dX11_countDiscs_37 : decode cX11_countDiscs 37 = .ok (.invokevirtual 353, 3) := by decide +kernel
theorem dX11_countDiscs_40 : decode cX11_countDiscs 40 = .ok (.goto 4, 3) := by decide +kernel
theorem dX11_countDiscs_43 : decode cX11_countDiscs 43 = .ok (.iconst 0, 1) := by decide +kernel
theorem dX11_countDiscs_44 : decode cX11_countDiscs 44 = .ok (.iastore, 1) := by decide +kernel
theorem dX11_countDiscs_45 : decode cX11_countDiscs 45 = .ok (.iinc 2 1, 3) := by decide +kernel
theorem dX11_countDiscs_48 : decode cX11_countDiscs 48 = .ok (.goto (-39), 3) := by decide +kernel
theorem dX11_countDiscs_51 : decode cX11_countDiscs 51 = .ok (.aload_n 0, 1) := by decide +kernel
theorem dX11_countDiscs_52 : decode cX11_countDiscs 52 = .ok (.getfield 61, 3) := by decide +kernel
theorem dX11_countDiscs_55 : decode cX11_countDiscs 55 = .ok (.aload_n 0, 1) := by decide +kernel
theorem dX11_countDiscs_56 : decode cX11_countDiscs 56 = .ok (.getfield 12, 3) := by decide +kernel
theorem dX11_countDiscs_59 : decode cX11_countDiscs 59 = .ok (.getfield 297, 3) := by decide +kernel
theorem dX11_countDiscs_62 : decode cX11_countDiscs 62 = .ok (.invokevirtual 300, 3) := by decide +kernel
theorem dX11_countDiscs_65 : decode cX11_countDiscs 65 = .ok (.ireturn, 1) := by decide +kernel
theorem dX11_getHullShare_0 : decode cX11_getHullShare 0 = .ok (.aload_n 0, 1) := by decide +kernel
theorem dX11_getHullShare_1 : decode cX11_getHullShare 1 = .ok (.getfield 12, 3) := by decide +kernel
theorem dX11_getHullShare_4 : decode cX11_getHullShare 4 = .ok (.invokevirtual 117, 3) := by decide +kernel
theorem dX11_getHullShare_7 : decode cX11_getHullShare 7 = .ok (.istore_n 1, 1) := by decide +kernel
theorem dX11_getHullShare_8 : decode cX11_getHullShare 8 = .ok (.iload_n 1, 1) := by decide +kernel
theorem dX11_getHullShare_9 : decode cX11_getHullShare 9 = .ok (.ifCond .ne 14, 3) := by decide +kernel
theorem dX11_getHullShare_12 : decode cX11_getHullShare 12 = .ok (.new 356, 3) := by decide +kernel
theorem dX11_getHullShare_15 : decode cX11_getHullShare 15 = .ok (.dup, 1) := by decide +kernel
theorem dX11_getHullShare_16 : decode cX11_getHullShare 16 = .ok (.ldc_w 358, 3) := by decide +kernel
theorem dX11_getHullShare_19 : decode cX11_getHullShare 19 = .ok (.invokespecial 360, 3) := by decide +kernel
theorem dX11_getHullShare_22 : decode cX11_getHullShare 22 = .ok (.athrow, 1) := by decide +kernel
theorem dX11_getHullShare_23 : decode cX11_getHullShare 23 = .ok (.aload_n 0, 1) := by decide +kernel
theorem dX11_getHullShare_24 : decode cX11_getHullShare 24 = .ok (.getfield 40, 3) := by decide +kernel
theorem dX11_getHullShare_27 : decode cX11_getHullShare 27 = .ok (.aload_n 0, 1) := by decide +kernel
theorem dX11_getHullShare_28 : decode cX11_getHullShare 28 = .ok (.getfield 12, 3) := by decide +kernel
theorem dX11_getHullShare_31 : decode cX11_getHullShare 31 = .ok (.invokevirtual 234, 3) := by decide +kernel
theorem dX11_getHullShare_34 : decode cX11_getHullShare 34 = .ok (.aload_n 0, 1) := by decide +kernel
theorem dX11_getHullShare_35 : decode cX11_getHullShare 35 = .ok (.getfield 40, 3) := by decide +kernel
theorem dX11_getHullShare_38 : decode cX11_getHullShare 38 = .ok (.getfield 235, 3) := by decide +kernel
theorem dX11_getHullShare_41 : decode cX11_getHullShare 41 = .ok (.i2f, 1) := by decide +kernel
theorem dX11_getHullShare_42 : decode cX11_getHullShare 42 = .ok (.iload_n 1, 1) := by decide +kernel
theorem dX11_getHullShare_43 : decode cX11_getHullShare 43 = .ok (.i2f, 1) := by decide +kernel
theorem dX11_getHullShare_44 : decode cX11_getHullShare 44 = .ok (.fdiv, 1) := by decide +kernel
theorem dX11_getHullShare_45 : decode cX11_getHullShare 45 = .ok (.freturn, 1) := by decide +kernel
theorem dX11_getMeanNeighbours_0 : decode cX11_getMeanNeighbours 0 = .ok (.aload_n 0, 1) := by decide +kernel
theorem dX11_getMeanNeighbours_1 : decode cX11_getMeanNeighbours 1 = .ok (.getfield 12, 3) := by decide +kernel
theorem dX11_getMeanNeighbours_4 : decode cX11_getMeanNeighbours 4 = .ok (.invokevirtual 117, 3) := by decide +kernel
theorem dX11_getMeanNeighbours_7 : decode cX11_getMeanNeighbours 7 = .ok (.istore_n 1, 1) := by decide +kernel
theorem dX11_getMeanNeighbours_8 : decode cX11_getMeanNeighbours 8 = .ok (.iload_n 1, 1) := by decide +kernel
theorem dX11_getMeanNeighbours_9 : decode cX11_getMeanNeighbours 9 = .ok (.ifCond .ne 14, 3) := by decide +kernel
theorem dX11_getMeanNeighbours_12 : decode cX11_getMeanNeighbours 12 = .ok (.new 356, 3) := by decide +kernel
theorem dX11_getMeanNeighbours_15 : decode cX11_getMeanNeighbours 15 = .ok (.dup, 1) := by decide +kernel
theorem dX11_getMeanNeighbours_16 : decode cX11_getMeanNeighbours 16 = .ok (.ldc_w 358, 3) := by decide +kernel
theorem dX11_getMeanNeighbours_19 : decode cX11_getMeanNeighbours 19 = .ok (.invokespecial 360, 3) := by decide +kernel
theorem dX11_getMeanNeighbours_22 : decode cX11_getMeanNeighbours 22 = .ok (.athrow, 1) := by decide +kernel
theorem dX11_getMeanNeighbours_23 : decode cX11_getMeanNeighbours 23 = .ok (.aload_n 0, 1) := by decide +kernel
theorem dX11_getMeanNeighbours_24 : decode cX11_getMeanNeighbours 24 = .ok (.getfield 26, 3) := by decide +kernel
theorem dX11_getMeanNeighbours_27 : decode cX11_getMeanNeighbours 27 = .ok (.aload_n 0, 1) := by decide +kernel
theorem dX11_getMeanNeighbours_28 : decode cX11_getMeanNeighbours 28 = .ok (.getfield 12, 3) := by decide +kernel
theorem dX11_getMeanNeighbours_31 : decode cX11_getMeanNeighbours 31 = .ok (.invokevirtual 187, 3) := by decide +kernel
theorem dX11_getMeanNeighbours_34 : decode cX11_getMeanNeighbours 34 = .ok (.iconst 2, 1) := by decide +kernel
theorem dX11_getMeanNeighbours_35 : decode cX11_getMeanNeighbours 35 = .ok (.aload_n 0, 1) := by decide +kernel
theorem dX11_getMeanNeighbours_36 : decode cX11_getMeanNeighbours 36 = .ok (.getfield 26, 3) := by decide +kernel
theorem dX11_getMeanNeighbours_39 : decode cX11_getMeanNeighbours 39 = .ok (.invokevirtual 361, 3) := by decide +kernel
theorem dX11_getMeanNeighbours_42 : decode cX11_getMeanNeighbours 42 = .ok (.imul, 1) := by decide +kernel
theorem dX11_getMeanNeighbours_43 : decode cX11_getMeanNeighbours 43 = .ok (.i2d, 1) := by decide +kernel
theorem dX11_getMeanNeighbours_44 : decode cX11_getMeanNeighbours 44 = .ok (.iload_n 1, 1) := by decide +kernel
theorem dX11_getMeanNeighbours_45 : decode cX11_getMeanNeighbours 45 = .ok (.i2d, 1) := by decide +kernel
theorem dX11_getMeanNeighbours_46 : decode cX11_getMeanNeighbours 46 = .ok (.ddiv, 1) := by decide +kernel
theorem dX11_getMeanNeighbours_47 : decode cX11_getMeanNeighbours 47 = .ok (.dreturn, 1) := by decide +kernel
theorem dX11_checksum_0 : decode cX11_checksum 0 = .ok (.ldc2_w 363, 3) := by decide +kernel
theorem dX11_checksum_3 : decode cX11_checksum 3 = .ok (.lstore_n 1, 1) := by decide +kernel
theorem dX11_checksum_4 : decode cX11_checksum 4 = .ok (.iconst 0, 1) := by decide +kernel
theorem dX11_checksum_5 : decode cX11_checksum 5 = .ok (.istore_n 3, 1) := by decide +kernel
theorem dX11_checksum_6 : decode cX11_checksum 6 = .ok (.iload_n 3, 1) := by decide +kernel
theorem dX11_checksum_7 : decode cX11_checksum 7 = .ok (.bipush 12, 2) := by decide +kernel
theorem dX11_checksum_9 : decode cX11_checksum 9 = .ok (.if_icmp .ge 80, 3) := by decide +kernel
theorem dX11_checksum_12 : decode cX11_checksum 12 = .ok (.aload_n 0, 1) := by decide +kernel
theorem dX11_checksum_13 : decode cX11_checksum 13 = .ok (.getfield 12, 3) := by decide +kernel
theorem dX11_checksum_16 : decode cX11_checksum 16 = .ok (.iload_n 3, 1) := by decide +kernel
theorem dX11_checksum_17 : decode cX11_checksum 17 = .ok (.invokevirtual 160, 3) := by decide +kernel
theorem dX11_checksum_20 : decode cX11_checksum 20 = .ok (.ifCond .eq 63, 3) := by decide +kernel
theorem dX11_checksum_23 : decode cX11_checksum 23 = .ok (.ldc2_w 365, 3) := by decide +kernel
theorem dX11_checksum_26 : decode cX11_checksum 26 = .ok (.lload_n 1, 1) := by decide +kernel
theorem dX11_checksum_27 : decode cX11_checksum 27 = .ok (.lmul, 1) := by decide +kernel
theorem dX11_checksum_28 : decode cX11_checksum 28 = .ok (.iload_n 3, 1) := by decide +kernel
theorem dX11_checksum_29 : decode cX11_checksum 29 = .ok (.i2l, 1) := by decide +kernel
theorem dX11_checksum_30 : decode cX11_checksum 30 = .ok (.ladd, 1) := by decide +kernel
theorem dX11_checksum_31 : decode cX11_checksum 31 = .ok (.lstore_n 1, 1) := by decide +kernel
theorem dX11_checksum_32 : decode cX11_checksum 32 = .ok (.ldc2_w 365, 3) := by decide +kernel
theorem dX11_checksum_35 : decode cX11_checksum 35 = .ok (.lload_n 1, 1) := by decide +kernel
theorem dX11_checksum_36 : decode cX11_checksum 36 = .ok (.lmul, 1) := by decide +kernel
theorem dX11_checksum_37 : decode cX11_checksum 37 = .ok (.aload_n 0, 1) := by decide +kernel
theorem dX11_checksum_38 : decode cX11_checksum 38 = .ok (.getfield 12, 3) := by decide +kernel
theorem dX11_checksum_41 : decode cX11_checksum 41 = .ok (.getfield 281, 3) := by decide +kernel
theorem dX11_checksum_44 : decode cX11_checksum 44 = .ok (.iload_n 3, 1) := by decide +kernel
theorem dX11_checksum_45 : decode cX11_checksum 45 = .ok (.iaload, 1) := by decide +kernel
theorem dX11_checksum_46 : decode cX11_checksum 46 = .ok (.i2l, 1) := by decide +kernel
theorem dX11_checksum_47 : decode cX11_checksum 47 = .ok (.ladd, 1) := by decide +kernel
theorem dX11_checksum_48 : decode cX11_checksum 48 = .ok (.lstore_n 1, 1) := by decide +kernel
theorem dX11_checksum_49 : decode cX11_checksum 49 = .ok (.ldc2_w 365, 3) := by decide +kernel
theorem dX11_checksum_52 : decode cX11_checksum 52 = .ok (.lload_n 1, 1) := by decide +kernel
theorem dX11_checksum_53 : decode cX11_checksum 53 = .ok (.lmul, 1) := by decide +kernel
theorem dX11_checksum_54 : decode cX11_checksum 54 = .ok (.aload_n 0, 1) := by decide +kernel
theorem dX11_checksum_55 : decode cX11_checksum 55 = .ok (.getfield 12, 3) := by decide +kernel
theorem dX11_checksum_58 : decode cX11_checksum 58 = .ok (.getfield 284, 3) := by decide +kernel
theorem dX11_checksum_61 : decode cX11_checksum 61 = .ok (.iload_n 3, 1) := by decide +kernel
theorem dX11_checksum_62 : decode cX11_checksum 62 = .ok (.iaload, 1) := by decide +kernel
theorem dX11_checksum_63 : decode cX11_checksum 63 = .ok (.i2l, 1) := by decide +kernel
theorem dX11_checksum_64 : decode cX11_checksum 64 = .ok (.ladd, 1) := by decide +kernel
theorem dX11_checksum_65 : decode cX11_checksum 65 = .ok (.lstore_n 1, 1) := by decide +kernel
theorem dX11_checksum_66 : decode cX11_checksum 66 = .ok (.ldc2_w 365, 3) := by decide +kernel
theorem dX11_checksum_69 : decode cX11_checksum 69 = .ok (.lload_n 1, 1) := by decide +kernel
theorem dX11_checksum_70 : decode cX11_checksum 70 = .ok (.lmul, 1) := by decide +kernel
theorem dX11_checksum_71 : decode cX11_checksum 71 = .ok (.aload_n 0, 1) := by decide +kernel
theorem dX11_checksum_72 : decode cX11_checksum 72 = .ok (.getfield 12, 3) := by decide +kernel
theorem dX11_checksum_75 : decode cX11_checksum 75 = .ok (.getfield 132, 3) := by decide +kernel
theorem dX11_checksum_78 : decode cX11_checksum 78 = .ok (.iload_n 3, 1) := by decide +kernel
theorem dX11_checksum_79 : decode cX11_checksum 79 = .ok (.iaload, 1) := by decide +kernel
theorem dX11_checksum_80 : decode cX11_checksum 80 = .ok (.i2l, 1) := by decide +kernel
theorem dX11_checksum_81 : decode cX11_checksum 81 = .ok (.ladd, 1) := by decide +kernel
theorem dX11_checksum_82 : decode cX11_checksum 82 = .ok (.lstore_n 1, 1) := by decide +kernel
theorem dX11_checksum_83 : decode cX11_checksum 83 = .ok (.iinc 3 1, 3) := by decide +kernel
theorem dX11_checksum_86 : decode cX11_checksum 86 = .ok (.goto (-80), 3) := by decide +kernel
theorem dX11_checksum_89 : decode cX11_checksum 89 = .ok (.aload_n 0, 1) := by decide +kernel
theorem dX11_checksum_90 : decode cX11_checksum 90 = .ok (.getfield 26, 3) := by decide +kernel
theorem dX11_checksum_93 : decode cX11_checksum 93 = .ok (.aload_n 0, 1) := by decide +kernel
theorem dX11_checksum_94 : decode cX11_checksum 94 = .ok (.getfield 12, 3) := by decide +kernel
theorem dX11_checksum_97 : decode cX11_checksum 97 = .ok (.invokevirtual 187, 3) := by decide +kernel
theorem dX11_checksum_100 : decode cX11_checksum 100 = .ok (.ldc2_w 365, 3) := by decide +kernel
theorem dX11_checksum_103 : decode cX11_checksum 103 = .ok (.lload_n 1, 1) := by decide +kernel
theorem dX11_checksum_104 : decode cX11_checksum 104 = .ok (.lmul, 1) := by decide +kernel
theorem dX11_checksum_105 : decode cX11_checksum 105 = .ok (.aload_n 0, 1) := by decide +kernel
theorem dX11_checksum_106 : decode cX11_checksum 106 = .ok (.getfield 54, 3) := by decide +kernel
theorem dX11_checksum_109 : decode cX11_checksum 109 = .ok (.getfield 272, 3) := by decide +kernel
theorem dX11_checksum_112 : decode cX11_checksum 112 = .ok (.i2l, 1) := by decide +kernel
theorem dX11_checksum_113 : decode cX11_checksum 113 = .ok (.ladd, 1) := by decide +kernel
theorem dX11_checksum_114 : decode cX11_checksum 114 = .ok (.lstore_n 1, 1) := by decide +kernel
theorem dX11_checksum_115 : decode cX11_checksum 115 = .ok (.ldc2_w 365, 3) := by decide +kernel
theorem dX11_checksum_118 : decode cX11_checksum 118 = .ok (.lload_n 1, 1) := by decide +kernel
theorem dX11_checksum_119 : decode cX11_checksum 119 = .ok (.lmul, 1) := by decide +kernel
theorem dX11_checksum_120 : decode cX11_checksum 120 = .ok (.aload_n 0, 1) := by decide +kernel
theorem dX11_checksum_121 : decode cX11_checksum 121 = .ok (.getfield 26, 3) := by decide +kernel
theorem dX11_checksum_124 : decode cX11_checksum 124 = .ok (.getfield 190, 3) := by decide +kernel
theorem dX11_checksum_127 : decode cX11_checksum 127 = .ok (.i2l, 1) := by decide +kernel
theorem dX11_checksum_128 : decode cX11_checksum 128 = .ok (.ladd, 1) := by decide +kernel
theorem dX11_checksum_129 : decode cX11_checksum 129 = .ok (.lreturn, 1) := by decide +kernel
theorem dX11_isSound_0 : decode cX11_isSound 0 = .ok (.aload_n 0, 1) := by decide +kernel
theorem dX11_isSound_1 : decode cX11_isSound 1 = .ok (.getfield 26, 3) := by decide +kernel
theorem dX11_isSound_4 : decode cX11_isSound 4 = .ok (.aload_n 0, 1) := by decide +kernel
theorem dX11_isSound_5 : decode cX11_isSound 5 = .ok (.getfield 12, 3) := by decide +kernel
theorem dX11_isSound_8 : decode cX11_isSound 8 = .ok (.invokevirtual 187, 3) := by decide +kernel
theorem dX11_isSound_11 : decode cX11_isSound 11 = .ok (.aload_n 0, 1) := by decide +kernel
theorem dX11_isSound_12 : decode cX11_isSound 12 = .ok (.getfield 33, 3) := by decide +kernel
theorem dX11_isSound_15 : decode cX11_isSound 15 = .ok (.aload_n 0, 1) := by decide +kernel
theorem dX11_isSound_16 : decode cX11_isSound 16 = .ok (.getfield 12, 3) := by decide +kernel
theorem dX11_isSound_19 : decode cX11_isSound 19 = .ok (.invokevirtual 215, 3) := by decide +kernel
theorem dX11_isSound_22 : decode cX11_isSound 22 = .ok (.aload_n 0, 1) := by decide +kernel
theorem dX11_isSound_23 : decode cX11_isSound 23 = .ok (.invokevirtual 367, 3) := by decide +kernel
theorem dX11_isSound_26 : decode cX11_isSound 26 = .ok (.ifCond .eq 28, 3) := by decide +kernel
theorem dX11_isSound_29 : decode cX11_isSound 29 = .ok (.aload_n 0, 1) := by decide +kernel
theorem dX11_isSound_30 : decode cX11_isSound 30 = .ok (.invokevirtual 371, 3) := by decide +kernel
theorem dX11_isSound_33 : decode cX11_isSound 33 = .ok (.ifCond .eq 21, 3) := by decide +kernel
theorem dX11_isSound_36 : decode cX11_isSound 36 = .ok (.aload_n 0, 1) := by decide +kernel
theorem dX11_isSound_37 : decode cX11_isSound 37 = .ok (.invokevirtual 374, 3) := by decide +kernel
theorem dX11_isSound_40 : decode cX11_isSound 40 = .ok (.ifCond .eq 14, 3) := by decide +kernel
theorem dX11_isSound_43 : decode cX11_isSound 43 = .ok (.aload_n 0, 1) := by decide +kernel
theorem dX11_isSound_44 : decode cX11_isSound 44 = .ok (.invokevirtual 377, 3) := by decide +kernel
theorem dX11_isSound_47 : decode cX11_isSound 47 = .ok (.ifCond .eq 7, 3) := by decide +kernel
theorem dX11_isSound_50 : decode cX11_isSound 50 = .ok (.iconst 1, 1) := by decide +kernel
theorem dX11_isSound_51 : decode cX11_isSound 51 = .ok (.goto 4, 3) := by decide +kernel
theorem dX11_isSound_54 : decode cX11_isSound 54 = .ok (.iconst 0, 1) := by decide +kernel
theorem dX11_isSound_55 : decode cX11_isSound 55 = .ok (.ireturn, 1) := by decide +kernel
theorem dX11_needPoint_0 : decode cX11_needPoint 0 = .ok (.aload_n 0, 1) := by decide +kernel
theorem dX11_needPoint_1 : decode cX11_needPoint 1 = .ok (.getfield 12, 3) := by decide +kernel
theorem dX11_needPoint_4 : decode cX11_needPoint 4 = .ok (.iload_n 1, 1) := by decide +kernel
theorem dX11_needPoint_5 : decode cX11_needPoint 5 = .ok (.invokevirtual 160, 3) := by decide +kernel
theorem dX11_needPoint_8 : decode cX11_needPoint 8 = .ok (.ifCond .ne 14, 3) := by decide +kernel
theorem dX11_needPoint_11 : decode cX11_needPoint 11 = .ok (.new 380, 3) := by decide +kernel
theorem dX11_needPoint_14 : decode cX11_needPoint 14 = .ok (.dup, 1) := by decide +kernel
theorem dX11_needPoint_15 : decode cX11_needPoint 15 = .ok (.ldc_w 382, 3) := by decide +kernel
theorem dX11_needPoint_18 : decode cX11_needPoint 18 = .ok (.invokespecial 384, 3) := by decide +kernel
theorem dX11_needPoint_21 : decode cX11_needPoint 21 = .ok (.athrow, 1) := by decide +kernel
theorem dX11_needPoint_22 : decode cX11_needPoint 22 = .ok (.return_, 1) := by decide +kernel
theorem dX11_needRange_0 : decode cX11_needRange 0 = .ok (.iload_n 0, 1) := by decide +kernel
theorem dX11_needRange_1 : decode cX11_needRange 1 = .ok (.iload_n 1, 1) := by decide +kernel
theorem dX11_needRange_2 : decode cX11_needRange 2 = .ok (.if_icmp .lt 8, 3) := by decide +kernel
theorem dX11_needRange_5 : decode cX11_needRange 5 = .ok (.iload_n 0, 1) := by decide +kernel
theorem dX11_needRange_6 : decode cX11_needRange 6 = .ok (.iload_n 2, 1) := by decide +kernel
theorem dX11_needRange_7 : decode cX11_needRange 7 = .ok (.if_icmp .le 14, 3) := by decide +kernel
theorem dX11_needRange_10 : decode cX11_needRange 10 = .ok (.new 210, 3) := by decide +kernel
theorem dX11_needRange_13 : decode cX11_needRange 13 = .ok (.dup, 1) := by decide +kernel
theorem dX11_needRange_14 : decode cX11_needRange 14 = .ok (.ldc_w 385, 3) := by decide +kernel
theorem dX11_needRange_17 : decode cX11_needRange 17 = .ok (.invokespecial 214, 3) := by decide +kernel
theorem dX11_needRange_20 : decode cX11_needRange 20 = .ok (.athrow, 1) := by decide +kernel
theorem dX11_needRange_21 : decode cX11_needRange 21 = .ok (.return_, 1) := by decide +kernel
theorem dX11_needBoth_0 : decode cX11_needBoth 0 = .ok (.iload_n 0, 1) := by decide +kernel
theorem dX11_needBoth_1 : decode cX11_needBoth 1 = .ok (.iload_n 2, 1) := by decide +kernel
theorem dX11_needBoth_2 : decode cX11_needBoth 2 = .ok (.ineg, 1) := by decide +kernel
theorem dX11_needBoth_3 : decode cX11_needBoth 3 = .ok (.iload_n 2, 1) := by decide +kernel
theorem dX11_needBoth_4 : decode cX11_needBoth 4 = .ok (.invokestatic 129, 3) := by decide +kernel
theorem dX11_needBoth_7 : decode cX11_needBoth 7 = .ok (.iload_n 1, 1) := by decide +kernel
theorem dX11_needBoth_8 : decode cX11_needBoth 8 = .ok (.iload_n 2, 1) := by decide +kernel
theorem dX11_needBoth_9 : decode cX11_needBoth 9 = .ok (.ineg, 1) := by decide +kernel
theorem dX11_needBoth_10 : decode cX11_needBoth 10 = .ok (.iload_n 2, 1) := by decide +kernel
theorem dX11_needBoth_11 : decode cX11_needBoth 11 = .ok (.invokestatic 129, 3) := by decide +kernel
theorem dX11_needBoth_14 : decode cX11_needBoth 14 = .ok (.return_, 1) := by decide +kernel
theorem dX11_needKind_0 : decode cX11_needKind 0 = .ok (.iload_n 0, 1) := by decide +kernel
theorem dX11_needKind_1 : decode cX11_needKind 1 = .ok (.bipush 101, 2) := by decide +kernel
theorem dX11_needKind_3 : decode cX11_needKind 3 = .ok (.if_icmp .eq 32, 3) := by decide +kernel
theorem dX11_needKind_6 : decode cX11_needKind 6 = .ok (.iload_n 0, 1) := by decide +kernel
theorem dX11_needKind_7 : decode cX11_needKind 7 = .ok (.bipush 115, 2) := by decide +kernel
theorem dX11_needKind_9 : decode cX11_needKind 9 = .ok (.if_icmp .eq 26, 3) := by decide +kernel
theorem dX11_needKind_12 : decode cX11_needKind 12 = .ok (.iload_n 0, 1) := by decide +kernel
theorem dX11_needKind_13 : decode cX11_needKind 13 = .ok (.bipush 109, 2) := by decide +kernel
theorem dX11_needKind_15 : decode cX11_needKind 15 = .ok (.if_icmp .eq 20, 3) := by decide +kernel
theorem dX11_needKind_18 : decode cX11_needKind 18 = .ok (.iload_n 0, 1) := by decide +kernel
theorem dX11_needKind_19 : decode cX11_needKind 19 = .ok (.bipush 112, 2) := by decide +kernel
theorem dX11_needKind_21 : decode cX11_needKind 21 = .ok (.if_icmp .eq 14, 3) := by decide +kernel
theorem dX11_needKind_24 : decode cX11_needKind 24 = .ok (.new 210, 3) := by decide +kernel
theorem dX11_needKind_27 : decode cX11_needKind 27 = .ok (.dup, 1) := by decide +kernel
theorem dX11_needKind_28 : decode cX11_needKind 28 = .ok (.ldc_w 387, 3) := by decide +kernel
theorem dX11_needKind_31 : decode cX11_needKind 31 = .ok (.invokespecial 214, 3) := by decide +kernel
theorem dX11_needKind_34 : decode cX11_needKind 34 = .ok (.athrow, 1) := by decide +kernel
theorem dX11_needKind_35 : decode cX11_needKind 35 = .ok (.return_, 1) := by decide +kernel
theorem dX11_needGraph_0 : decode cX11_needGraph 0 = .ok (.iload_n 0, 1) := by decide +kernel
theorem dX11_needGraph_1 : decode cX11_needGraph 1 = .ok (.bipush 103, 2) := by decide +kernel
theorem dX11_needGraph_3 : decode cX11_needGraph 3 = .ok (.if_icmp .eq 32, 3) := by decide +kernel
theorem dX11_needGraph_6 : decode cX11_needGraph 6 = .ok (.iload_n 0, 1) := by decide +kernel
theorem dX11_needGraph_7 : decode cX11_needGraph 7 = .ok (.bipush 114, 2) := by decide +kernel
theorem dX11_needGraph_9 : decode cX11_needGraph 9 = .ok (.if_icmp .eq 26, 3) := by decide +kernel
theorem dX11_needGraph_12 : decode cX11_needGraph 12 = .ok (.iload_n 0, 1) := by decide +kernel
theorem dX11_needGraph_13 : decode cX11_needGraph 13 = .ok (.bipush 110, 2) := by decide +kernel
theorem dX11_needGraph_15 : decode cX11_needGraph 15 = .ok (.if_icmp .eq 20, 3) := by decide +kernel
theorem dX11_needGraph_18 : decode cX11_needGraph 18 = .ok (.iload_n 0, 1) := by decide +kernel
theorem dX11_needGraph_19 : decode cX11_needGraph 19 = .ok (.bipush 116, 2) := by decide +kernel
theorem dX11_needGraph_21 : decode cX11_needGraph 21 = .ok (.if_icmp .eq 14, 3) := by decide +kernel
theorem dX11_needGraph_24 : decode cX11_needGraph 24 = .ok (.new 210, 3) := by decide +kernel
theorem dX11_needGraph_27 : decode cX11_needGraph 27 = .ok (.dup, 1) := by decide +kernel
theorem dX11_needGraph_28 : decode cX11_needGraph 28 = .ok (.ldc_w 389, 3) := by decide +kernel
theorem dX11_needGraph_31 : decode cX11_needGraph 31 = .ok (.invokespecial 214, 3) := by decide +kernel
theorem dX11_needGraph_34 : decode cX11_needGraph 34 = .ok (.athrow, 1) := by decide +kernel
theorem dX11_needGraph_35 : decode cX11_needGraph 35 = .ok (.return_, 1) := by decide +kernel
theorem dX11_needLaw_0 : decode cX11_needLaw 0 = .ok (.iload_n 0, 1) := by decide +kernel
theorem dX11_needLaw_1 : decode cX11_needLaw 1 = .ok (.bipush 97, 2) := by decide +kernel
theorem dX11_needLaw_3 : decode cX11_needLaw 3 = .ok (.if_icmp .eq 20, 3) := by decide +kernel
theorem dX11_needLaw_6 : decode cX11_needLaw 6 = .ok (.iload_n 0, 1) := by decide +kernel
theorem dX11_needLaw_7 : decode cX11_needLaw 7 = .ok (.bipush 122, 2) := by decide +kernel
theorem dX11_needLaw_9 : decode cX11_needLaw 9 = .ok (.if_icmp .eq 14, 3) := by decide +kernel
theorem dX11_needLaw_12 : decode cX11_needLaw 12 = .ok (.new 210, 3) := by decide +kernel
theorem dX11_needLaw_15 : decode cX11_needLaw 15 = .ok (.dup, 1) := by decide +kernel
theorem dX11_needLaw_16 : decode cX11_needLaw 16 = .ok (.ldc_w 391, 3) := by decide +kernel
theorem dX11_needLaw_19 : decode cX11_needLaw 19 = .ok (.invokespecial 214, 3) := by decide +kernel
theorem dX11_needLaw_22 : decode cX11_needLaw 22 = .ok (.athrow, 1) := by decide +kernel
theorem dX11_needLaw_23 : decode cX11_needLaw 23 = .ok (.return_, 1) := by decide +kernel
theorem dX11_needSomePoint_0 : decode cX11_needSomePoint 0 = .ok (.aload_n 0, 1) := by decide +kernel
theorem dX11_needSomePoint_1 : decode cX11_needSomePoint 1 = .ok (.getfield 12, 3) := by decide +kernel
theorem dX11_needSomePoint_4 : decode cX11_needSomePoint 4 = .ok (.getfield 297, 3) := by decide +kernel
theorem dX11_needSomePoint_7 : decode cX11_needSomePoint 7 = .ok (.ifCond .ne 14, 3) := by decide +kernel
theorem dX11_needSomePoint_10 : decode cX11_needSomePoint 10 = .ok (.new 136, 3) := by decide +kernel
theorem dX11_needSomePoint_13 : decode cX11_needSomePoint 13 = .ok (.dup, 1) := by decide +kernel
theorem dX11_needSomePoint_14 : decode cX11_needSomePoint 14 = .ok (.ldc_w 358, 3) := by decide +kernel
theorem dX11_needSomePoint_17 : decode cX11_needSomePoint 17 = .ok (.invokespecial 140, 3) := by decide +kernel
theorem dX11_needSomePoint_20 : decode cX11_needSomePoint 20 = .ok (.athrow, 1) := by decide +kernel
theorem dX11_needSomePoint_21 : decode cX11_needSomePoint 21 = .ok (.return_, 1) := by decide +kernel
theorem dX11_needSoMany_0 : decode cX11_needSoMany 0 = .ok (.aload_n 0, 1) := by decide +kernel
theorem dX11_needSoMany_1 : decode cX11_needSoMany 1 = .ok (.getfield 12, 3) := by decide +kernel
theorem dX11_needSoMany_4 : decode cX11_needSoMany 4 = .ok (.invokevirtual 117, 3) := by decide +kernel
theorem dX11_needSoMany_7 : decode cX11_needSoMany 7 = .ok (.iload_n 1, 1) := by decide +kernel
theorem dX11_needSoMany_8 : decode cX11_needSoMany 8 = .ok (.if_icmp .ge 14, 3) := by decide +kernel
theorem dX11_needSoMany_11 : decode cX11_needSoMany 11 = .ok (.new 136, 3) := by decide +kernel
theorem dX11_needSoMany_14 : decode cX11_needSoMany 14 = .ok (.dup, 1) := by decide +kernel
theorem dX11_needSoMany_15 : decode cX11_needSoMany 15 = .ok (.ldc_w 393, 3) := by decide +kernel
theorem dX11_needSoMany_18 : decode cX11_needSoMany 18 = .ok (.invokespecial 140, 3) := by decide +kernel
theorem dX11_needSoMany_21 : decode cX11_needSoMany 21 = .ok (.athrow, 1) := by decide +kernel
theorem dX11_needSoMany_22 : decode cX11_needSoMany 22 = .ok (.return_, 1) := by decide +kernel
theorem dX11_timeOfChange_0 : decode cX11_timeOfChange 0 = .ok (.aload_n 0, 1) := by decide +kernel
theorem dX11_timeOfChange_1 : decode cX11_timeOfChange 1 = .ok (.invokevirtual 153, 3) := by decide +kernel
theorem dX11_timeOfChange_4 : decode cX11_timeOfChange 4 = .ok (.aload_n 0, 1) := by decide +kernel
theorem dX11_timeOfChange_5 : decode cX11_timeOfChange 5 = .ok (.getfield 12, 3) := by decide +kernel
theorem dX11_timeOfChange_8 : decode cX11_timeOfChange 8 = .ok (.iconst 0, 1) := by decide +kernel
theorem dX11_timeOfChange_9 : decode cX11_timeOfChange 9 = .ok (.iload_n 1, 1) := by decide +kernel
theorem dX11_timeOfChange_10 : decode cX11_timeOfChange 10 = .ok (.iload_n 2, 1) := by decide +kernel
theorem dX11_timeOfChange_11 : decode cX11_timeOfChange 11 = .ok (.invokevirtual 323, 3) := by decide +kernel
theorem dX11_timeOfChange_14 : decode cX11_timeOfChange 14 = .ok (.istore_n 3, 1) := by decide +kernel
theorem dX11_timeOfChange_15 : decode cX11_timeOfChange 15 = .ok (.iconst 1, 1) := by decide +kernel
theorem dX11_timeOfChange_16 : decode cX11_timeOfChange 16 = .ok (.istore 4, 2) := by decide +kernel
theorem dX11_timeOfChange_18 : decode cX11_timeOfChange 18 = .ok (.iload 4, 2) := by decide +kernel
theorem dX11_timeOfChange_20 : decode cX11_timeOfChange 20 = .ok (.bipush 99, 2) := by decide +kernel
theorem dX11_timeOfChange_22 : decode cX11_timeOfChange 22 = .ok (.if_icmp .gt 27, 3) := by decide +kernel
theorem dX11_timeOfChange_25 : decode cX11_timeOfChange 25 = .ok (.aload_n 0, 1) := by decide +kernel
theorem dX11_timeOfChange_26 : decode cX11_timeOfChange 26 = .ok (.getfield 12, 3) := by decide +kernel
theorem dX11_timeOfChange_29 : decode cX11_timeOfChange 29 = .ok (.iload 4, 2) := by decide +kernel
theorem dX11_timeOfChange_31 : decode cX11_timeOfChange 31 = .ok (.iload_n 1, 1) := by decide +kernel
theorem dX11_timeOfChange_32 : decode cX11_timeOfChange 32 = .ok (.iload_n 2, 1) := by decide +kernel
theorem dX11_timeOfChange_33 : decode cX11_timeOfChange 33 = .ok (.invokevirtual 323, 3) := by decide +kernel
theorem dX11_timeOfChange_36 : decode cX11_timeOfChange 36 = .ok (.iload_n 3, 1) := by decide +kernel
theorem dX11_timeOfChange_37 : decode cX11_timeOfChange 37 = .ok (.if_icmp .eq 6, 3) := by decide +kernel
theorem dX11_timeOfChange_40 : decode cX11_timeOfChange 40 = .ok (.iload 4, 2) := by decide +kernel
theorem dX11_timeOfChange_42 : decode cX11_timeOfChange 42 = .ok (.ireturn, 1) := by decide +kernel
theorem dX11_timeOfChange_43 : decode cX11_timeOfChange 43 = .ok (.iinc 4 1, 3) := by decide +kernel
theorem dX11_timeOfChange_46 : decode cX11_timeOfChange 46 = .ok (.goto (-28), 3) := by decide +kernel
theorem dX11_timeOfChange_49 : decode cX11_timeOfChange 49 = .ok (.new 136, 3) := by decide +kernel
theorem dX11_timeOfChange_52 : decode cX11_timeOfChange 52 = .ok (.dup, 1) := by decide +kernel
theorem dX11_timeOfChange_53 : decode cX11_timeOfChange 53 = .ok (.ldc_w 395, 3) := by decide +kernel
theorem dX11_timeOfChange_56 : decode cX11_timeOfChange 56 = .ok (.invokespecial 140, 3) := by decide +kernel
theorem dX11_timeOfChange_59 : decode cX11_timeOfChange 59 = .ok (.athrow, 1) := by decide +kernel
theorem dX11_seenFrom_0 : decode cX11_seenFrom 0 = .ok (.iconst 0, 1) := by decide +kernel
theorem dX11_seenFrom_1 : decode cX11_seenFrom 1 = .ok (.istore_n 2, 1) := by decide +kernel
theorem dX11_seenFrom_2 : decode cX11_seenFrom 2 = .ok (.iconst 0, 1) := by decide +kernel
theorem dX11_seenFrom_3 : decode cX11_seenFrom 3 = .ok (.istore_n 3, 1) := by decide +kernel
theorem dX11_seenFrom_4 : decode cX11_seenFrom 4 = .ok (.iload_n 3, 1) := by decide +kernel
theorem dX11_seenFrom_5 : decode cX11_seenFrom 5 = .ok (.bipush 12, 2) := by decide +kernel
theorem dX11_seenFrom_7 : decode cX11_seenFrom 7 = .ok (.if_icmp .ge 72, 3) := by decide +kernel
theorem dX11_seenFrom_10 : decode cX11_seenFrom 10 = .ok (.aload_n 0, 1) := by decide +kernel
theorem dX11_seenFrom_11 : decode cX11_seenFrom 11 = .ok (.getfield 12, 3) := by decide +kernel
theorem dX11_seenFrom_14 : decode cX11_seenFrom 14 = .ok (.iload_n 3, 1) := by decide +kernel
theorem dX11_seenFrom_15 : decode cX11_seenFrom 15 = .ok (.invokevirtual 160, 3) := by decide +kernel
theorem dX11_seenFrom_18 : decode cX11_seenFrom 18 = .ok (.ifCond .eq 55, 3) := by decide +kernel
theorem dX11_seenFrom_21 : decode cX11_seenFrom 21 = .ok (.aload_n 0, 1) := by decide +kernel
theorem dX11_seenFrom_22 : decode cX11_seenFrom 22 = .ok (.getfield 54, 3) := by decide +kernel
theorem dX11_seenFrom_25 : decode cX11_seenFrom 25 = .ok (.aload_n 0, 1) := by decide +kernel
theorem dX11_seenFrom_26 : decode cX11_seenFrom 26 = .ok (.getfield 12, 3) := by decide +kernel
theorem dX11_seenFrom_29 : decode cX11_seenFrom 29 = .ok (.getfield 281, 3) := by decide +kernel
theorem dX11_seenFrom_32 : decode cX11_seenFrom 32 = .ok (.iload_n 1, 1) := by decide +kernel
theorem dX11_seenFrom_33 : decode cX11_seenFrom 33 = .ok (.iaload, 1) := by decide +kernel
theorem dX11_seenFrom_34 : decode cX11_seenFrom 34 = .ok (.aload_n 0, 1) := by decide +kernel
theorem dX11_seenFrom_35 : decode cX11_seenFrom 35 = .ok (.getfield 12, 3) := by decide +kernel
theorem dX11_seenFrom_38 : decode cX11_seenFrom 38 = .ok (.getfield 284, 3) := by decide +kernel
theorem dX11_seenFrom_41 : decode cX11_seenFrom 41 = .ok (.iload_n 1, 1) := by decide +kernel
theorem dX11_seenFrom_42 : decode cX11_seenFrom 42 = .ok (.iaload, 1) := by decide +kernel
theorem dX11_seenFrom_43 : decode cX11_seenFrom 43 = .ok (.aload_n 0, 1) := by decide +kernel
theorem dX11_seenFrom_44 : decode cX11_seenFrom 44 = .ok (.getfield 12, 3) := by decide +kernel
theorem dX11_seenFrom_47 : decode cX11_seenFrom 47 = .ok (.getfield 281, 3) := by decide +kernel
theorem dX11_seenFrom_50 : decode cX11_seenFrom 50 = .ok (.iload_n 3, 1) := by decide +kernel
theorem dX11_seenFrom_51 : decode cX11_seenFrom 51 = .ok (.iaload, 1) := by decide +kernel
theorem dX11_seenFrom_52 : decode cX11_seenFrom 52 = .ok (.aload_n 0, 1) := by decide +kernel
theorem dX11_seenFrom_53 : decode cX11_seenFrom 53 = .ok (.getfield 12, 3) := by decide +kernel
theorem dX11_seenFrom_56 : decode cX11_seenFrom 56 = .ok (.getfield 284, 3) := by decide +kernel
theorem dX11_seenFrom_59 : decode cX11_seenFrom 59 = .ok (.iload_n 3, 1) := by decide +kernel
theorem dX11_seenFrom_60 : decode cX11_seenFrom 60 = .ok (.iaload, 1) := by decide +kernel
theorem dX11_seenFrom_61 : decode cX11_seenFrom 61 = .ok (.invokevirtual 287, 3) := by decide +kernel
theorem dX11_seenFrom_64 : decode cX11_seenFrom 64 = .ok (.ifCond .eq 9, 3) := by decide +kernel
theorem dX11_seenFrom_67 : decode cX11_seenFrom 67 = .ok (.iload_n 2, 1) := by decide +kernel
theorem dX11_seenFrom_68 : decode cX11_seenFrom 68 = .ok (.iconst 1, 1) := by decide +kernel
theorem dX11_seenFrom_69 : decode cX11_seenFrom 69 = .ok (.iload_n 3, 1) := by decide +kernel
theorem dX11_seenFrom_70 : decode cX11_seenFrom 70 = .ok (.ishl, 1) := by decide +kernel
theorem dX11_seenFrom_71 : decode cX11_seenFrom 71 = .ok (.ior, 1) := by decide +kernel
theorem dX11_seenFrom_72 : decode cX11_seenFrom 72 = .ok (.istore_n 2, 1) := by decide +kernel
theorem dX11_seenFrom_73 : decode cX11_seenFrom 73 = .ok (.iinc 3 1, 3) := by decide +kernel
theorem dX11_seenFrom_76 : decode cX11_seenFrom 76 = .ok (.goto (-72), 3) := by decide +kernel
theorem dX11_seenFrom_79 : decode cX11_seenFrom 79 = .ok (.iload_n 2, 1) := by decide +kernel
theorem dX11_seenFrom_80 : decode cX11_seenFrom 80 = .ok (.ireturn, 1) := by decide +kernel
theorem dX11_coveredFrom_0 : decode cX11_coveredFrom 0 = .ok (.iconst 0, 1) := by decide +kernel
theorem dX11_coveredFrom_1 : decode cX11_coveredFrom 1 = .ok (.istore_n 3, 1) := by decide +kernel
theorem dX11_coveredFrom_2 : decode cX11_coveredFrom 2 = .ok (.iconst 0, 1) := by decide +kernel
theorem dX11_coveredFrom_3 : decode cX11_coveredFrom 3 = .ok (.istore 4, 2) := by decide +kernel
theorem dX11_coveredFrom_5 : decode cX11_coveredFrom 5 = .ok (.iload 4, 2) := by decide +kernel
theorem dX11_coveredFrom_7 : decode cX11_coveredFrom 7 = .ok (.bipush 12, 2) := by decide +kernel
theorem dX11_coveredFrom_9 : decode cX11_coveredFrom 9 = .ok (.if_icmp .ge 42, 3) := by decide +kernel
theorem dX11_coveredFrom_12 : decode cX11_coveredFrom 12 = .ok (.aload_n 0, 1) := by decide +kernel
theorem dX11_coveredFrom_13 : decode cX11_coveredFrom 13 = .ok (.getfield 12, 3) := by decide +kernel
theorem dX11_coveredFrom_16 : decode cX11_coveredFrom 16 = .ok (.iload 4, 2) := by decide +kernel
theorem dX11_coveredFrom_18 : decode cX11_coveredFrom 18 = .ok (.invokevirtual 160, 3) := by decide +kernel
theorem dX11_coveredFrom_21 : decode cX11_coveredFrom 21 = .ok (.ifCond .eq 24, 3) := by decide +kernel
theorem dX11_coveredFrom_24 : decode cX11_coveredFrom 24 = .ok (.aload_n 0, 1) := by decide +kernel
theorem dX11_coveredFrom_25 : decode cX11_coveredFrom 25 = .ok (.getfield 12, 3) := by decide +kernel
theorem dX11_coveredFrom_28 : decode cX11_coveredFrom 28 = .ok (.iload_n 1, 1) := by decide +kernel
theorem dX11_coveredFrom_29 : decode cX11_coveredFrom 29 = .ok (.iload 4, 2) := by decide +kernel
theorem dX11_coveredFrom_31 : decode cX11_coveredFrom 31 = .ok (.invokevirtual 397, 3) := by decide +kernel
theorem dX11_coveredFrom_34 : decode cX11_coveredFrom 34 = .ok (.iload_n 2, 1) := by decide +kernel
theorem dX11_coveredFrom_35 : decode cX11_coveredFrom 35 = .ok (.if_icmp .gt 10, 3) := by decide +kernel
theorem dX11_coveredFrom_38 : decode cX11_coveredFrom 38 = .ok (.iload_n 3, 1) := by decide +kernel
theorem dX11_coveredFrom_39 : decode cX11_coveredFrom 39 = .ok (.iconst 1, 1) := by decide +kernel
theorem dX11_coveredFrom_40 : decode cX11_coveredFrom 40 = .ok (.iload 4, 2) := by decide +kernel
theorem dX11_coveredFrom_42 : decode cX11_coveredFrom 42 = .ok (.ishl, 1) := by decide +kernel
theorem dX11_coveredFrom_43 : decode cX11_coveredFrom 43 = .ok (.ior, 1) := by decide +kernel
theorem dX11_coveredFrom_44 : decode cX11_coveredFrom 44 = .ok (.istore_n 3, 1) := by decide +kernel
theorem dX11_coveredFrom_45 : decode cX11_coveredFrom 45 = .ok (.iinc 4 1, 3) := by decide +kernel
theorem dX11_coveredFrom_48 : decode cX11_coveredFrom 48 = .ok (.goto (-43), 3) := by decide +kernel
theorem dX11_coveredFrom_51 : decode cX11_coveredFrom 51 = .ok (.iload_n 3, 1) := by decide +kernel
theorem dX11_coveredFrom_52 : decode cX11_coveredFrom 52 = .ok (.ireturn, 1) := by decide +kernel
theorem dX11_circlesAreEmpty_0 : decode cX11_circlesAreEmpty 0 = .ok (.iconst 0, 1) := by decide +kernel
theorem dX11_circlesAreEmpty_1 : decode cX11_circlesAreEmpty 1 = .ok (.istore_n 1, 1) := by decide +kernel
theorem dX11_circlesAreEmpty_2 : decode cX11_circlesAreEmpty 2 = .ok (.iload_n 1, 1) := by decide +kernel
theorem dX11_circlesAreEmpty_3 : decode cX11_circlesAreEmpty 3 = .ok (.aload_n 0, 1) := by decide +kernel
theorem dX11_circlesAreEmpty_4 : decode cX11_circlesAreEmpty 4 = .ok (.getfield 26, 3) := by decide +kernel
theorem dX11_circlesAreEmpty_7 : decode cX11_circlesAreEmpty 7 = .ok (.getfield 190, 3) := by decide +kernel
theorem dX11_circlesAreEmpty_10 : decode cX11_circlesAreEmpty 10 = .ok (.if_icmp .ge 52, 3) := by decide +kernel
theorem dX11_circlesAreEmpty_13 : decode cX11_circlesAreEmpty 13 = .ok (.iconst 0, 1) := by decide +kernel
theorem dX11_circlesAreEmpty_14 : decode cX11_circlesAreEmpty 14 = .ok (.istore_n 2, 1) := by decide +kernel
theorem dX11_circlesAreEmpty_15 : decode cX11_circlesAreEmpty 15 = .ok (.iload_n 2, 1) := by decide +kernel
theorem dX11_circlesAreEmpty_16 : decode cX11_circlesAreEmpty 16 = .ok (.bipush 12, 2) := by decide +kernel
theorem dX11_circlesAreEmpty_18 : decode cX11_circlesAreEmpty 18 = .ok (.if_icmp .ge 38, 3) := by decide +kernel
theorem dX11_circlesAreEmpty_21 : decode cX11_circlesAreEmpty 21 = .ok (.aload_n 0, 1) := by decide +kernel
theorem dX11_circlesAreEmpty_22 : decode cX11_circlesAreEmpty 22 = .ok (.getfield 12, 3) := by decide +kernel
theorem dX11_circlesAreEmpty_25 : decode cX11_circlesAreEmpty 25 = .ok (.iload_n 2, 1) := by decide +kernel
theorem dX11_circlesAreEmpty_26 : decode cX11_circlesAreEmpty 26 = .ok (.invokevirtual 160, 3) := by decide +kernel
theorem dX11_circlesAreEmpty_29 : decode cX11_circlesAreEmpty 29 = .ok (.ifCond .eq 21, 3) := by decide +kernel
theorem dX11_circlesAreEmpty_32 : decode cX11_circlesAreEmpty 32 = .ok (.aload_n 0, 1) := by decide +kernel
theorem dX11_circlesAreEmpty_33 : decode cX11_circlesAreEmpty 33 = .ok (.getfield 26, 3) := by decide +kernel
theorem dX11_circlesAreEmpty_36 : decode cX11_circlesAreEmpty 36 = .ok (.aload_n 0, 1) := by decide +kernel
theorem dX11_circlesAreEmpty_37 : decode cX11_circlesAreEmpty 37 = .ok (.getfield 12, 3) := by decide +kernel
theorem dX11_circlesAreEmpty_40 : decode cX11_circlesAreEmpty 40 = .ok (.iload_n 1, 1) := by decide +kernel
theorem dX11_circlesAreEmpty_41 : decode cX11_circlesAreEmpty 41 = .ok (.iload_n 2, 1) := by decide +kernel
theorem dX11_circlesAreEmpty_42 : decode cX11_circlesAreEmpty 42 = .ok (.invokevirtual 399, 3) := by decide +kernel
theorem dX11_circlesAreEmpty_45 : decode cX11_circlesAreEmpty 45 = .ok (.ifCond .eq 5, 3) := by decide +kernel
theorem dX11_circlesAreEmpty_48 : decode cX11_circlesAreEmpty 48 = .ok (.iconst 0, 1) := by decide +kernel
theorem dX11_circlesAreEmpty_49 : decode cX11_circlesAreEmpty 49 = .ok (.ireturn, 1) := by decide +kernel
theorem dX11_circlesAreEmpty_50 : decode cX11_circlesAreEmpty 50 = .ok (.iinc 2 1, 3) := by decide +kernel
theorem dX11_circlesAreEmpty_53 : decode cX11_circlesAreEmpty 53 = .ok (.goto (-38), 3) := by decide +kernel
theorem dX11_circlesAreEmpty_56 : decode cX11_circlesAreEmpty 56 = .ok (.iinc 1 1, 3) := by decide +kernel
theorem dX11_circlesAreEmpty_59 : decode cX11_circlesAreEmpty 59 = .ok (.goto (-57), 3) := by decide +kernel
theorem dX11_circlesAreEmpty_62 : decode cX11_circlesAreEmpty 62 = .ok (.iconst 1, 1) := by decide +kernel
theorem dX11_circlesAreEmpty_63 : decode cX11_circlesAreEmpty 63 = .ok (.ireturn, 1) := by decide +kernel
theorem dX11_countsFit_0 : decode cX11_countsFit 0 = .ok (.aload_n 0, 1) := by decide +kernel
theorem dX11_countsFit_1 : decode cX11_countsFit 1 = .ok (.getfield 12, 3) := by decide +kernel
theorem dX11_countsFit_4 : decode cX11_countsFit 4 = .ok (.invokevirtual 403, 3) := by decide +kernel
theorem dX11_countsFit_7 : decode cX11_countsFit 7 = .ok (.ifCond .eq 30, 3) := by decide +kernel
theorem dX11_countsFit_10 : decode cX11_countsFit 10 = .ok (.aload_n 0, 1) := by decide +kernel
theorem dX11_countsFit_11 : decode cX11_countsFit 11 = .ok (.getfield 26, 3) := by decide +kernel
theorem dX11_countsFit_14 : decode cX11_countsFit 14 = .ok (.getfield 190, 3) := by decide +kernel
theorem dX11_countsFit_17 : decode cX11_countsFit 17 = .ok (.aload_n 0, 1) := by decide +kernel
theorem dX11_countsFit_18 : decode cX11_countsFit 18 = .ok (.getfield 12, 3) := by decide +kernel
theorem dX11_countsFit_21 : decode cX11_countsFit 21 = .ok (.invokevirtual 117, 3) := by decide +kernel
theorem dX11_countsFit_24 : decode cX11_countsFit 24 = .ok (.iadd, 1) := by decide +kernel
theorem dX11_countsFit_25 : decode cX11_countsFit 25 = .ok (.aload_n 0, 1) := by decide +kernel
theorem dX11_countsFit_26 : decode cX11_countsFit 26 = .ok (.getfield 26, 3) := by decide +kernel
theorem dX11_countsFit_29 : decode cX11_countsFit 29 = .ok (.invokevirtual 361, 3) := by decide +kernel
theorem dX11_countsFit_32 : decode cX11_countsFit 32 = .ok (.iconst 1, 1) := by decide +kernel
theorem dX11_countsFit_33 : decode cX11_countsFit 33 = .ok (.iadd, 1) := by decide +kernel
theorem dX11_countsFit_34 : decode cX11_countsFit 34 = .ok (.if_icmp .ne 7, 3) := by decide +kernel
theorem dX11_countsFit_37 : decode cX11_countsFit 37 = .ok (.iconst 1, 1) := by decide +kernel
theorem dX11_countsFit_38 : decode cX11_countsFit 38 = .ok (.goto 4, 3) := by decide +kernel
theorem dX11_countsFit_41 : decode cX11_countsFit 41 = .ok (.iconst 0, 1) := by decide +kernel
theorem dX11_countsFit_42 : decode cX11_countsFit 42 = .ok (.ireturn, 1) := by decide +kernel
theorem dX11_treeIsOfNeighbours_0 : decode cX11_treeIsOfNeighbours 0 = .ok (.aload_n 0, 1) := by decide +kernel
theorem dX11_treeIsOfNeighbours_1 : decode cX11_treeIsOfNeighbours 1 = .ok (.getfield 12, 3) := by decide +kernel
theorem dX11_treeIsOfNeighbours_4 : decode cX11_treeIsOfNeighbours 4 = .ok (.invokevirtual 403, 3) := by decide +kernel
theorem dX11_treeIsOfNeighbours_7 : decode cX11_treeIsOfNeighbours 7 = .ok (.ifCond .ne 5, 3) := by decide +kernel
theorem dX11_treeIsOfNeighbours_10 : decode cX11_treeIsOfNeighbours 10 = .ok (.iconst 1, 1) := by decide +kernel
theorem dX11_treeIsOfNeighbours_11 : decode cX11_treeIsOfNeighbours 11 = .ok (.ireturn, 1) := by decide +kernel
theorem dX11_treeIsOfNeighbours_12 : decode cX11_treeIsOfNeighbours 12 = .ok (.iconst 0, 1) := by decide +kernel
theorem dX11_treeIsOfNeighbours_13 : decode cX11_treeIsOfNeighbours 13 = .ok (.istore_n 1, 1) := by decide +kernel
theorem dX11_treeIsOfNeighbours_14 : decode cX11_treeIsOfNeighbours 14 = .ok (.iload_n 1, 1) := by decide +kernel
theorem dX11_treeIsOfNeighbours_15 : decode cX11_treeIsOfNeighbours 15 = .ok (.bipush 12, 2) := by decide +kernel
theorem dX11_treeIsOfNeighbours_17 : decode cX11_treeIsOfNeighbours 17 = .ok (.if_icmp .ge 35, 3) := by decide +kernel
theorem dX11_treeIsOfNeighbours_20 : decode cX11_treeIsOfNeighbours 20 = .ok (.aload_n 0, 1) := by decide +kernel
theorem dX11_treeIsOfNeighbours_21 : decode cX11_treeIsOfNeighbours 21 = .ok (.getfield 33, 3) := by decide +kernel
theorem dX11_treeIsOfNeighbours_24 : decode cX11_treeIsOfNeighbours 24 = .ok (.getfield 406, 3) := by decide +kernel
theorem dX11_treeIsOfNeighbours_27 : decode cX11_treeIsOfNeighbours 27 = .ok (.iload_n 1, 1) := by decide +kernel
theorem dX11_treeIsOfNeighbours_28 : decode cX11_treeIsOfNeighbours 28 = .ok (.iaload, 1) := by decide +kernel
theorem dX11_treeIsOfNeighbours_29 : decode cX11_treeIsOfNeighbours 29 = .ok (.aload_n 0, 1) := by decide +kernel
theorem dX11_treeIsOfNeighbours_30 : decode cX11_treeIsOfNeighbours 30 = .ok (.getfield 26, 3) := by decide +kernel
theorem dX11_treeIsOfNeighbours_33 : decode cX11_treeIsOfNeighbours 33 = .ok (.getfield 198, 3) := by decide +kernel
theorem dX11_treeIsOfNeighbours_36 : decode cX11_treeIsOfNeighbours 36 = .ok (.iload_n 1, 1) := by decide +kernel
theorem dX11_treeIsOfNeighbours_37 : decode cX11_treeIsOfNeighbours 37 = .ok (.iaload, 1) := by decide +kernel
theorem dX11_treeIsOfNeighbours_38 : decode cX11_treeIsOfNeighbours 38 = .ok (.iconst (-1), 1) := by decide +kernel
theorem dX11_treeIsOfNeighbours_39 : decode cX11_treeIsOfNeighbours 39 = .ok (.ixor, 1) := by decide +kernel
theorem dX11_treeIsOfNeighbours_40 : decode cX11_treeIsOfNeighbours 40 = .ok (.iand, 1) := by decide +kernel
theorem dX11_treeIsOfNeighbours_41 : decode cX11_treeIsOfNeighbours 41 = .ok (.ifCond .eq 5, 3) := by decide +kernel
theorem dX11_treeIsOfNeighbours_44 : decode cX11_treeIsOfNeighbours 44 = .ok (.iconst 0, 1) := by decide +kernel
theorem dX11_treeIsOfNeighbours_45 : decode cX11_treeIsOfNeighbours 45 = .ok (.ireturn, 1) := by decide +kernel
theorem dX11_treeIsOfNeighbours_46 : decode cX11_treeIsOfNeighbours 46 = .ok (.iinc 1 1, 3) := by decide +kernel
theorem dX11_treeIsOfNeighbours_49 : decode cX11_treeIsOfNeighbours 49 = .ok (.goto (-35), 3) := by decide +kernel
theorem dX11_treeIsOfNeighbours_52 : decode cX11_treeIsOfNeighbours 52 = .ok (.iconst 1, 1) := by decide +kernel
theorem dX11_treeIsOfNeighbours_53 : decode cX11_treeIsOfNeighbours 53 = .ok (.ireturn, 1) := by decide +kernel
theorem dX11_graphsAreNested_0 : decode cX11_graphsAreNested 0 = .ok (.iconst 0, 1) := by decide +kernel
theorem dX11_graphsAreNested_1 : decode cX11_graphsAreNested 1 = .ok (.istore_n 1, 1) := by decide +kernel
theorem dX11_graphsAreNested_2 : decode cX11_graphsAreNested 2 = .ok (.iload_n 1, 1) := by decide +kernel
theorem dX11_graphsAreNested_3 : decode cX11_graphsAreNested 3 = .ok (.bipush 12, 2) := by decide +kernel
theorem dX11_graphsAreNested_5 : decode cX11_graphsAreNested 5 = .ok (.if_icmp .ge 58, 3) := by decide +kernel
theorem dX11_graphsAreNested_8 : decode cX11_graphsAreNested 8 = .ok (.iload_n 1, 1) := by decide +kernel
theorem dX11_graphsAreNested_9 : decode cX11_graphsAreNested 9 = .ok (.iconst 1, 1) := by decide +kernel
theorem dX11_graphsAreNested_10 : decode cX11_graphsAreNested 10 = .ok (.iadd, 1) := by decide +kernel
theorem dX11_graphsAreNested_11 : decode cX11_graphsAreNested 11 = .ok (.istore_n 2, 1) := by decide +kernel
theorem dX11_graphsAreNested_12 : decode cX11_graphsAreNested 12 = .ok (.iload_n 2, 1) := by decide +kernel
theorem dX11_graphsAreNested_13 : decode cX11_graphsAreNested 13 = .ok (.bipush 12, 2) := by decide +kernel
theorem dX11_graphsAreNested_15 : decode cX11_graphsAreNested 15 = .ok (.if_icmp .ge 42, 3) := by decide +kernel
theorem dX11_graphsAreNested_18 : decode cX11_graphsAreNested 18 = .ok (.aload_n 0, 1) := by decide +kernel
theorem dX11_graphsAreNested_19 : decode cX11_graphsAreNested 19 = .ok (.getfield 12, 3) := by decide +kernel
theorem dX11_graphsAreNested_22 : decode cX11_graphsAreNested 22 = .ok (.iload_n 1, 1) := by decide +kernel
theorem dX11_graphsAreNested_23 : decode cX11_graphsAreNested 23 = .ok (.invokevirtual 160, 3) := by decide +kernel
theorem dX11_graphsAreNested_26 : decode cX11_graphsAreNested 26 = .ok (.ifCond .eq 25, 3) := by decide +kernel
theorem dX11_graphsAreNested_29 : decode cX11_graphsAreNested 29 = .ok (.aload_n 0, 1) := by decide +kernel
theorem dX11_graphsAreNested_30 : decode cX11_graphsAreNested 30 = .ok (.getfield 12, 3) := by decide +kernel
theorem dX11_graphsAreNested_33 : decode cX11_graphsAreNested 33 = .ok (.iload_n 2, 1) := by decide +kernel
theorem dX11_graphsAreNested_34 : decode cX11_graphsAreNested 34 = .ok (.invokevirtual 160, 3) := by decide +kernel
theorem dX11_graphsAreNested_37 : decode cX11_graphsAreNested 37 = .ok (.ifCond .eq 14, 3) := by decide +kernel
theorem dX11_graphsAreNested_40 : decode cX11_graphsAreNested 40 = .ok (.aload_n 0, 1) := by decide +kernel
theorem dX11_graphsAreNested_41 : decode cX11_graphsAreNested 41 = .ok (.iload_n 1, 1) := by decide +kernel
theorem dX11_graphsAreNested_42 : decode cX11_graphsAreNested 42 = .ok (.iload_n 2, 1) := by decide +kernel
theorem dX11_graphsAreNested_43 : decode cX11_graphsAreNested 43 = .ok (.invokevirtual 409, 3) := by decide +kernel
theorem dX11_graphsAreNested_46 : decode cX11_graphsAreNested 46 = .ok (.ifCond .ne 5, 3) := by decide +kernel
theorem dX11_graphsAreNested_49 : decode cX11_graphsAreNested 49 = .ok (.iconst 0, 1) := by decide +kernel
theorem dX11_graphsAreNested_50 : decode cX11_graphsAreNested 50 = .ok (.ireturn, 1) := by decide +kernel
theorem dX11_graphsAreNested_51 : decode cX11_graphsAreNested 51 = .ok (.iinc 2 1, 3) := by decide +kernel
theorem dX11_graphsAreNested_54 : decode cX11_graphsAreNested 54 = .ok (.goto (-42), 3) := by decide +kernel
theorem dX11_graphsAreNested_57 : decode cX11_graphsAreNested 57 = .ok (.iinc 1 1, 3) := by decide +kernel
theorem dX11_graphsAreNested_60 : decode cX11_graphsAreNested 60 = .ok (.goto (-58), 3) := by decide +kernel
theorem dX11_graphsAreNested_63 : decode cX11_graphsAreNested 63 = .ok (.iconst 1, 1) := by decide +kernel
theorem dX11_graphsAreNested_64 : decode cX11_graphsAreNested 64 = .ok (.ireturn, 1) := by decide +kernel
theorem dX11_isNestedAt_0 : decode cX11_isNestedAt 0 = .ok (.aload_n 0, 1) := by decide +kernel
theorem dX11_isNestedAt_1 : decode cX11_isNestedAt 1 = .ok (.getfield 33, 3) := by decide +kernel
theorem dX11_isNestedAt_4 : decode cX11_isNestedAt 4 = .ok (.aload_n 0, 1) := by decide +kernel
theorem dX11_isNestedAt_5 : decode cX11_isNestedAt 5 = .ok (.getfield 12, 3) := by decide +kernel
theorem dX11_isNestedAt_8 : decode cX11_isNestedAt 8 = .ok (.bipush 114, 2) := by decide +kernel
theorem dX11_isNestedAt_10 : decode cX11_isNestedAt 10 = .ok (.iload_n 1, 1) := by decide +kernel
theorem dX11_isNestedAt_11 : decode cX11_isNestedAt 11 = .ok (.iload_n 2, 1) := by decide +kernel
theorem dX11_isNestedAt_12 : decode cX11_isNestedAt 12 = .ok (.invokevirtual 218, 3) := by decide +kernel
theorem dX11_isNestedAt_15 : decode cX11_isNestedAt 15 = .ok (.istore_n 3, 1) := by decide +kernel
theorem dX11_isNestedAt_16 : decode cX11_isNestedAt 16 = .ok (.aload_n 0, 1) := by decide +kernel
theorem dX11_isNestedAt_17 : decode cX11_isNestedAt 17 = .ok (.getfield 33, 3) := by decide +kernel
theorem dX11_isNestedAt_20 : decode cX11_isNestedAt 20 = .ok (.aload_n 0, 1) := by decide +kernel
theorem dX11_isNestedAt_21 : decode cX11_isNestedAt 21 = .ok (.getfield 12, 3) := by decide +kernel
theorem dX11_isNestedAt_24 : decode cX11_isNestedAt 24 = .ok (.bipush 116, 2) := by decide +kernel
theorem dX11_isNestedAt_26 : decode cX11_isNestedAt 26 = .ok (.iload_n 1, 1) := by decide +kernel
theorem dX11_isNestedAt_27 : decode cX11_isNestedAt 27 = .ok (.iload_n 2, 1) := by decide +kernel
theorem dX11_isNestedAt_28 : decode cX11_isNestedAt 28 = .ok (.invokevirtual 218, 3) := by decide +kernel
theorem dX11_isNestedAt_31 : decode cX11_isNestedAt 31 = .ok (.ifCond .eq 9, 3) := by decide +kernel
theorem dX11_isNestedAt_34 : decode cX11_isNestedAt 34 = .ok (.iload_n 3, 1) := by decide +kernel
theorem dX11_isNestedAt_35 : decode cX11_isNestedAt 35 = .ok (.ifCond .ne 5, 3) := by decide +kernel
theorem dX11_isNestedAt_38 : decode cX11_isNestedAt 38 = .ok (.iconst 0, 1) := by decide +kernel
theorem dX11_isNestedAt_39 : decode cX11_isNestedAt 39 = .ok (.ireturn, 1) := by decide +kernel
theorem dX11_isNestedAt_40 : decode cX11_isNestedAt 40 = .ok (.iload_n 3, 1) := by decide +kernel
theorem dX11_isNestedAt_41 : decode cX11_isNestedAt 41 = .ok (.ifCond .eq 21, 3) := by decide +kernel
theorem dX11_isNestedAt_44 : decode cX11_isNestedAt 44 = .ok (.aload_n 0, 1) := by decide +kernel
theorem dX11_isNestedAt_45 : decode cX11_isNestedAt 45 = .ok (.getfield 33, 3) := by decide +kernel
theorem dX11_isNestedAt_48 : decode cX11_isNestedAt 48 = .ok (.aload_n 0, 1) := by decide +kernel
theorem dX11_isNestedAt_49 : decode cX11_isNestedAt 49 = .ok (.getfield 12, 3) := by decide +kernel
theorem dX11_isNestedAt_52 : decode cX11_isNestedAt 52 = .ok (.bipush 103, 2) := by decide +kernel
theorem dX11_isNestedAt_54 : decode cX11_isNestedAt 54 = .ok (.iload_n 1, 1) := by decide +kernel
theorem dX11_isNestedAt_55 : decode cX11_isNestedAt 55 = .ok (.iload_n 2, 1) := by decide +kernel
theorem dX11_isNestedAt_56 : decode cX11_isNestedAt 56 = .ok (.invokevirtual 218, 3) := by decide +kernel
theorem dX11_isNestedAt_59 : decode cX11_isNestedAt 59 = .ok (.ifCond .eq 7, 3) := by decide +kernel
theorem dX11_isNestedAt_62 : decode cX11_isNestedAt 62 = .ok (.iconst 1, 1) := by decide +kernel
theorem dX11_isNestedAt_63 : decode cX11_isNestedAt 63 = .ok (.goto 4, 3) := by decide +kernel
theorem dX11_isNestedAt_66 : decode cX11_isNestedAt 66 = .ok (.iconst 0, 1) := by decide +kernel
theorem dX11_isNestedAt_67 : decode cX11_isNestedAt 67 = .ok (.ireturn, 1) := by decide +kernel
theorem dX11_signOf_0 : decode cX11_signOf 0 = .ok (.lload_n 0, 1) := by decide +kernel
theorem dX11_signOf_1 : decode cX11_signOf 1 = .ok (.lconst 0, 1) := by decide +kernel
theorem dX11_signOf_2 : decode cX11_signOf 2 = .ok (.lcmp, 1) := by decide +kernel
theorem dX11_signOf_3 : decode cX11_signOf 3 = .ok (.ifCond .le 5, 3) := by decide +kernel
theorem dX11_signOf_6 : decode cX11_signOf 6 = .ok (.iconst 1, 1) := by decide +kernel
theorem dX11_signOf_7 : decode cX11_signOf 7 = .ok (.ireturn, 1) := by decide +kernel
theorem dX11_signOf_8 : decode cX11_signOf 8 = .ok (.lload_n 0, 1) := by decide +kernel
theorem dX11_signOf_9 : decode cX11_signOf 9 = .ok (.lconst 0, 1) := by decide +kernel
theorem dX11_signOf_10 : decode cX11_signOf 10 = .ok (.lcmp, 1) := by decide +kernel
theorem dX11_signOf_11 : decode cX11_signOf 11 = .ok (.ifCond .ge 7, 3) := by decide +kernel
theorem dX11_signOf_14 : decode cX11_signOf 14 = .ok (.iconst (-1), 1) := by decide +kernel
theorem dX11_signOf_15 : decode cX11_signOf 15 = .ok (.goto 4, 3) := by decide +kernel
theorem dX11_signOf_18 : decode cX11_signOf 18 = .ok (.iconst 0, 1) := by decide +kernel
theorem dX11_signOf_19 : decode cX11_signOf 19 = .ok (.ireturn, 1) := by decide +kernel
theorem dX11_isIn_0 : decode cX11_isIn 0 = .ok (.iload_n 0, 1) := by decide +kernel
theorem dX11_isIn_1 : decode cX11_isIn 1 = .ok (.iload_n 1, 1) := by decide +kernel
theorem dX11_isIn_2 : decode cX11_isIn 2 = .ok (.ishr, 1) := by decide +kernel
theorem dX11_isIn_3 : decode cX11_isIn 3 = .ok (.iconst 1, 1) := by decide +kernel
theorem dX11_isIn_4 : decode cX11_isIn 4 = .ok (.iand, 1) := by decide +kernel
theorem dX11_isIn_5 : decode cX11_isIn 5 = .ok (.ifCond .eq 7, 3) := by decide +kernel
theorem dX11_isIn_8 : decode cX11_isIn 8 = .ok (.iconst 1, 1) := by decide +kernel
theorem dX11_isIn_9 : decode cX11_isIn 9 = .ok (.goto 4, 3) := by decide +kernel
theorem dX11_isIn_12 : decode cX11_isIn 12 = .ok (.iconst 0, 1) := by decide +kernel
theorem dX11_isIn_13 : decode cX11_isIn 13 = .ok (.ireturn, 1) := by decide +kernel
theorem dX12_init_0 : decode cX12_init 0 = .ok (.aload_n 0, 1) := by decide +kernel
theorem dX12_init_1 : decode cX12_init 1 = .ok (.invokespecial 1, 3) := by decide +kernel
theorem dX12_init_4 : decode cX12_init 4 = .ok (.aload_n 0, 1) := by decide +kernel
theorem dX12_init_5 : decode cX12_init 5 = .ok (.bipush 12, 2) := by decide +kernel
theorem dX12_init_7 : decode cX12_init 7 = .ok (.anewarray 9, 3) := by decide +kernel
theorem dX12_init_10 : decode cX12_init 10 = .ok (.putfield 11, 3) := by decide +kernel
theorem dX12_init_13 : decode cX12_init 13 = .ok (.aload_n 0, 1) := by decide +kernel
theorem dX12_init_14 : decode cX12_init 14 = .ok (.new 15, 3) := by decide +kernel
theorem dX12_init_17 : decode cX12_init 17 = .ok (.dup, 1) := by decide +kernel
theorem dX12_init_18 : decode cX12_init 18 = .ok (.invokespecial 17, 3) := by decide +kernel
theorem dX12_init_21 : decode cX12_init 21 = .ok (.putfield 18, 3) := by decide +kernel
theorem dX12_init_24 : decode cX12_init 24 = .ok (.aload_n 0, 1) := by decide +kernel
theorem dX12_init_25 : decode cX12_init 25 = .ok (.new 15, 3) := by decide +kernel
theorem dX12_init_28 : decode cX12_init 28 = .ok (.dup, 1) := by decide +kernel
theorem dX12_init_29 : decode cX12_init 29 = .ok (.invokespecial 17, 3) := by decide +kernel
theorem dX12_init_32 : decode cX12_init 32 = .ok (.putfield 22, 3) := by decide +kernel
theorem dX12_init_35 : decode cX12_init 35 = .ok (.return_, 1) := by decide +kernel
theorem dX12_thrown_0 : decode cX12_thrown 0 = .ok (.aload_n 0, 1) := by decide +kernel
theorem dX12_thrown_1 : decode cX12_thrown 1 = .ok (.getfield 25, 3) := by decide +kernel
theorem dX12_thrown_4 : decode cX12_thrown 4 = .ok (.ireturn, 1) := by decide +kernel
theorem dX12_isWrong_0 : decode cX12_isWrong 0 = .ok (.aload_n 0, 1) := by decide +kernel
theorem dX12_isWrong_1 : decode cX12_isWrong 1 = .ok (.iload_n 1, 1) := by decide +kernel
theorem dX12_isWrong_2 : decode cX12_isWrong 2 = .ok (.putfield 25, 3) := by decide +kernel
theorem dX12_isWrong_5 : decode cX12_isWrong 5 = .ok (.iload_n 1, 1) := by decide +kernel
theorem dX12_isWrong_6 : decode cX12_isWrong 6 = .ok (.ifCond .le 7, 3) := by decide +kernel
theorem dX12_isWrong_9 : decode cX12_isWrong 9 = .ok (.iconst 1, 1) := by decide +kernel
theorem dX12_isWrong_10 : decode cX12_isWrong 10 = .ok (.goto 4, 3) := by decide +kernel
theorem dX12_isWrong_13 : decode cX12_isWrong 13 = .ok (.iconst 0, 1) := by decide +kernel
theorem dX12_isWrong_14 : decode cX12_isWrong 14 = .ok (.ireturn, 1) := by decide +kernel
theorem dX12_isBetween_0 : decode cX12_isBetween 0 = .ok (.lload_n 2, 1) := by decide +kernel
theorem dX12_isBetween_1 : decode cX12_isBetween 1 = .ok (.lload_n 0, 1) := by decide +kernel
theorem dX12_isBetween_2 : decode cX12_isBetween 2 = .ok (.lcmp, 1) := by decide +kernel
theorem dX12_isBetween_3 : decode cX12_isBetween 3 = .ok (.ifCond .gt 14, 3) := by decide +kernel
theorem dX12_isBetween_6 : decode cX12_isBetween 6 = .ok (.lload_n 0, 1) := by decide +kernel
theorem dX12_isBetween_7 : decode cX12_isBetween 7 = .ok (.lload 4, 2) := by decide +kernel
theorem dX12_isBetween_9 : decode cX12_isBetween 9 = .ok (.lcmp, 1) := by decide +kernel
theorem dX12_isBetween_10 : decode cX12_isBetween 10 = .ok (.ifCond .gt 7, 3) := by decide +kernel
theorem dX12_isBetween_13 : decode cX12_isBetween 13 = .ok (.iconst 1, 1) := by decide +kernel
theorem dX12_isBetween_14 : decode cX12_isBetween 14 = .ok (.goto 4, 3) := by decide +kernel
theorem dX12_isBetween_17 : decode cX12_isBetween 17 = .ok (.iconst 0, 1) := by decide +kernel
theorem dX12_isBetween_18 : decode cX12_isBetween 18 = .ok (.ireturn, 1) := by decide +kernel
theorem dX12_isPlace_0 : decode cX12_isPlace 0 = .ok (.iload_n 0, 1) := by decide +kernel
theorem dX12_isPlace_1 : decode cX12_isPlace 1 = .ok (.i2l, 1) := by decide +kernel
theorem dX12_isPlace_2 : decode cX12_isPlace 2 = .ok (.iload_n 2, 1) := by decide +kernel
theorem dX12_isPlace_3 : decode cX12_isPlace 3 = .ok (.ineg, 1) := by decide +kernel
theorem dX12_isPlace_4 : decode cX12_isPlace 4 = .ok (.i2l, 1) := by decide +kernel
theorem dX12_isPlace_5 : decode cX12_isPlace 5 = .ok (.iload_n 2, 1) := by decide +kernel
theorem dX12_isPlace_6 : decode cX12_isPlace 6 = .ok (.i2l, 1) := by decide +kernel
theorem dX12_isPlace_7 : decode cX12_isPlace 7 = .ok (.invokestatic 29, 3) := by decide +kernel
theorem dX12_isPlace_10 : decode cX12_isPlace 10 = .ok (.ifCond .eq 20, 3) := by decide +kernel
theorem dX12_isPlace_13 : decode cX12_isPlace 13 = .ok (.iload_n 1, 1) := by decide +kernel
theorem dX12_isPlace_14 : decode cX12_isPlace 14 = .ok (.i2l, 1) := by decide +kernel
theorem dX12_isPlace_15 : decode cX12_isPlace 15 = .ok (.iload_n 2, 1) := by decide +kernel
theorem dX12_isPlace_16 : decode cX12_isPlace 16 = .ok (.ineg, 1) := by decide +kernel
theorem dX12_isPlace_17 : decode cX12_isPlace 17 = .ok (.i2l, 1) := by decide +kernel
theorem dX12_isPlace_18 : decode cX12_isPlace 18 = .ok (.iload_n 2, 1) := by decide +kernel
theorem dX12_isPlace_19 : decode cX12_isPlace 19 = .ok (.i2l, 1) := by decide +kernel
theorem dX12_isPlace_20 : decode cX12_isPlace 20 = .ok (.invokestatic 29, 3) := by decide +kernel
theorem dX12_isPlace_23 : decode cX12_isPlace 23 = .ok (.ifCond .eq 7, 3) := by decide +kernel
theorem dX12_isPlace_26 : decode cX12_isPlace 26 = .ok (.iconst 1, 1) := by decide +kernel
theorem dX12_isPlace_27 : decode cX12_isPlace 27 = .ok (.goto 4, 3) := by decide +kernel
theorem dX12_isPlace_30 : decode cX12_isPlace 30 = .ok (.iconst 0, 1) := by decide +kernel
theorem dX12_isPlace_31 : decode cX12_isPlace 31 = .ok (.ireturn, 1) := by decide +kernel
theorem dX12_isThere_0 : decode cX12_isThere 0 = .ok (.iload_n 1, 1) := by decide +kernel
theorem dX12_isThere_1 : decode cX12_isThere 1 = .ok (.i2l, 1) := by decide +kernel
theorem dX12_isThere_2 : decode cX12_isThere 2 = .ok (.lconst 0, 1) := by decide +kernel
theorem dX12_isThere_3 : decode cX12_isThere 3 = .ok (.ldc2_w 33, 3) := by decide +kernel
theorem dX12_isThere_6 : decode cX12_isThere 6 = .ok (.invokestatic 29, 3) := by decide +kernel
theorem dX12_isThere_9 : decode cX12_isThere 9 = .ok (.ifCond .eq 16, 3) := by decide +kernel
theorem dX12_isThere_12 : decode cX12_isThere 12 = .ok (.aload_n 0, 1) := by decide +kernel
theorem dX12_isThere_13 : decode cX12_isThere 13 = .ok (.getfield 11, 3) := by decide +kernel
theorem dX12_isThere_16 : decode cX12_isThere 16 = .ok (.iload_n 1, 1) := by decide +kernel
theorem dX12_isThere_17 : decode cX12_isThere 17 = .ok (.aaload, 1) := by decide +kernel
theorem dX12_isThere_18 : decode cX12_isThere 18 = .ok (.ifnull 7, 3) := by decide +kernel
theorem dX12_isThere_21 : decode cX12_isThere 21 = .ok (.iconst 1, 1) := by decide +kernel
theorem dX12_isThere_22 : decode cX12_isThere 22 = .ok (.goto 4, 3) := by decide +kernel
theorem dX12_isThere_25 : decode cX12_isThere 25 = .ok (.iconst 0, 1) := by decide +kernel
theorem dX12_isThere_26 : decode cX12_isThere 26 = .ok (.ireturn, 1) := by decide +kernel
theorem dX12_isNoPoint_0 : decode cX12_isNoPoint 0 = .ok (.aload_n 0, 1) := by decide +kernel
theorem dX12_isNoPoint_1 : decode cX12_isNoPoint 1 = .ok (.aload_n 0, 1) := by decide +kernel
theorem dX12_isNoPoint_2 : decode cX12_isNoPoint 2 = .ok (.iload_n 1, 1) := by decide +kernel
theorem dX12_isNoPoint_3 : decode cX12_isNoPoint 3 = .ok (.invokevirtual 35, 3) := by decide +kernel
theorem dX12_isNoPoint_6 : decode cX12_isNoPoint 6 = .ok (.ifCond .eq 7, 3) := by decide +kernel
theorem dX12_isNoPoint_9 : decode cX12_isNoPoint 9 = .ok (.iconst 0, 1) := by decide +kernel
theorem dX12_isNoPoint_10 : decode cX12_isNoPoint 10 = .ok (.goto 4, 3) := by decide +kernel
theorem dX12_isNoPoint_13 : decode cX12_isNoPoint 13 = .ok (.iconst 1, 1) := by decide +kernel
theorem dX12_isNoPoint_14 : decode cX12_isNoPoint 14 = .ok (.invokevirtual 39, 3) := by decide +kernel
theorem dX12_isNoPoint_17 : decode cX12_isNoPoint 17 = .ok (.ireturn, 1) := by decide +kernel
theorem dX12_many_0 : decode cX12_many 0 = .ok (.iconst 0, 1) := by decide +kernel
theorem dX12_many_1 : decode cX12_many 1 = .ok (.istore_n 1, 1) := by decide +kernel
theorem dX12_many_2 : decode cX12_many 2 = .ok (.aload_n 0, 1) := by decide +kernel
theorem dX12_many_3 : decode cX12_many 3 = .ok (.getfield 11, 3) := by decide +kernel
theorem dX12_many_6 : decode cX12_many 6 = .ok (.astore_n 2, 1) := by decide +kernel
theorem dX12_many_7 : decode cX12_many 7 = .ok (.aload_n 2, 1) := by decide +kernel
theorem dX12_many_8 : decode cX12_many 8 = .ok (.arraylength, 1) := by decide +kernel
theorem dX12_many_9 : decode cX12_many 9 = .ok (.istore_n 3, 1) := by decide +kernel
theorem dX12_many_10 : decode cX12_many 10 = .ok (.iconst 0, 1) := by decide +kernel
theorem dX12_many_11 : decode cX12_many 11 = .ok (.istore 4, 2) := by decide +kernel
theorem dX12_many_13 : decode cX12_many 13 = .ok (.iload 4, 2) := by decide +kernel
theorem dX12_many_15 : decode cX12_many 15 = .ok (.iload_n 3, 1) := by decide +kernel
theorem dX12_many_16 : decode cX12_many 16 = .ok (.if_icmp .ge 28, 3) := by decide +kernel
theorem dX12_many_19 : decode cX12_many 19 = .ok (.aload_n 2, 1) := by decide +kernel
theorem dX12_many_20 : decode cX12_many 20 = .ok (.iload 4, 2) := by decide +kernel
theorem dX12_many_22 : decode cX12_many 22 = .ok (.aaload, 1) := by decide +kernel
theorem dX12_many_23 : decode cX12_many 23 = .ok (.astore 5, 2) := by decide +kernel
theorem dX12_many_25 : decode cX12_many 25 = .ok (.iload_n 1, 1) := by decide +kernel
theorem dX12_many_26 : decode cX12_many 26 = .ok (.aload 5, 2) := by decide +kernel
theorem dX12_many_28 : decode cX12_many 28 = .ok (.ifnonnull 7, 3) := by decide +kernel
theorem dX12_many_31 : decode cX12_many 31 = .ok (.iconst 0, 1) := by decide +kernel
theorem dX12_many_32 : decode cX12_many 32 = .ok (.goto 4, 3) := by decide +kernel
theorem dX12_many_35 : decode cX12_many 35 = .ok (.iconst 1, 1) := by decide +kernel
theorem dX12_many_36 : decode cX12_many 36 = .ok (.iadd, 1) := by decide +kernel
theorem dX12_many_37 : decode cX12_many 37 = .ok (.istore_n 1, 1) := by decide +kernel
theorem dX12_many_38 : decode cX12_many 38 = .ok (.iinc 4 1, 3) := by decide +kernel
theorem dX12_many_41 : decode cX12_many 41 = .ok (.goto (-28), 3) := by decide +kernel
theorem dX12_many_44 : decode cX12_many 44 = .ok (.iload_n 1, 1) := by decide +kernel
theorem dX12_many_45 : decode cX12_many 45 = .ok (.ireturn, 1) := by decide +kernel
theorem dX12_at_0 : decode cX12_at 0 = .ok (.iconst (-1), 1) := by decide +kernel
theorem dX12_at_1 : decode cX12_at 1 = .ok (.istore_n 3, 1) := by decide +kernel
theorem dX12_at_2 : decode cX12_at 2 = .ok (.iconst 0, 1) := by decide +kernel
theorem dX12_at_3 : decode cX12_at 3 = .ok (.istore 4, 2) := by decide +kernel
theorem dX12_at_5 : decode cX12_at 5 = .ok (.iload 4, 2) := by decide +kernel
theorem dX12_at_7 : decode cX12_at 7 = .ok (.bipush 12, 2) := by decide +kernel
theorem dX12_at_9 : decode cX12_at 9 = .ok (.if_icmp .ge 52, 3) := by decide +kernel
theorem dX12_at_12 : decode cX12_at 12 = .ok (.aload_n 0, 1) := by decide +kernel
theorem dX12_at_13 : decode cX12_at 13 = .ok (.getfield 11, 3) := by decide +kernel
theorem dX12_at_16 : decode cX12_at 16 = .ok (.iload 4, 2) := by decide +kernel
theorem dX12_at_18 : decode cX12_at 18 = .ok (.aaload, 1) := by decide +kernel
theorem dX12_at_19 : decode cX12_at 19 = .ok (.ifnull 34, 3) := by decide +kernel
theorem dX12_at_22 : decode cX12_at 22 = .ok (.aload_n 0, 1) := by decide +kernel
theorem dX12_at_23 : decode cX12_at 23 = .ok (.getfield 11, 3) := by decide +kernel
theorem dX12_at_26 : decode cX12_at 26 = .ok (.iload 4, 2) := by decide +kernel
theorem dX12_at_28 : decode cX12_at 28 = .ok (.aaload, 1) := by decide +kernel
theorem dX12_at_29 : decode cX12_at 29 = .ok (.iconst 0, 1) := by decide +kernel
theorem dX12_at_30 : decode cX12_at 30 = .ok (.iaload, 1) := by decide +kernel
theorem dX12_at_31 : decode cX12_at 31 = .ok (.iload_n 1, 1) := by decide +kernel
theorem dX12_at_32 : decode cX12_at 32 = .ok (.if_icmp .ne 21, 3) := by decide +kernel
theorem dX12_at_35 : decode cX12_at 35 = .ok (.aload_n 0, 1) := by decide +kernel
theorem dX12_at_36 : decode cX12_at 36 = .ok (.getfield 11, 3) := by decide +kernel
theorem dX12_at_39 : decode cX12_at 39 = .ok (.iload 4, 2) := by decide +kernel
theorem dX12_at_41 : decode cX12_at 41 = .ok (.aaload, 1) := by decide +kernel
theorem dX12_at_42 : decode cX12_at 42 = .ok (.iconst 1, 1) := by decide +kernel
theorem dX12_at_43 : decode cX12_at 43 = .ok (.iaload, 1) := by decide +kernel
theorem dX12_at_44 : decode cX12_at 44 = .ok (.iload_n 2, 1) := by decide +kernel
theorem dX12_at_45 : decode cX12_at 45 = .ok (.if_icmp .ne 8, 3) := by decide +kernel
theorem dX12_at_48 : decode cX12_at 48 = .ok (.iload 4, 2) := by decide +kernel
theorem dX12_at_50 : decode cX12_at 50 = .ok (.goto 4, 3) := by decide +kernel
theorem dX12_at_53 : decode cX12_at 53 = .ok (.iload_n 3, 1) := by decide +kernel
theorem dX12_at_54 : decode cX12_at 54 = .ok (.istore_n 3, 1) := by decide +kernel
theorem dX12_at_55 : decode cX12_at 55 = .ok (.iinc 4 1, 3) := by decide +kernel
theorem dX12_at_58 : decode cX12_at 58 = .ok (.goto (-53), 3) := by decide +kernel
theorem dX12_at_61 : decode cX12_at 61 = .ok (.iload_n 3, 1) := by decide +kernel
theorem dX12_at_62 : decode cX12_at 62 = .ok (.ireturn, 1) := by decide +kernel
theorem dX12_copy_0 : decode cX12_copy 0 = .ok (.bipush 12, 2) := by decide +kernel
theorem dX12_copy_2 : decode cX12_copy 2 = .ok (.anewarray 9, 3) := by decide +kernel
theorem dX12_copy_5 : decode cX12_copy 5 = .ok (.astore_n 1, 1) := by decide +kernel
theorem dX12_copy_6 : decode cX12_copy 6 = .ok (.iconst 0, 1) := by decide +kernel
theorem dX12_copy_7 : decode cX12_copy 7 = .ok (.istore_n 2, 1) := by decide +kernel
theorem dX12_copy_8 : decode cX12_copy 8 = .ok (.iload_n 2, 1) := by decide +kernel
theorem dX12_copy_9 : decode cX12_copy 9 = .ok (.bipush 12, 2) := by decide +kernel
theorem dX12_copy_11 : decode cX12_copy 11 = .ok (.if_icmp .ge 31, 3) := by decide +kernel
theorem dX12_copy_14 : decode cX12_copy 14 = .ok (.aload_n 1, 1) := by decide +kernel
theorem dX12_copy_15 : decode cX12_copy 15 = .ok (.iload_n 2, 1) := by decide +kernel
theorem dX12_copy_16 : decode cX12_copy 16 = .ok (.aload_n 0, 1) := by decide +kernel
theorem dX12_copy_17 : decode cX12_copy 17 = .ok (.iload_n 2, 1) := by decide +kernel
theorem dX12_copy_18 : decode cX12_copy 18 = .ok (.aaload, 1) := by decide +kernel
theorem dX12_copy_19 : decode cX12_copy 19 = .ok (.ifnonnull 7, 3) := by decide +kernel
theorem dX12_copy_22 : decode cX12_copy 22 = .ok (.aconst_null, 1) := by decide +kernel
theorem dX12_copy_23 : decode cX12_copy 23 = .ok (.goto 12, 3) := by decide +kernel
theorem dX12_copy_26 : decode cX12_copy 26 = .ok (.aload_n 0, 1) := by decide +kernel
theorem dX12_copy_27 : decode cX12_copy 27 = .ok (.iload_n 2, 1) := by decide +kernel
theorem dX12_copy_28 : decode cX12_copy 28 = .ok (.aaload, 1) := by decide +kernel
theorem dX12_copy_29 : decode cX12_copy 29 = .ok (.invokevirtual 42, 3) := by decide +kernel
theorem dX12_copy_32 : decode cX12_copy 32 = .ok (.checkcast 9, 3) := by decide +kernel
theorem dX12_copy_35 : decode cX12_copy 35 = .ok (.aastore, 1) := by decide +kernel
theorem dX12_copy_36 : decode cX12_copy 36 = .ok (.iinc 2 1, 3) := by decide +kernel
theorem dX12_copy_39 : decode cX12_copy 39 = .ok (.goto (-31), 3) := by decide +kernel
theorem dX12_copy_42 : decode cX12_copy 42 = .ok (.aload_n 1, 1) := by decide +kernel
theorem dX12_copy_43 : decode cX12_copy 43 = .ok (.areturn, 1) := by decide +kernel
theorem dX12_keep_0 : decode cX12_keep 0 = .ok (.aload_n 0, 1) := by decide +kernel
theorem dX12_keep_1 : decode cX12_keep 1 = .ok (.getfield 18, 3) := by decide +kernel
theorem dX12_keep_4 : decode cX12_keep 4 = .ok (.aload_n 0, 1) := by decide +kernel
theorem dX12_keep_5 : decode cX12_keep 5 = .ok (.getfield 11, 3) := by decide +kernel
theorem dX12_keep_8 : decode cX12_keep 8 = .ok (.invokestatic 46, 3) := by decide +kernel
theorem dX12_keep_11 : decode cX12_keep 11 = .ok (.invokeinterface 50 2, 5) := by decide +kernel
theorem dX12_keep_16 : decode cX12_keep 16 = .ok (.pop, 1) := by decide +kernel
theorem dX12_keep_17 : decode cX12_keep 17 = .ok (.aload_n 0, 1) := by decide +kernel
theorem dX12_keep_18 : decode cX12_keep 18 = .ok (.getfield 18, 3) := by decide +kernel
theorem dX12_keep_21 : decode cX12_keep 21 = .ok (.invokeinterface 56 1, 5) := by decide +kernel
theorem dX12_keep_26 : decode cX12_keep 26 = .ok (.bipush 20, 2) := by decide +kernel
theorem dX12_keep_28 : decode cX12_keep 28 = .ok (.if_icmp .le 14, 3) := by decide +kernel
theorem dX12_keep_31 : decode cX12_keep 31 = .ok (.aload_n 0, 1) := by decide +kernel
theorem dX12_keep_32 : decode cX12_keep 32 = .ok (.getfield 18, 3) := by decide +kernel
theorem dX12_keep_35 : decode cX12_keep 35 = .ok (.iconst 0, 1) := by decide +kernel
theorem dX12_keep_36 : decode cX12_keep 36 = .ok (.invokeinterface 60 2, 5) := by decide +kernel
theorem dX12_keep_41 : decode cX12_keep 41 = .ok (.pop, 1) := by decide +kernel
theorem dX12_keep_42 : decode cX12_keep 42 = .ok (.return_, 1) := by decide +kernel
theorem dX12_addPoint_0 : decode cX12_addPoint 0 = .ok (.aload_n 0, 1) := by decide +kernel
theorem dX12_addPoint_1 : decode cX12_addPoint 1 = .ok (.iload_n 1, 1) := by decide +kernel
theorem dX12_addPoint_2 : decode cX12_addPoint 2 = .ok (.iload_n 2, 1) := by decide +kernel
theorem dX12_addPoint_3 : decode cX12_addPoint 3 = .ok (.bipush 100, 2) := by decide +kernel
theorem dX12_addPoint_5 : decode cX12_addPoint 5 = .ok (.invokestatic 64, 3) := by decide +kernel
theorem dX12_addPoint_8 : decode cX12_addPoint 8 = .ok (.ifCond .ne 7, 3) := by decide +kernel
theorem dX12_addPoint_11 : decode cX12_addPoint 11 = .ok (.iconst 1, 1) := by decide +kernel
theorem dX12_addPoint_12 : decode cX12_addPoint 12 = .ok (.goto 31, 3) := by decide +kernel
theorem dX12_addPoint_15 : decode cX12_addPoint 15 = .ok (.aload_n 0, 1) := by decide +kernel
theorem dX12_addPoint_16 : decode cX12_addPoint 16 = .ok (.iload_n 1, 1) := by decide +kernel
theorem dX12_addPoint_17 : decode cX12_addPoint 17 = .ok (.iload_n 2, 1) := by decide +kernel
theorem dX12_addPoint_18 : decode cX12_addPoint 18 = .ok (.invokevirtual 68, 3) := by decide +kernel
theorem dX12_addPoint_21 : decode cX12_addPoint 21 = .ok (.iconst (-1), 1) := by decide +kernel
theorem dX12_addPoint_22 : decode cX12_addPoint 22 = .ok (.if_icmp .eq 7, 3) := by decide +kernel
theorem dX12_addPoint_25 : decode cX12_addPoint 25 = .ok (.iconst 2, 1) := by decide +kernel
theorem dX12_addPoint_26 : decode cX12_addPoint 26 = .ok (.goto 17, 3) := by decide +kernel
theorem dX12_addPoint_29 : decode cX12_addPoint 29 = .ok (.aload_n 0, 1) := by decide +kernel
theorem dX12_addPoint_30 : decode cX12_addPoint 30 = .ok (.invokevirtual 72, 3) := by decide +kernel
theorem dX12_addPoint_33 : decode cX12_addPoint 33 = .ok (.bipush 12, 2) := by decide +kernel
theorem dX12_addPoint_35 : decode cX12_addPoint 35 = .ok (.if_icmp .ne 7, 3) := by decide +kernel
theorem dX12_addPoint_38 : decode cX12_addPoint 38 = .ok (.iconst 3, 1) := by decide +kernel
theorem dX12_addPoint_39 : decode cX12_addPoint 39 = .ok (.goto 4, 3) := by decide +kernel
theorem dX12_addPoint_42 : decode cX12_addPoint 42 = .ok (.iconst 0, 1) := by decide +kernel
theorem dX12_addPoint_43 : decode cX12_addPoint 43 = .ok (.invokevirtual 39, 3) := by decide +kernel
theorem dX12_addPoint_46 : decode cX12_addPoint 46 = .ok (.ifCond .eq 5, 3) := by decide +kernel
theorem dX12_addPoint_49 : decode cX12_addPoint 49 = .ok (.iconst 0, 1) := by decide +kernel
theorem dX12_addPoint_50 : decode cX12_addPoint 50 = .ok (.ireturn, 1) := by decide +kernel
theorem dX12_addPoint_51 : decode cX12_addPoint 51 = .ok (.aload_n 0, 1) := by decide +kernel
theorem dX12_addPoint_52 : decode cX12_addPoint 52 = .ok (.invokevirtual 75, 3) := by decide +kernel
theorem dX12_addPoint_55 : decode cX12_addPoint 55 = .ok (.iconst 0, 1) := by decide +kernel
theorem dX12_addPoint_56 : decode cX12_addPoint 56 = .ok (.istore_n 3, 1) := by decide +kernel
theorem dX12_addPoint_57 : decode cX12_addPoint 57 = .ok (.aload_n 0, 1) := by decide +kernel
theorem dX12_addPoint_58 : decode cX12_addPoint 58 = .ok (.getfield 11, 3) := by decide +kernel
theorem dX12_addPoint_61 : decode cX12_addPoint 61 = .ok (.iload_n 3, 1) := by decide +kernel
theorem dX12_addPoint_62 : decode cX12_addPoint 62 = .ok (.aaload, 1) := by decide +kernel
theorem dX12_addPoint_63 : decode cX12_addPoint 63 = .ok (.ifnull 9, 3) := by decide +kernel
theorem dX12_addPoint_66 : decode cX12_addPoint 66 = .ok (.iinc 3 1, 3) := by decide +kernel
theorem dX12_addPoint_69 : decode cX12_addPoint 69 = .ok (.goto (-12), 3) := by decide +kernel
theorem dX12_addPoint_72 : decode cX12_addPoint 72 = .ok (.aload_n 0, 1) := by decide +kernel
theorem dX12_addPoint_73 : decode cX12_addPoint 73 = .ok (.getfield 11, 3) := by decide +kernel
theorem dX12_addPoint_76 : decode cX12_addPoint 76 = .ok (.iload_n 3, 1) := by decide +kernel
theorem dX12_addPoint_77 : decode cX12_addPoint 77 = .ok (.iconst 5, 1) := by decide +kernel
theorem dX12_addPoint_78 : decode cX12_addPoint 78 = .ok (.newarray .int, 2) := by decide +kernel
theorem dX12_addPoint_80 : decode cX12_addPoint 80 = .ok (.dup, 1) := by decide +kernel
theorem dX12_addPoint_81 : decode cX12_addPoint 81 = .ok (.iconst 0, 1) := by decide +kernel
theorem dX12_addPoint_82 : decode cX12_addPoint 82 = .ok (.iload_n 1, 1) := by decide +kernel
theorem dX12_addPoint_83 : decode cX12_addPoint 83 = .ok (.iastore, 1) := by decide +kernel
theorem dX12_addPoint_84 : decode cX12_addPoint 84 = .ok (.dup, 1) := by decide +kernel
theorem dX12_addPoint_85 : decode cX12_addPoint 85 = .ok (.iconst 1, 1) := by decide +kernel
theorem dX12_addPoint_86 : decode cX12_addPoint 86 = .ok (.iload_n 2, 1) := by decide +kernel
theorem dX12_addPoint_87 : decode cX12_addPoint 87 = .ok (.iastore, 1) := by decide +kernel
theorem dX12_addPoint_88 : decode cX12_addPoint 88 = .ok (.dup, 1) := by decide +kernel
theorem dX12_addPoint_89 : decode cX12_addPoint 89 = .ok (.iconst 2, 1) := by decide +kernel
theorem dX12_addPoint_90 : decode cX12_addPoint 90 = .ok (.iconst 0, 1) := by decide +kernel
theorem dX12_addPoint_91 : decode cX12_addPoint 91 = .ok (.iastore, 1) := by decide +kernel
theorem dX12_addPoint_92 : decode cX12_addPoint 92 = .ok (.dup, 1) := by decide +kernel
theorem dX12_addPoint_93 : decode cX12_addPoint 93 = .ok (.iconst 3, 1) := by decide +kernel
theorem dX12_addPoint_94 : decode cX12_addPoint 94 = .ok (.iconst 0, 1) := by decide +kernel
theorem dX12_addPoint_95 : decode cX12_addPoint 95 = .ok (.iastore, 1) := by decide +kernel
theorem dX12_addPoint_96 : decode cX12_addPoint 96 = .ok (.dup, 1) := by decide +kernel
theorem dX12_addPoint_97 : decode cX12_addPoint 97 = .ok (.iconst 4, 1) := by decide +kernel
theorem dX12_addPoint_98 : decode cX12_addPoint 98 = .ok (.iconst 0, 1) := by decide +kernel
theorem dX12_addPoint_99 : decode cX12_addPoint 99 = .ok (.iastore, 1) := by decide +kernel
theorem dX12_addPoint_100 : decode cX12_addPoint 100 = .ok (.aastore, 1) := by decide +kernel
theorem dX12_addPoint_101 : decode cX12_addPoint 101 = .ok (.iload_n 3, 1) := by decide +kernel
theorem dX12_addPoint_102 : decode cX12_addPoint 102 = .ok (.ireturn, 1) := by decide +kernel
theorem dX12_remove_0 : decode cX12_remove 0 = .ok (.aload_n 0, 1) := by decide +kernel
theorem dX12_remove_1 : decode cX12_remove 1 = .ok (.iload_n 1, 1) := by decide +kernel
theorem dX12_remove_2 : decode cX12_remove 2 = .ok (.invokevirtual 78, 3) := by decide +kernel
theorem dX12_remove_5 : decode cX12_remove 5 = .ok (.ifCond .eq 5, 3) := by decide +kernel
theorem dX12_remove_8 : decode cX12_remove 8 = .ok (.iconst 0, 1) := by decide +kernel
theorem dX12_remove_9 : decode cX12_remove 9 = .ok (.ireturn, 1) := by decide +kernel
theorem dX12_remove_10 : decode cX12_remove 10 = .ok (.aload_n 0, 1) := by decide +kernel
theorem dX12_remove_11 : decode cX12_remove 11 = .ok (.invokevirtual 75, 3) := by decide +kernel
theorem dX12_remove_14 : decode cX12_remove 14 = .ok (.aload_n 0, 1) := by decide +kernel
theorem dX12_remove_15 : decode cX12_remove 15 = .ok (.getfield 11, 3) := by decide +kernel
theorem dX12_remove_18 : decode cX12_remove 18 = .ok (.iload_n 1, 1) := by decide +kernel
theorem dX12_remove_19 : decode cX12_remove 19 = .ok (.aconst_null, 1) := by decide +kernel
theorem dX12_remove_20 : decode cX12_remove 20 = .ok (.aastore, 1) := by decide +kernel
theorem dX12_remove_21 : decode cX12_remove 21 = .ok (.aload_n 0, 1) := by decide +kernel
theorem dX12_remove_22 : decode cX12_remove 22 = .ok (.invokevirtual 72, 3) := by decide +kernel
theorem dX12_remove_25 : decode cX12_remove 25 = .ok (.ireturn, 1) := by decide +kernel
theorem dX12_move_0 : decode cX12_move 0 = .ok (.aload_n 0, 1) := by decide +kernel
theorem dX12_move_1 : decode cX12_move 1 = .ok (.iload_n 1, 1) := by decide +kernel
theorem dX12_move_2 : decode cX12_move 2 = .ok (.invokevirtual 78, 3) := by decide +kernel
theorem dX12_move_5 : decode cX12_move 5 = .ok (.ifCond .ne 49, 3) := by decide +kernel
theorem dX12_move_8 : decode cX12_move 8 = .ok (.aload_n 0, 1) := by decide +kernel
theorem dX12_move_9 : decode cX12_move 9 = .ok (.iload_n 2, 1) := by decide +kernel
theorem dX12_move_10 : decode cX12_move 10 = .ok (.iload_n 3, 1) := by decide +kernel
theorem dX12_move_11 : decode cX12_move 11 = .ok (.bipush 100, 2) := by decide +kernel
theorem dX12_move_13 : decode cX12_move 13 = .ok (.invokestatic 64, 3) := by decide +kernel
theorem dX12_move_16 : decode cX12_move 16 = .ok (.ifCond .ne 7, 3) := by decide +kernel
theorem dX12_move_19 : decode cX12_move 19 = .ok (.iconst 2, 1) := by decide +kernel
theorem dX12_move_20 : decode cX12_move 20 = .ok (.goto 28, 3) := by decide +kernel
theorem dX12_move_23 : decode cX12_move 23 = .ok (.aload_n 0, 1) := by decide +kernel
theorem dX12_move_24 : decode cX12_move 24 = .ok (.iload_n 2, 1) := by decide +kernel
theorem dX12_move_25 : decode cX12_move 25 = .ok (.iload_n 3, 1) := by decide +kernel
theorem dX12_move_26 : decode cX12_move 26 = .ok (.invokevirtual 68, 3) := by decide +kernel
theorem dX12_move_29 : decode cX12_move 29 = .ok (.iconst (-1), 1) := by decide +kernel
theorem dX12_move_30 : decode cX12_move 30 = .ok (.if_icmp .eq 17, 3) := by decide +kernel
theorem dX12_move_33 : decode cX12_move 33 = .ok (.aload_n 0, 1) := by decide +kernel
theorem dX12_move_34 : decode cX12_move 34 = .ok (.iload_n 2, 1) := by decide +kernel
theorem dX12_move_35 : decode cX12_move 35 = .ok (.iload_n 3, 1) := by decide +kernel
theorem dX12_move_36 : decode cX12_move 36 = .ok (.invokevirtual 68, 3) := by decide +kernel
theorem dX12_move_39 : decode cX12_move 39 = .ok (.iload_n 1, 1) := by decide +kernel
theorem dX12_move_40 : decode cX12_move 40 = .ok (.if_icmp .eq 7, 3) := by decide +kernel
theorem dX12_move_43 : decode cX12_move 43 = .ok (.iconst 3, 1) := by decide +kernel
theorem dX12_move_44 : decode cX12_move 44 = .ok (.goto 4, 3) := by decide +kernel
theorem dX12_move_47 : decode cX12_move 47 = .ok (.iconst 0, 1) := by decide +kernel
theorem dX12_move_48 : decode cX12_move 48 = .ok (.invokevirtual 39, 3) := by decide +kernel
theorem dX12_move_51 : decode cX12_move 51 = .ok (.ifCond .eq 5, 3) := by decide +kernel
theorem dX12_move_54 : decode cX12_move 54 = .ok (.iconst 0, 1) := by decide +kernel
theorem dX12_move_55 : decode cX12_move 55 = .ok (.ireturn, 1) := by decide +kernel
theorem dX12_move_56 : decode cX12_move 56 = .ok (.aload_n 0, 1) := by decide +kernel
theorem dX12_move_57 : decode cX12_move 57 = .ok (.invokevirtual 75, 3) := by decide +kernel
theorem dX12_move_60 : decode cX12_move 60 = .ok (.aload_n 0, 1) := by decide +kernel
theorem dX12_move_61 : decode cX12_move 61 = .ok (.getfield 11, 3) := by decide +kernel
theorem dX12_move_64 : decode cX12_move 64 = .ok (.iload_n 1, 1) := by decide +kernel
theorem dX12_move_65 : decode cX12_move 65 = .ok (.aaload, 1) := by decide +kernel
theorem dX12_move_66 : decode cX12_move 66 = .ok (.iload_n 2, 1) := by decide +kernel
theorem dX12_move_67 : decode cX12_move 67 = .ok (.i2l, 1) := by decide +kernel
theorem dX12_move_68 : decode cX12_move 68 = .ok (.iload_n 3, 1) := by decide +kernel
theorem dX12_move_69 : decode cX12_move 69 = .ok (.i2l, 1) := by decide +kernel
theorem dX12_move_70 : decode cX12_move 70 = .ok (.invokestatic 81, 3) := by decide +kernel
theorem dX12_move_73 : decode cX12_move 73 = .ok (.l2i, 1) := by decide +kernel
theorem dX12_move_74 : decode cX12_move 74 = .ok (.istore 4, 2) := by decide +kernel
theorem dX12_move_76 : decode cX12_move 76 = .ok (.aload_n 0, 1) := by decide +kernel
theorem dX12_move_77 : decode cX12_move 77 = .ok (.getfield 11, 3) := by decide +kernel
theorem dX12_move_80 : decode cX12_move 80 = .ok (.iload_n 1, 1) := by decide +kernel
theorem dX12_move_81 : decode cX12_move 81 = .ok (.aaload, 1) := by decide +kernel
theorem dX12_move_82 : decode cX12_move 82 = .ok (.iconst 0, 1) := by decide +kernel
theorem dX12_move_83 : decode cX12_move 83 = .ok (.iload_n 2, 1) := by decide +kernel
theorem dX12_move_84 : decode cX12_move 84 = .ok (.iastore, 1) := by decide +kernel
theorem dX12_move_85 : decode cX12_move 85 = .ok (.aload_n 0, 1) := by decide +kernel
theorem dX12_move_86 : decode cX12_move 86 = .ok (.getfield 11, 3) := by decide +kernel
theorem dX12_move_89 : decode cX12_move 89 = .ok (.iload_n 1, 1) := by decide +kernel
theorem dX12_move_90 : decode cX12_move 90 = .ok (.aaload, 1) := by decide +kernel
theorem dX12_move_91 : decode cX12_move 91 = .ok (.iconst 1, 1) := by decide +kernel
theorem dX12_move_92 : decode cX12_move 92 = .ok (.iload_n 3, 1) := by decide +kernel
theorem dX12_move_93 : decode cX12_move 93 = .ok (.iastore, 1) := by decide +kernel
theorem dX12_move_94 : decode cX12_move 94 = .ok (.iload 4, 2) := by decide +kernel
theorem dX12_move_96 : decode cX12_move 96 = .ok (.ireturn, 1) := by decide +kernel
theorem dX12_setWeight_0 : decode cX12_setWeight 0 = .ok (.aload_n 0, 1) := by decide +kernel
theorem dX12_setWeight_1 : decode cX12_setWeight 1 = .ok (.iload_n 1, 1) := by decide +kernel
theorem dX12_setWeight_2 : decode cX12_setWeight 2 = .ok (.invokevirtual 78, 3) := by decide +kernel
theorem dX12_setWeight_5 : decode cX12_setWeight 5 = .ok (.ifCond .ne 27, 3) := by decide +kernel
theorem dX12_setWeight_8 : decode cX12_setWeight 8 = .ok (.aload_n 0, 1) := by decide +kernel
theorem dX12_setWeight_9 : decode cX12_setWeight 9 = .ok (.iload_n 2, 1) := by decide +kernel
theorem dX12_setWeight_10 : decode cX12_setWeight 10 = .ok (.i2l, 1) := by decide +kernel
theorem dX12_setWeight_11 : decode cX12_setWeight 11 = .ok (.lconst 0, 1) := by decide +kernel
theorem dX12_setWeight_12 : decode cX12_setWeight 12 = .ok (.ldc2_w 85, 3) := by decide +kernel
theorem dX12_setWeight_15 : decode cX12_setWeight 15 = .ok (.invokestatic 29, 3) := by decide +kernel
theorem dX12_setWeight_18 : decode cX12_setWeight 18 = .ok (.ifCond .eq 7, 3) := by decide +kernel
theorem dX12_setWeight_21 : decode cX12_setWeight 21 = .ok (.iconst 0, 1) := by decide +kernel
theorem dX12_setWeight_22 : decode cX12_setWeight 22 = .ok (.goto 4, 3) := by decide +kernel
theorem dX12_setWeight_25 : decode cX12_setWeight 25 = .ok (.iconst 2, 1) := by decide +kernel
theorem dX12_setWeight_26 : decode cX12_setWeight 26 = .ok (.invokevirtual 39, 3) := by decide +kernel
theorem dX12_setWeight_29 : decode cX12_setWeight 29 = .ok (.ifCond .eq 5, 3) := by decide +kernel
theorem dX12_setWeight_32 : decode cX12_setWeight 32 = .ok (.iconst 0, 1) := by decide +kernel
theorem dX12_setWeight_33 : decode cX12_setWeight 33 = .ok (.ireturn, 1) := by decide +kernel
theorem dX12_setWeight_34 : decode cX12_setWeight 34 = .ok (.aload_n 0, 1) := by decide +kernel
theorem dX12_setWeight_35 : decode cX12_setWeight 35 = .ok (.getfield 11, 3) := by decide +kernel
theorem dX12_setWeight_38 : decode cX12_setWeight 38 = .ok (.iload_n 1, 1) := by decide +kernel
theorem dX12_setWeight_39 : decode cX12_setWeight 39 = .ok (.aaload, 1) := by decide +kernel
theorem dX12_setWeight_40 : decode cX12_setWeight 40 = .ok (.iconst 2, 1) := by decide +kernel
theorem dX12_setWeight_41 : decode cX12_setWeight 41 = .ok (.iaload, 1) := by decide +kernel
theorem dX12_setWeight_42 : decode cX12_setWeight 42 = .ok (.istore_n 3, 1) := by decide +kernel
theorem dX12_setWeight_43 : decode cX12_setWeight 43 = .ok (.aload_n 0, 1) := by decide +kernel
theorem dX12_setWeight_44 : decode cX12_setWeight 44 = .ok (.getfield 11, 3) := by decide +kernel
theorem dX12_setWeight_47 : decode cX12_setWeight 47 = .ok (.iload_n 1, 1) := by decide +kernel
theorem dX12_setWeight_48 : decode cX12_setWeight 48 = .ok (.aaload, 1) := by decide +kernel
theorem dX12_setWeight_49 : decode cX12_setWeight 49 = .ok (.iconst 2, 1) := by decide +kernel
theorem dX12_setWeight_50 : decode cX12_setWeight 50 = .ok (.iload_n 2, 1) := by decide +kernel
theorem dX12_setWeight_51 : decode cX12_setWeight 51 = .ok (.iastore, 1) := by decide +kernel
theorem dX12_setWeight_52 : decode cX12_setWeight 52 = .ok (.iload_n 3, 1) := by decide +kernel
theorem dX12_setWeight_53 : decode cX12_setWeight 53 = .ok (.ireturn, 1) := by decide +kernel
theorem dX12_countPoints_0 : decode cX12_countPoints 0 = .ok (.aload_n 0, 1) := by decide +kernel
theorem dX12_countPoints_1 : decode cX12_countPoints 1 = .ok (.iconst 0, 1) := by decide +kernel
theorem dX12_countPoints_2 : decode cX12_countPoints 2 = .ok (.putfield 25, 3) := by decide +kernel
theorem dX12_countPoints_5 : decode cX12_countPoints 5 = .ok (.aload_n 0, 1) := by decide +kernel
theorem dX12_countPoints_6 : decode cX12_countPoints 6 = .ok (.invokevirtual 72, 3) := by decide +kernel
theorem dX12_countPoints_9 : decode cX12_countPoints 9 = .ok (.ireturn, 1) := by decide +kernel
theorem dX12_pointAt_0 : decode cX12_pointAt 0 = .ok (.aload_n 0, 1) := by decide +kernel
theorem dX12_pointAt_1 : decode cX12_pointAt 1 = .ok (.aload_n 0, 1) := by decide +kernel
theorem dX12_pointAt_2 : decode cX12_pointAt 2 = .ok (.iload_n 1, 1) := by decide +kernel
theorem dX12_pointAt_3 : decode cX12_pointAt 3 = .ok (.iload_n 2, 1) := by decide +kernel
theorem dX12_pointAt_4 : decode cX12_pointAt 4 = .ok (.invokevirtual 68, 3) := by decide +kernel
theorem dX12_pointAt_7 : decode cX12_pointAt 7 = .ok (.iconst (-1), 1) := by decide +kernel
theorem dX12_pointAt_8 : decode cX12_pointAt 8 = .ok (.if_icmp .ne 7, 3) := by decide +kernel
theorem dX12_pointAt_11 : decode cX12_pointAt 11 = .ok (.iconst 1, 1) := by decide +kernel
theorem dX12_pointAt_12 : decode cX12_pointAt 12 = .ok (.goto 4, 3) := by decide +kernel
theorem dX12_pointAt_15 : decode cX12_pointAt 15 = .ok (.iconst 0, 1) := by decide +kernel
theorem dX12_pointAt_16 : decode cX12_pointAt 16 = .ok (.invokevirtual 39, 3) := by decide +kernel
theorem dX12_pointAt_19 : decode cX12_pointAt 19 = .ok (.ifCond .eq 7, 3) := by decide +kernel
theorem dX12_pointAt_22 : decode cX12_pointAt 22 = .ok (.iconst 0, 1) := by decide +kernel
theorem dX12_pointAt_23 : decode cX12_pointAt 23 = .ok (.goto 9, 3) := by decide +kernel
theorem dX12_pointAt_26 : decode cX12_pointAt 26 = .ok (.aload_n 0, 1) := by decide +kernel
theorem dX12_pointAt_27 : decode cX12_pointAt 27 = .ok (.iload_n 1, 1) := by decide +kernel
theorem dX12_pointAt_28 : decode cX12_pointAt 28 = .ok (.iload_n 2, 1) := by decide +kernel
theorem dX12_pointAt_29 : decode cX12_pointAt 29 = .ok (.invokevirtual 68, 3) := by decide +kernel
theorem dX12_pointAt_32 : decode cX12_pointAt 32 = .ok (.ireturn, 1) := by decide +kernel
theorem dX12_undo_0 : decode cX12_undo 0 = .ok (.aload_n 0, 1) := by decide +kernel
theorem dX12_undo_1 : decode cX12_undo 1 = .ok (.aload_n 0, 1) := by decide +kernel
theorem dX12_undo_2 : decode cX12_undo 2 = .ok (.getfield 18, 3) := by decide +kernel
theorem dX12_undo_5 : decode cX12_undo 5 = .ok (.invokeinterface 87 1, 5) := by decide +kernel
theorem dX12_undo_10 : decode cX12_undo 10 = .ok (.ifCond .eq 7, 3) := by decide +kernel
theorem dX12_undo_13 : decode cX12_undo 13 = .ok (.iconst 1, 1) := by decide +kernel
theorem dX12_undo_14 : decode cX12_undo 14 = .ok (.goto 4, 3) := by decide +kernel
theorem dX12_undo_17 : decode cX12_undo 17 = .ok (.iconst 0, 1) := by decide +kernel
theorem dX12_undo_18 : decode cX12_undo 18 = .ok (.invokevirtual 39, 3) := by decide +kernel
theorem dX12_undo_21 : decode cX12_undo 21 = .ok (.ifCond .eq 5, 3) := by decide +kernel
theorem dX12_undo_24 : decode cX12_undo 24 = .ok (.iconst 0, 1) := by decide +kernel
theorem dX12_undo_25 : decode cX12_undo 25 = .ok (.ireturn, 1) := by decide +kernel
theorem dX12_undo_26 : decode cX12_undo 26 = .ok (.aload_n 0, 1) := by decide +kernel
theorem dX12_undo_27 : decode cX12_undo 27 = .ok (.aload_n 0, 1) := by decide +kernel
theorem dX12_undo_28 : decode cX12_undo 28 = .ok (.getfield 18, 3) := by decide +kernel
theorem dX12_undo_31 : decode cX12_undo 31 = .ok (.aload_n 0, 1) := by decide +kernel
theorem dX12_undo_32 : decode cX12_undo 32 = .ok (.getfield 18, 3) := by decide +kernel
theorem dX12_undo_35 : decode cX12_undo 35 = .ok (.invokeinterface 56 1, 5) := by decide +kernel
theorem dX12_undo_40 : decode cX12_undo 40 = .ok (.iconst 1, 1) := by decide +kernel
theorem dX12_undo_41 : decode cX12_undo 41 = .ok (.isub, 1) := by decide +kernel
theorem dX12_undo_42 : decode cX12_undo 42 = .ok (.invokeinterface 60 2, 5) := by decide +kernel
theorem dX12_undo_47 : decode cX12_undo 47 = .ok (.checkcast 91, 3) := by decide +kernel
theorem dX12_undo_50 : decode cX12_undo 50 = .ok (.putfield 11, 3) := by decide +kernel
theorem dX12_undo_53 : decode cX12_undo 53 = .ok (.aload_n 0, 1) := by decide +kernel
theorem dX12_undo_54 : decode cX12_undo 54 = .ok (.getfield 18, 3) := by decide +kernel
theorem dX12_undo_57 : decode cX12_undo 57 = .ok (.invokeinterface 56 1, 5) := by decide +kernel
theorem dX12_undo_62 : decode cX12_undo 62 = .ok (.ireturn, 1) := by decide +kernel
theorem dX12_square_0 : decode cX12_square 0 = .ok (.aload_n 0, 1) := by decide +kernel
theorem dX12_square_1 : decode cX12_square 1 = .ok (.iconst 0, 1) := by decide +kernel
theorem dX12_square_2 : decode cX12_square 2 = .ok (.iaload, 1) := by decide +kernel
theorem dX12_square_3 : decode cX12_square 3 = .ok (.i2l, 1) := by decide +kernel
theorem dX12_square_4 : decode cX12_square 4 = .ok (.lload_n 1, 1) := by decide +kernel
theorem dX12_square_5 : decode cX12_square 5 = .ok (.lsub, 1) := by decide +kernel
theorem dX12_square_6 : decode cX12_square 6 = .ok (.aload_n 0, 1) := by decide +kernel
theorem dX12_square_7 : decode cX12_square 7 = .ok (.iconst 0, 1) := by decide +kernel
theorem dX12_square_8 : decode cX12_square 8 = .ok (.iaload, 1) := by decide +kernel
theorem dX12_square_9 : decode cX12_square 9 = .ok (.i2l, 1) := by decide +kernel
theorem dX12_square_10 : decode cX12_square 10 = .ok (.lload_n 1, 1) := by decide +kernel
theorem dX12_square_11 : decode cX12_square 11 = .ok (.lsub, 1) := by decide +kernel
theorem dX12_square_12 : decode cX12_square 12 = .ok (.lmul, 1) := by decide +kernel
theorem dX12_square_13 : decode cX12_square 13 = .ok (.aload_n 0, 1) := by decide +kernel
theorem dX12_square_14 : decode cX12_square 14 = .ok (.iconst 1, 1) := by decide +kernel
theorem dX12_square_15 : decode cX12_square 15 = .ok (.iaload, 1) := by decide +kernel
theorem dX12_square_16 : decode cX12_square 16 = .ok (.i2l, 1) := by decide +kernel
theorem dX12_square_17 : decode cX12_square 17 = .ok (.lload_n 3, 1) := by decide +kernel
theorem dX12_square_18 : decode cX12_square 18 = .ok (.lsub, 1) := by decide +kernel
theorem dX12_square_19 : decode cX12_square 19 = .ok (.aload_n 0, 1) := by decide +kernel
theorem dX12_square_20 : decode cX12_square 20 = .ok (.iconst 1, 1) := by decide +kernel
theorem dX12_square_21 : decode cX12_square 21 = .ok (.iaload, 1) := by decide +kernel
theorem dX12_square_22 : decode cX12_square 22 = .ok (.i2l, 1) := by decide +kernel
theorem dX12_square_23 : decode cX12_square 23 = .ok (.lload_n 3, 1) := by decide +kernel
theorem dX12_square_24 : decode cX12_square 24 = .ok (.lsub, 1) := by decide +kernel
theorem dX12_square_25 : decode cX12_square 25 = .ok (.lmul, 1) := by decide +kernel
theorem dX12_square_26 : decode cX12_square 26 = .ok (.ladd, 1) := by decide +kernel
theorem dX12_square_27 : decode cX12_square 27 = .ok (.lreturn, 1) := by decide +kernel
theorem dX12_apart_0 : decode cX12_apart 0 = .ok (.aload_n 0, 1) := by decide +kernel
theorem dX12_apart_1 : decode cX12_apart 1 = .ok (.getfield 11, 3) := by decide +kernel
theorem dX12_apart_4 : decode cX12_apart 4 = .ok (.iload_n 1, 1) := by decide +kernel
theorem dX12_apart_5 : decode cX12_apart 5 = .ok (.aaload, 1) := by decide +kernel
theorem dX12_apart_6 : decode cX12_apart 6 = .ok (.aload_n 0, 1) := by decide +kernel
theorem dX12_apart_7 : decode cX12_apart 7 = .ok (.getfield 11, 3) := by decide +kernel
theorem dX12_apart_10 : decode cX12_apart 10 = .ok (.iload_n 2, 1) := by decide +kernel
theorem dX12_apart_11 : decode cX12_apart 11 = .ok (.aaload, 1) := by decide +kernel
theorem dX12_apart_12 : decode cX12_apart 12 = .ok (.iconst 0, 1) := by decide +kernel
theorem dX12_apart_13 : decode cX12_apart 13 = .ok (.iaload, 1) := by decide +kernel
theorem dX12_apart_14 : decode cX12_apart 14 = .ok (.i2l, 1) := by decide +kernel
theorem dX12_apart_15 : decode cX12_apart 15 = .ok (.aload_n 0, 1) := by decide +kernel
theorem dX12_apart_16 : decode cX12_apart 16 = .ok (.getfield 11, 3) := by decide +kernel
theorem dX12_apart_19 : decode cX12_apart 19 = .ok (.iload_n 2, 1) := by decide +kernel
theorem dX12_apart_20 : decode cX12_apart 20 = .ok (.aaload, 1) := by decide +kernel
theorem dX12_apart_21 : decode cX12_apart 21 = .ok (.iconst 1, 1) := by decide +kernel
theorem dX12_apart_22 : decode cX12_apart 22 = .ok (.iaload, 1) := by decide +kernel
theorem dX12_apart_23 : decode cX12_apart 23 = .ok (.i2l, 1) := by decide +kernel
theorem dX12_apart_24 : decode cX12_apart 24 = .ok (.invokestatic 81, 3) := by decide +kernel
theorem dX12_apart_27 : decode cX12_apart 27 = .ok (.lreturn, 1) := by decide +kernel
theorem dX12_nearness_0 : decode cX12_nearness 0 = .ok (.aload_n 1, 1) := by decide +kernel
theorem dX12_nearness_1 : decode cX12_nearness 1 = .ok (.iconst 0, 1) := by decide +kernel
theorem dX12_nearness_2 : decode cX12_nearness 2 = .ok (.iaload, 1) := by decide +kernel
theorem dX12_nearness_3 : decode cX12_nearness 3 = .ok (.iload_n 2, 1) := by decide +kernel
theorem dX12_nearness_4 : decode cX12_nearness 4 = .ok (.isub, 1) := by decide +kernel
theorem dX12_nearness_5 : decode cX12_nearness 5 = .ok (.invokestatic 92, 3) := by decide +kernel
theorem dX12_nearness_8 : decode cX12_nearness 8 = .ok (.istore 4, 2) := by decide +kernel
theorem dX12_nearness_10 : decode cX12_nearness 10 = .ok (.aload_n 1, 1) := by decide +kernel
theorem dX12_nearness_11 : decode cX12_nearness 11 = .ok (.iconst 1, 1) := by decide +kernel
theorem dX12_nearness_12 : decode cX12_nearness 12 = .ok (.iaload, 1) := by decide +kernel
theorem dX12_nearness_13 : decode cX12_nearness 13 = .ok (.iload_n 3, 1) := by decide +kernel
theorem dX12_nearness_14 : decode cX12_nearness 14 = .ok (.isub, 1) := by decide +kernel
theorem dX12_nearness_15 : decode cX12_nearness 15 = .ok (.invokestatic 92, 3) := by decide +kernel
theorem dX12_nearness_18 : decode cX12_nearness 18 = .ok (.istore 5, 2) := by decide +kernel
theorem dX12_nearness_20 : decode cX12_nearness 20 = .ok (.iload_n 0, 1) := by decide +kernel
theorem dX12_nearness_21 : decode cX12_nearness 21 = .ok (.bipush 115, 2) := by decide +kernel
theorem dX12_nearness_23 : decode cX12_nearness 23 = .ok (.if_icmp .ne 12, 3) := by decide +kernel
theorem dX12_nearness_26 : decode cX12_nearness 26 = .ok (.iload 4, 2) := by decide +kernel
theorem dX12_nearness_28 : decode cX12_nearness 28 = .ok (.iload 5, 2) := by decide +kernel
theorem dX12_nearness_30 : decode cX12_nearness 30 = .ok (.iadd, 1) := by decide +kernel
theorem dX12_nearness_31 : decode cX12_nearness 31 = .ok (.i2l, 1) := by decide +kernel
theorem dX12_nearness_32 : decode cX12_nearness 32 = .ok (.goto 43, 3) := by decide +kernel
theorem dX12_nearness_35 : decode cX12_nearness 35 = .ok (.iload_n 0, 1) := by decide +kernel
theorem dX12_nearness_36 : decode cX12_nearness 36 = .ok (.bipush 109, 2) := by decide +kernel
theorem dX12_nearness_38 : decode cX12_nearness 38 = .ok (.if_icmp .ne 14, 3) := by decide +kernel
theorem dX12_nearness_41 : decode cX12_nearness 41 = .ok (.iload 4, 2) := by decide +kernel
theorem dX12_nearness_43 : decode cX12_nearness 43 = .ok (.iload 5, 2) := by decide +kernel
theorem dX12_nearness_45 : decode cX12_nearness 45 = .ok (.invokestatic 98, 3) := by decide +kernel
theorem dX12_nearness_48 : decode cX12_nearness 48 = .ok (.i2l, 1) := by decide +kernel
theorem dX12_nearness_49 : decode cX12_nearness 49 = .ok (.goto 26, 3) := by decide +kernel
theorem dX12_nearness_52 : decode cX12_nearness 52 = .ok (.aload_n 1, 1) := by decide +kernel
theorem dX12_nearness_53 : decode cX12_nearness 53 = .ok (.iload_n 2, 1) := by decide +kernel
theorem dX12_nearness_54 : decode cX12_nearness 54 = .ok (.i2l, 1) := by decide +kernel
theorem dX12_nearness_55 : decode cX12_nearness 55 = .ok (.iload_n 3, 1) := by decide +kernel
theorem dX12_nearness_56 : decode cX12_nearness 56 = .ok (.i2l, 1) := by decide +kernel
theorem dX12_nearness_57 : decode cX12_nearness 57 = .ok (.invokestatic 81, 3) := by decide +kernel
theorem dX12_nearness_60 : decode cX12_nearness 60 = .ok (.iload_n 0, 1) := by decide +kernel
theorem dX12_nearness_61 : decode cX12_nearness 61 = .ok (.bipush 112, 2) := by decide +kernel
theorem dX12_nearness_63 : decode cX12_nearness 63 = .ok (.if_icmp .ne 9, 3) := by decide +kernel
theorem dX12_nearness_66 : decode cX12_nearness 66 = .ok (.aload_n 1, 1) := by decide +kernel
theorem dX12_nearness_67 : decode cX12_nearness 67 = .ok (.iconst 2, 1) := by decide +kernel
theorem dX12_nearness_68 : decode cX12_nearness 68 = .ok (.iaload, 1) := by decide +kernel
theorem dX12_nearness_69 : decode cX12_nearness 69 = .ok (.goto 4, 3) := by decide +kernel
theorem dX12_nearness_72 : decode cX12_nearness 72 = .ok (.iconst 0, 1) := by decide +kernel
theorem dX12_nearness_73 : decode cX12_nearness 73 = .ok (.i2l, 1) := by decide +kernel
theorem dX12_nearness_74 : decode cX12_nearness 74 = .ok (.lsub, 1) := by decide +kernel
theorem dX12_nearness_75 : decode cX12_nearness 75 = .ok (.lreturn, 1) := by decide +kernel
theorem dX12_isKind_0 : decode cX12_isKind 0 = .ok (.iload_n 0, 1) := by decide +kernel
theorem dX12_isKind_1 : decode cX12_isKind 1 = .ok (.bipush 101, 2) := by decide +kernel
theorem dX12_isKind_3 : decode cX12_isKind 3 = .ok (.if_icmp .eq 21, 3) := by decide +kernel
theorem dX12_isKind_6 : decode cX12_isKind 6 = .ok (.iload_n 0, 1) := by decide +kernel
theorem dX12_isKind_7 : decode cX12_isKind 7 = .ok (.bipush 115, 2) := by decide +kernel
theorem dX12_isKind_9 : decode cX12_isKind 9 = .ok (.if_icmp .eq 15, 3) := by decide +kernel
theorem dX12_isKind_12 : decode cX12_isKind 12 = .ok (.iload_n 0, 1) := by decide +kernel
theorem dX12_isKind_13 : decode cX12_isKind 13 = .ok (.bipush 109, 2) := by decide +kernel
theorem dX12_isKind_15 : decode cX12_isKind 15 = .ok (.if_icmp .eq 9, 3) := by decide +kernel
theorem dX12_isKind_18 : decode cX12_isKind 18 = .ok (.iload_n 0, 1) := by decide +kernel
theorem dX12_isKind_19 : decode cX12_isKind 19 = .ok (.bipush 112, 2) := by decide +kernel
theorem dX12_isKind_21 : decode cX12_isKind 21 = .ok (.if_icmp .ne 7, 3) := by decide +kernel
theorem dX12_isKind_24 : decode cX12_isKind 24 = .ok (.iconst 1, 1) := by decide +kernel
theorem dX12_isKind_25 : decode cX12_isKind 25 = .ok (.goto 4, 3) := by decide +kernel
theorem dX12_isKind_28 : decode cX12_isKind 28 = .ok (.iconst 0, 1) := by decide +kernel
theorem dX12_isKind_29 : decode cX12_isKind 29 = .ok (.ireturn, 1) := by decide +kernel
theorem dX12_byNearness_0 : decode cX12_byNearness 0 = .ok (.aload_n 0, 1) := by decide +kernel
theorem dX12_byNearness_1 : decode cX12_byNearness 1 = .ok (.invokevirtual 72, 3) := by decide +kernel
theorem dX12_byNearness_4 : decode cX12_byNearness 4 = .ok (.newarray .int, 2) := by decide +kernel
theorem dX12_byNearness_6 : decode cX12_byNearness 6 = .ok (.astore 4, 2) := by decide +kernel
theorem dX12_byNearness_8 : decode cX12_byNearness 8 = .ok (.iconst 0, 1) := by decide +kernel
theorem dX12_byNearness_9 : decode cX12_byNearness 9 = .ok (.istore 5, 2) := by decide +kernel
theorem dX12_byNearness_11 : decode cX12_byNearness 11 = .ok (.iconst 0, 1) := by decide +kernel
theorem dX12_byNearness_12 : decode cX12_byNearness 12 = .ok (.istore 6, 2) := by decide +kernel
theorem dX12_byNearness_14 : decode cX12_byNearness 14 = .ok (.iload 6, 2) := by decide +kernel
theorem dX12_byNearness_16 : decode cX12_byNearness 16 = .ok (.bipush 12, 2) := by decide +kernel
theorem dX12_byNearness_18 : decode cX12_byNearness 18 = .ok (.if_icmp .ge 94, 3) := by decide +kernel
theorem dX12_byNearness_21 : decode cX12_byNearness 21 = .ok (.aload_n 0, 1) := by decide +kernel
theorem dX12_byNearness_22 : decode cX12_byNearness 22 = .ok (.getfield 11, 3) := by decide +kernel
theorem dX12_byNearness_25 : decode cX12_byNearness 25 = .ok (.iload 6, 2) := by decide +kernel
theorem dX12_byNearness_27 : decode cX12_byNearness 27 = .ok (.aaload, 1) := by decide +kernel
theorem dX12_byNearness_28 : decode cX12_byNearness 28 = .ok (.ifnonnull 6, 3) := by decide +kernel
theorem dX12_byNearness_31 : decode cX12_byNearness 31 = .ok (.goto 75, 3) := by decide +kernel
theorem dX12_byNearness_34 : decode cX12_byNearness 34 = .ok (.iload 5, 2) := by decide +kernel
theorem dX12_byNearness_36 : decode cX12_byNearness 36 = .ok (.istore 7, 2) := by decide +kernel
theorem dX12_byNearness_38 : decode cX12_byNearness 38 = .ok (.iload 7, 2) := by decide +kernel
theorem dX12_byNearness_40 : decode cX12_byNearness 40 = .ok (.ifCond .le 56, 3) := by decide +kernel
theorem dX12_byNearness_43 : decode cX12_byNearness 43 = .ok (.iload_n 1, 1) := by decide +kernel
theorem dX12_byNearness_44 : decode cX12_byNearness 44 = .ok (.aload_n 0, 1) := by decide +kernel
theorem dX12_byNearness_45 : decode cX12_byNearness 45 = .ok (.getfield 11, 3) := by decide +kernel
theorem dX12_byNearness_48 : decode cX12_byNearness 48 = .ok (.aload 4, 2) := by decide +kernel
theorem dX12_byNearness_50 : decode cX12_byNearness 50 = .ok (.iload 7, 2) := by decide +kernel
theorem dX12_byNearness_52 : decode cX12_byNearness 52 = .ok (.iconst 1, 1) := by decide +kernel
theorem dX12_byNearness_53 : decode cX12_byNearness 53 = .ok (.isub, 1) := by decide +kernel
theorem dX12_byNearness_54 : decode cX12_byNearness 54 = .ok (.iaload, 1) := by decide +kernel
theorem dX12_byNearness_55 : decode cX12_byNearness 55 = .ok (.aaload, 1) := by decide +kernel
theorem dX12_byNearness_56 : decode cX12_byNearness 56 = .ok (.iload_n 2, 1) := by decide +kernel
theorem dX12_byNearness_57 : decode cX12_byNearness 57 = .ok (.iload_n 3, 1) := by decide +kernel
theorem dX12_byNearness_58 : decode cX12_byNearness 58 = .ok (.invokestatic 101, 3) := by decide +kernel
theorem dX12_byNearness_61 : decode cX12_byNearness 61 = .ok (.iload_n 1, 1) := by decide +kernel
theorem dX12_byNearness_62 : decode cX12_byNearness 62 = .ok (.aload_n 0, 1) := by decide +kernel
theorem dX12_byNearness_63 : decode cX12_byNearness 63 = .ok (.getfield 11, 3) := by decide +kernel
theorem dX12_byNearness_66 : decode cX12_byNearness 66 = .ok (.iload 6, 2) := by decide +kernel
theorem dX12_byNearness_68 : decode cX12_byNearness 68 = .ok (.aaload, 1) := by decide +kernel
theorem dX12_byNearness_69 : decode cX12_byNearness 69 = .ok (.iload_n 2, 1) := by decide +kernel
theorem dX12_byNearness_70 : decode cX12_byNearness 70 = .ok (.iload_n 3, 1) := by decide +kernel
theorem dX12_byNearness_71 : decode cX12_byNearness 71 = .ok (.invokestatic 101, 3) := by decide +kernel
theorem dX12_byNearness_74 : decode cX12_byNearness 74 = .ok (.lcmp, 1) := by decide +kernel
theorem dX12_byNearness_75 : decode cX12_byNearness 75 = .ok (.ifCond .le 21, 3) := by decide +kernel
theorem dX12_byNearness_78 : decode cX12_byNearness 78 = .ok (.aload 4, 2) := by decide +kernel
theorem dX12_byNearness_80 : decode cX12_byNearness 80 = .ok (.iload 7, 2) := by decide +kernel
theorem dX12_byNearness_82 : decode cX12_byNearness 82 = .ok (.aload 4, 2) := by decide +kernel
theorem dX12_byNearness_84 : decode cX12_byNearness 84 = .ok (.iload 7, 2) := by decide +kernel
theorem dX12_byNearness_86 : decode cX12_byNearness 86 = .ok (.iconst 1, 1) := by decide +kernel
theorem dX12_byNearness_87 : decode cX12_byNearness 87 = .ok (.isub, 1) := by decide +kernel
theorem dX12_byNearness_88 : decode cX12_byNearness 88 = .ok (.iaload, 1) := by decide +kernel
theorem dX12_byNearness_89 : decode cX12_byNearness 89 = .ok (.iastore, 1) := by decide +kernel
theorem dX12_byNearness_90 : decode cX12_byNearness 90 = .ok (.iinc 7 (-1), 3) := by decide +kernel
theorem dX12_byNearness_93 : decode cX12_byNearness 93 = .ok (.goto (-55), 3) := by decide +kernel
theorem dX12_byNearness_96 : decode cX12_byNearness 96 = .ok (.aload 4, 2) := by decide +kernel
theorem dX12_byNearness_98 : decode cX12_byNearness 98 = .ok (.iload 7, 2) := by decide +kernel
theorem dX12_byNearness_100 : decode cX12_byNearness 100 = .ok (.iload 6, 2) := by decide +kernel
theorem dX12_byNearness_102 : decode cX12_byNearness 102 = .ok (.iastore, 1) := by decide +kernel
theorem dX12_byNearness_103 : decode cX12_byNearness 103 = .ok (.iinc 5 1, 3) := by decide +kernel
theorem dX12_byNearness_106 : decode cX12_byNearness 106 = .ok (.iinc 6 1, 3) := by decide +kernel
theorem dX12_byNearness_109 : decode cX12_byNearness 109 = .ok (.goto (-95), 3) := by decide +kernel
theorem dX12_byNearness_112 : decode cX12_byNearness 112 = .ok (.aload 4, 2) := by decide +kernel
theorem dX12_byNearness_114 : decode cX12_byNearness 114 = .ok (.areturn, 1) := by decide +kernel
theorem dX12_isNoQuestion_0 : decode cX12_isNoQuestion 0 = .ok (.aload_n 0, 1) := by decide +kernel
theorem dX12_isNoQuestion_1 : decode cX12_isNoQuestion 1 = .ok (.iload_n 1, 1) := by decide +kernel
theorem dX12_isNoQuestion_2 : decode cX12_isNoQuestion 2 = .ok (.invokestatic 105, 3) := by decide +kernel
theorem dX12_isNoQuestion_5 : decode cX12_isNoQuestion 5 = .ok (.ifCond .eq 14, 3) := by decide +kernel
theorem dX12_isNoQuestion_8 : decode cX12_isNoQuestion 8 = .ok (.iload_n 2, 1) := by decide +kernel
theorem dX12_isNoQuestion_9 : decode cX12_isNoQuestion 9 = .ok (.iload_n 3, 1) := by decide +kernel
theorem dX12_isNoQuestion_10 : decode cX12_isNoQuestion 10 = .ok (.sipush 999, 3) := by decide +kernel
theorem dX12_isNoQuestion_13 : decode cX12_isNoQuestion 13 = .ok (.invokestatic 64, 3) := by decide +kernel
theorem dX12_isNoQuestion_16 : decode cX12_isNoQuestion 16 = .ok (.ifCond .ne 7, 3) := by decide +kernel
theorem dX12_isNoQuestion_19 : decode cX12_isNoQuestion 19 = .ok (.iconst 1, 1) := by decide +kernel
theorem dX12_isNoQuestion_20 : decode cX12_isNoQuestion 20 = .ok (.goto 25, 3) := by decide +kernel
theorem dX12_isNoQuestion_23 : decode cX12_isNoQuestion 23 = .ok (.iload 4, 2) := by decide +kernel
theorem dX12_isNoQuestion_25 : decode cX12_isNoQuestion 25 = .ok (.i2l, 1) := by decide +kernel
theorem dX12_isNoQuestion_26 : decode cX12_isNoQuestion 26 = .ok (.lconst 0, 1) := by decide +kernel
theorem dX12_isNoQuestion_27 : decode cX12_isNoQuestion 27 = .ok (.aload_n 0, 1) := by decide +kernel
theorem dX12_isNoQuestion_28 : decode cX12_isNoQuestion 28 = .ok (.invokevirtual 72, 3) := by decide +kernel
theorem dX12_isNoQuestion_31 : decode cX12_isNoQuestion 31 = .ok (.iconst 1, 1) := by decide +kernel
theorem dX12_isNoQuestion_32 : decode cX12_isNoQuestion 32 = .ok (.isub, 1) := by decide +kernel
theorem dX12_isNoQuestion_33 : decode cX12_isNoQuestion 33 = .ok (.i2l, 1) := by decide +kernel
theorem dX12_isNoQuestion_34 : decode cX12_isNoQuestion 34 = .ok (.invokestatic 29, 3) := by decide +kernel
theorem dX12_isNoQuestion_37 : decode cX12_isNoQuestion 37 = .ok (.ifCond .eq 7, 3) := by decide +kernel
theorem dX12_isNoQuestion_40 : decode cX12_isNoQuestion 40 = .ok (.iconst 0, 1) := by decide +kernel
theorem dX12_isNoQuestion_41 : decode cX12_isNoQuestion 41 = .ok (.goto 4, 3) := by decide +kernel
theorem dX12_isNoQuestion_44 : decode cX12_isNoQuestion 44 = .ok (.iconst 2, 1) := by decide +kernel
theorem dX12_isNoQuestion_45 : decode cX12_isNoQuestion 45 = .ok (.invokevirtual 39, 3) := by decide +kernel
theorem dX12_isNoQuestion_48 : decode cX12_isNoQuestion 48 = .ok (.ireturn, 1) := by decide +kernel
theorem dX12_nearest_0 : decode cX12_nearest 0 = .ok (.aload_n 0, 1) := by decide +kernel
theorem dX12_nearest_1 : decode cX12_nearest 1 = .ok (.iload_n 1, 1) := by decide +kernel
theorem dX12_nearest_2 : decode cX12_nearest 2 = .ok (.iload_n 2, 1) := by decide +kernel
theorem dX12_nearest_3 : decode cX12_nearest 3 = .ok (.iload_n 3, 1) := by decide +kernel
theorem dX12_nearest_4 : decode cX12_nearest 4 = .ok (.iconst 0, 1) := by decide +kernel
theorem dX12_nearest_5 : decode cX12_nearest 5 = .ok (.invokevirtual 109, 3) := by decide +kernel
theorem dX12_nearest_8 : decode cX12_nearest 8 = .ok (.ireturn, 1) := by decide +kernel
theorem dX12_nearness__0 : decode cX12_nearness_ 0 = .ok (.aload_n 0, 1) := by decide +kernel
theorem dX12_nearness__1 : decode cX12_nearness_ 1 = .ok (.iload_n 1, 1) := by decide +kernel
theorem dX12_nearness__2 : decode cX12_nearness_ 2 = .ok (.iload_n 2, 1) := by decide +kernel
theorem dX12_nearness__3 : decode cX12_nearness_ 3 = .ok (.iload_n 3, 1) := by decide +kernel
theorem dX12_nearness__4 : decode cX12_nearness_ 4 = .ok (.iconst 0, 1) := by decide +kernel
theorem dX12_nearness__5 : decode cX12_nearness_ 5 = .ok (.invokevirtual 113, 3) := by decide +kernel
theorem dX12_nearness__8 : decode cX12_nearness_ 8 = .ok (.ifCond .eq 7, 3) := by decide +kernel
theorem dX12_nearness__11 : decode cX12_nearness_ 11 = .ok (.iconst 0, 1) := by decide +kernel
theorem dX12_nearness__12 : decode cX12_nearness_ 12 = .ok (.goto 24, 3) := by decide +kernel
theorem dX12_nearness__15 : decode cX12_nearness_ 15 = .ok (.iload_n 1, 1) := by decide +kernel
theorem dX12_nearness__16 : decode cX12_nearness_ 16 = .ok (.aload_n 0, 1) := by decide +kernel
theorem dX12_nearness__17 : decode cX12_nearness_ 17 = .ok (.getfield 11, 3) := by decide +kernel
theorem dX12_nearness__20 : decode cX12_nearness_ 20 = .ok (.aload_n 0, 1) := by decide +kernel
theorem dX12_nearness__21 : decode cX12_nearness_ 21 = .ok (.iload_n 1, 1) := by decide +kernel
theorem dX12_nearness__22 : decode cX12_nearness_ 22 = .ok (.iload_n 2, 1) := by decide +kernel
theorem dX12_nearness__23 : decode cX12_nearness_ 23 = .ok (.iload_n 3, 1) := by decide +kernel
theorem dX12_nearness__24 : decode cX12_nearness_ 24 = .ok (.invokevirtual 117, 3) := by decide +kernel
theorem dX12_nearness__27 : decode cX12_nearness_ 27 = .ok (.iconst 0, 1) := by decide +kernel
theorem dX12_nearness__28 : decode cX12_nearness_ 28 = .ok (.iaload, 1) := by decide +kernel
theorem dX12_nearness__29 : decode cX12_nearness_ 29 = .ok (.aaload, 1) := by decide +kernel
theorem dX12_nearness__30 : decode cX12_nearness_ 30 = .ok (.iload_n 2, 1) := by decide +kernel
theorem dX12_nearness__31 : decode cX12_nearness_ 31 = .ok (.iload_n 3, 1) := by decide +kernel
theorem dX12_nearness__32 : decode cX12_nearness_ 32 = .ok (.invokestatic 101, 3) := by decide +kernel
theorem dX12_nearness__35 : decode cX12_nearness_ 35 = .ok (.l2i, 1) := by decide +kernel
theorem dX12_nearness__36 : decode cX12_nearness_ 36 = .ok (.ireturn, 1) := by decide +kernel
theorem dX12_farthest_0 : decode cX12_farthest 0 = .ok (.aload_n 0, 1) := by decide +kernel
theorem dX12_farthest_1 : decode cX12_farthest 1 = .ok (.iload_n 1, 1) := by decide +kernel
theorem dX12_farthest_2 : decode cX12_farthest 2 = .ok (.iload_n 2, 1) := by decide +kernel
theorem dX12_farthest_3 : decode cX12_farthest 3 = .ok (.iload_n 3, 1) := by decide +kernel
theorem dX12_farthest_4 : decode cX12_farthest 4 = .ok (.iconst 0, 1) := by decide +kernel
theorem dX12_farthest_5 : decode cX12_farthest 5 = .ok (.invokevirtual 113, 3) := by decide +kernel
theorem dX12_farthest_8 : decode cX12_farthest 8 = .ok (.ifCond .eq 5, 3) := by decide +kernel
theorem dX12_farthest_11 : decode cX12_farthest 11 = .ok (.iconst 0, 1) := by decide +kernel
theorem dX12_farthest_12 : decode cX12_farthest 12 = .ok (.ireturn, 1) := by decide +kernel
theorem dX12_farthest_13 : decode cX12_farthest 13 = .ok (.iconst (-1), 1) := by decide +kernel
theorem dX12_farthest_14 : decode cX12_farthest 14 = .ok (.istore 4, 2) := by decide +kernel
theorem dX12_farthest_16 : decode cX12_farthest 16 = .ok (.iconst 0, 1) := by decide +kernel
theorem dX12_farthest_17 : decode cX12_farthest 17 = .ok (.istore 5, 2) := by decide +kernel
theorem dX12_farthest_19 : decode cX12_farthest 19 = .ok (.iload 5, 2) := by decide +kernel
theorem dX12_farthest_21 : decode cX12_farthest 21 = .ok (.bipush 12, 2) := by decide +kernel
theorem dX12_farthest_23 : decode cX12_farthest 23 = .ok (.if_icmp .ge 64, 3) := by decide +kernel
theorem dX12_farthest_26 : decode cX12_farthest 26 = .ok (.aload_n 0, 1) := by decide +kernel
theorem dX12_farthest_27 : decode cX12_farthest 27 = .ok (.getfield 11, 3) := by decide +kernel
theorem dX12_farthest_30 : decode cX12_farthest 30 = .ok (.iload 5, 2) := by decide +kernel
theorem dX12_farthest_32 : decode cX12_farthest 32 = .ok (.aaload, 1) := by decide +kernel
theorem dX12_farthest_33 : decode cX12_farthest 33 = .ok (.ifnull 44, 3) := by decide +kernel
theorem dX12_farthest_36 : decode cX12_farthest 36 = .ok (.iload 4, 2) := by decide +kernel
theorem dX12_farthest_38 : decode cX12_farthest 38 = .ok (.iconst (-1), 1) := by decide +kernel
theorem dX12_farthest_39 : decode cX12_farthest 39 = .ok (.if_icmp .eq 33, 3) := by decide +kernel
theorem dX12_farthest_42 : decode cX12_farthest 42 = .ok (.iload_n 1, 1) := by decide +kernel
theorem dX12_farthest_43 : decode cX12_farthest 43 = .ok (.aload_n 0, 1) := by decide +kernel
theorem dX12_farthest_44 : decode cX12_farthest 44 = .ok (.getfield 11, 3) := by decide +kernel
theorem dX12_farthest_47 : decode cX12_farthest 47 = .ok (.iload 5, 2) := by decide +kernel
theorem dX12_farthest_49 : decode cX12_farthest 49 = .ok (.aaload, 1) := by decide +kernel
theorem dX12_farthest_50 : decode cX12_farthest 50 = .ok (.iload_n 2, 1) := by decide +kernel
theorem dX12_farthest_51 : decode cX12_farthest 51 = .ok (.iload_n 3, 1) := by decide +kernel
theorem dX12_farthest_52 : decode cX12_farthest 52 = .ok (.invokestatic 101, 3) := by decide +kernel
theorem dX12_farthest_55 : decode cX12_farthest 55 = .ok (.iload_n 1, 1) := by decide +kernel
theorem dX12_farthest_56 : decode cX12_farthest 56 = .ok (.aload_n 0, 1) := by decide +kernel
theorem dX12_farthest_57 : decode cX12_farthest 57 = .ok (.getfield 11, 3) := by decide +kernel
theorem dX12_farthest_60 : decode cX12_farthest 60 = .ok (.iload 4, 2) := by decide +kernel
theorem dX12_farthest_62 : decode cX12_farthest 62 = .ok (.aaload, 1) := by decide +kernel
theorem dX12_farthest_63 : decode cX12_farthest 63 = .ok (.iload_n 2, 1) := by decide +kernel
theorem dX12_farthest_64 : decode cX12_farthest 64 = .ok (.iload_n 3, 1) := by decide +kernel
theorem dX12_farthest_65 : decode cX12_farthest 65 = .ok (.invokestatic 101, 3) := by decide +kernel
theorem dX12_farthest_68 : decode cX12_farthest 68 = .ok (.lcmp, 1) := by decide +kernel
theorem dX12_farthest_69 : decode cX12_farthest 69 = .ok (.ifCond .le 8, 3) := by decide +kernel
theorem dX12_farthest_72 : decode cX12_farthest 72 = .ok (.iload 5, 2) := by decide +kernel
theorem dX12_farthest_74 : decode cX12_farthest 74 = .ok (.goto 5, 3) := by decide +kernel
theorem dX12_farthest_77 : decode cX12_farthest 77 = .ok (.iload 4, 2) := by decide +kernel
theorem dX12_farthest_79 : decode cX12_farthest 79 = .ok (.istore 4, 2) := by decide +kernel
theorem dX12_farthest_81 : decode cX12_farthest 81 = .ok (.iinc 5 1, 3) := by decide +kernel
theorem dX12_farthest_84 : decode cX12_farthest 84 = .ok (.goto (-65), 3) := by decide +kernel
theorem dX12_farthest_87 : decode cX12_farthest 87 = .ok (.iload 4, 2) := by decide +kernel
theorem dX12_farthest_89 : decode cX12_farthest 89 = .ok (.ireturn, 1) := by decide +kernel
theorem dX12_nearestAt_0 : decode cX12_nearestAt 0 = .ok (.aload_n 0, 1) := by decide +kernel
theorem dX12_nearestAt_1 : decode cX12_nearestAt 1 = .ok (.iload_n 1, 1) := by decide +kernel
theorem dX12_nearestAt_2 : decode cX12_nearestAt 2 = .ok (.iload_n 2, 1) := by decide +kernel
theorem dX12_nearestAt_3 : decode cX12_nearestAt 3 = .ok (.iload_n 3, 1) := by decide +kernel
theorem dX12_nearestAt_4 : decode cX12_nearestAt 4 = .ok (.iload 4, 2) := by decide +kernel
theorem dX12_nearestAt_6 : decode cX12_nearestAt 6 = .ok (.invokevirtual 113, 3) := by decide +kernel
theorem dX12_nearestAt_9 : decode cX12_nearestAt 9 = .ok (.ifCond .eq 7, 3) := by decide +kernel
theorem dX12_nearestAt_12 : decode cX12_nearestAt 12 = .ok (.iconst 0, 1) := by decide +kernel
theorem dX12_nearestAt_13 : decode cX12_nearestAt 13 = .ok (.goto 13, 3) := by decide +kernel
theorem dX12_nearestAt_16 : decode cX12_nearestAt 16 = .ok (.aload_n 0, 1) := by decide +kernel
theorem dX12_nearestAt_17 : decode cX12_nearestAt 17 = .ok (.iload_n 1, 1) := by decide +kernel
theorem dX12_nearestAt_18 : decode cX12_nearestAt 18 = .ok (.iload_n 2, 1) := by decide +kernel
theorem dX12_nearestAt_19 : decode cX12_nearestAt 19 = .ok (.iload_n 3, 1) := by decide +kernel
theorem dX12_nearestAt_20 : decode cX12_nearestAt 20 = .ok (.invokevirtual 117, 3) := by decide +kernel
theorem dX12_nearestAt_23 : decode cX12_nearestAt 23 = .ok (.iload 4, 2) := by decide +kernel
theorem dX12_nearestAt_25 : decode cX12_nearestAt 25 = .ok (.iaload, 1) := by decide +kernel
theorem dX12_nearestAt_26 : decode cX12_nearestAt 26 = .ok (.ireturn, 1) := by decide +kernel
theorem dX12_within_0 : decode cX12_within 0 = .ok (.aload_n 0, 1) := by decide +kernel
theorem dX12_within_1 : decode cX12_within 1 = .ok (.iload_n 1, 1) := by decide +kernel
theorem dX12_within_2 : decode cX12_within 2 = .ok (.iload_n 2, 1) := by decide +kernel
theorem dX12_within_3 : decode cX12_within 3 = .ok (.sipush 999, 3) := by decide +kernel
theorem dX12_within_6 : decode cX12_within 6 = .ok (.invokestatic 64, 3) := by decide +kernel
theorem dX12_within_9 : decode cX12_within 9 = .ok (.ifCond .eq 15, 3) := by decide +kernel
theorem dX12_within_12 : decode cX12_within 12 = .ok (.iload_n 3, 1) := by decide +kernel
theorem dX12_within_13 : decode cX12_within 13 = .ok (.i2l, 1) := by decide +kernel
theorem dX12_within_14 : decode cX12_within 14 = .ok (.lconst 0, 1) := by decide +kernel
theorem dX12_within_15 : decode cX12_within 15 = .ok (.ldc2_w 121, 3) := by decide +kernel
theorem dX12_within_18 : decode cX12_within 18 = .ok (.invokestatic 29, 3) := by decide +kernel
theorem dX12_within_21 : decode cX12_within 21 = .ok (.ifCond .ne 7, 3) := by decide +kernel
theorem dX12_within_24 : decode cX12_within 24 = .ok (.iconst 1, 1) := by decide +kernel
theorem dX12_within_25 : decode cX12_within 25 = .ok (.goto 4, 3) := by decide +kernel
theorem dX12_within_28 : decode cX12_within 28 = .ok (.iconst 0, 1) := by decide +kernel
theorem dX12_within_29 : decode cX12_within 29 = .ok (.invokevirtual 39, 3) := by decide +kernel
theorem dX12_within_32 : decode cX12_within 32 = .ok (.ifCond .eq 5, 3) := by decide +kernel
theorem dX12_within_35 : decode cX12_within 35 = .ok (.iconst 0, 1) := by decide +kernel
theorem dX12_within_36 : decode cX12_within 36 = .ok (.ireturn, 1) := by decide +kernel
theorem dX12_within_37 : decode cX12_within 37 = .ok (.iconst 0, 1) := by decide +kernel
theorem dX12_within_38 : decode cX12_within 38 = .ok (.istore 4, 2) := by decide +kernel
theorem dX12_within_40 : decode cX12_within 40 = .ok (.aload_n 0, 1) := by decide +kernel
theorem dX12_within_41 : decode cX12_within 41 = .ok (.getfield 11, 3) := by decide +kernel
theorem dX12_within_44 : decode cX12_within 44 = .ok (.astore 5, 2) := by decide +kernel
theorem dX12_within_46 : decode cX12_within 46 = .ok (.aload 5, 2) := by decide +kernel
theorem dX12_within_48 : decode cX12_within 48 = .ok (.arraylength, 1) := by decide +kernel
theorem dX12_within_49 : decode cX12_within 49 = .ok (.istore 6, 2) := by decide +kernel
theorem dX12_within_51 : decode cX12_within 51 = .ok (.iconst 0, 1) := by decide +kernel
theorem dX12_within_52 : decode cX12_within 52 = .ok (.istore 7, 2) := by decide +kernel
theorem dX12_within_54 : decode cX12_within 54 = .ok (.iload 7, 2) := by decide +kernel
theorem dX12_within_56 : decode cX12_within 56 = .ok (.iload 6, 2) := by decide +kernel
theorem dX12_within_58 : decode cX12_within 58 = .ok (.if_icmp .ge 46, 3) := by decide +kernel
theorem dX12_within_61 : decode cX12_within 61 = .ok (.aload 5, 2) := by decide +kernel
theorem dX12_within_63 : decode cX12_within 63 = .ok (.iload 7, 2) := by decide +kernel
theorem dX12_within_65 : decode cX12_within 65 = .ok (.aaload, 1) := by decide +kernel
theorem dX12_within_66 : decode cX12_within 66 = .ok (.astore 8, 2) := by decide +kernel
theorem dX12_within_68 : decode cX12_within 68 = .ok (.iload 4, 2) := by decide +kernel
theorem dX12_within_70 : decode cX12_within 70 = .ok (.aload 8, 2) := by decide +kernel
theorem dX12_within_72 : decode cX12_within 72 = .ok (.ifnull 22, 3) := by decide +kernel
theorem dX12_within_75 : decode cX12_within 75 = .ok (.aload 8, 2) := by decide +kernel
theorem dX12_within_77 : decode cX12_within 77 = .ok (.iload_n 1, 1) := by decide +kernel
theorem dX12_within_78 : decode cX12_within 78 = .ok (.i2l, 1) := by decide +kernel
theorem dX12_within_79 : decode cX12_within 79 = .ok (.iload_n 2, 1) := by decide +kernel
theorem dX12_within_80 : decode cX12_within 80 = .ok (.i2l, 1) := by decide +kernel
theorem dX12_within_81 : decode cX12_within 81 = .ok (.invokestatic 81, 3) := by decide +kernel
theorem dX12_within_84 : decode cX12_within 84 = .ok (.iload_n 3, 1) := by decide +kernel
theorem dX12_within_85 : decode cX12_within 85 = .ok (.i2l, 1) := by decide +kernel
theorem dX12_within_86 : decode cX12_within 86 = .ok (.lcmp, 1) := by decide +kernel
theorem dX12_within_87 : decode cX12_within 87 = .ok (.ifCond .gt 7, 3) := by decide +kernel
theorem dX12_within_90 : decode cX12_within 90 = .ok (.iconst 1, 1) := by decide +kernel
theorem dX12_within_91 : decode cX12_within 91 = .ok (.goto 4, 3) := by decide +kernel
theorem dX12_within_94 : decode cX12_within 94 = .ok (.iconst 0, 1) := by decide +kernel
theorem dX12_within_95 : decode cX12_within 95 = .ok (.iadd, 1) := by decide +kernel
theorem dX12_within_96 : decode cX12_within 96 = .ok (.istore 4, 2) := by decide +kernel
theorem dX12_within_98 : decode cX12_within 98 = .ok (.iinc 7 1, 3) := by decide +kernel
theorem dX12_within_101 : decode cX12_within 101 = .ok (.goto (-47), 3) := by decide +kernel
theorem dX12_within_104 : decode cX12_within 104 = .ok (.iload 4, 2) := by decide +kernel
theorem dX12_within_106 : decode cX12_within 106 = .ok (.ireturn, 1) := by decide +kernel
theorem dX12_cell_0 : decode cX12_cell 0 = .ok (.aload_n 0, 1) := by decide +kernel
theorem dX12_cell_1 : decode cX12_cell 1 = .ok (.iload_n 2, 1) := by decide +kernel
theorem dX12_cell_2 : decode cX12_cell 2 = .ok (.invokevirtual 78, 3) := by decide +kernel
theorem dX12_cell_5 : decode cX12_cell 5 = .ok (.ifCond .ne 22, 3) := by decide +kernel
theorem dX12_cell_8 : decode cX12_cell 8 = .ok (.aload_n 0, 1) := by decide +kernel
theorem dX12_cell_9 : decode cX12_cell 9 = .ok (.iload_n 1, 1) := by decide +kernel
theorem dX12_cell_10 : decode cX12_cell 10 = .ok (.invokestatic 105, 3) := by decide +kernel
theorem dX12_cell_13 : decode cX12_cell 13 = .ok (.ifCond .eq 7, 3) := by decide +kernel
theorem dX12_cell_16 : decode cX12_cell 16 = .ok (.iconst 0, 1) := by decide +kernel
theorem dX12_cell_17 : decode cX12_cell 17 = .ok (.goto 4, 3) := by decide +kernel
theorem dX12_cell_20 : decode cX12_cell 20 = .ok (.iconst 2, 1) := by decide +kernel
theorem dX12_cell_21 : decode cX12_cell 21 = .ok (.invokevirtual 39, 3) := by decide +kernel
theorem dX12_cell_24 : decode cX12_cell 24 = .ok (.ifCond .eq 5, 3) := by decide +kernel
theorem dX12_cell_27 : decode cX12_cell 27 = .ok (.iconst 0, 1) := by decide +kernel
theorem dX12_cell_28 : decode cX12_cell 28 = .ok (.ireturn, 1) := by decide +kernel
theorem dX12_cell_29 : decode cX12_cell 29 = .ok (.iconst 0, 1) := by decide +kernel
theorem dX12_cell_30 : decode cX12_cell 30 = .ok (.istore_n 3, 1) := by decide +kernel
theorem dX12_cell_31 : decode cX12_cell 31 = .ok (.bipush (-20), 2) := by decide +kernel
theorem dX12_cell_33 : decode cX12_cell 33 = .ok (.istore 4, 2) := by decide +kernel
theorem dX12_cell_35 : decode cX12_cell 35 = .ok (.iload 4, 2) := by decide +kernel
theorem dX12_cell_37 : decode cX12_cell 37 = .ok (.bipush 20, 2) := by decide +kernel
theorem dX12_cell_39 : decode cX12_cell 39 = .ok (.if_icmp .gt 152, 3) := by decide +kernel
theorem dX12_cell_42 : decode cX12_cell 42 = .ok (.bipush (-20), 2) := by decide +kernel
theorem dX12_cell_44 : decode cX12_cell 44 = .ok (.istore 5, 2) := by decide +kernel
theorem dX12_cell_46 : decode cX12_cell 46 = .ok (.iload 5, 2) := by decide +kernel
theorem dX12_cell_48 : decode cX12_cell 48 = .ok (.bipush 20, 2) := by decide +kernel
theorem dX12_cell_50 : decode cX12_cell 50 = .ok (.if_icmp .gt 135, 3) := by decide +kernel
theorem dX12_cell_53 : decode cX12_cell 53 = .ok (.iconst 1, 1) := by decide +kernel
theorem dX12_cell_54 : decode cX12_cell 54 = .ok (.istore 6, 2) := by decide +kernel
theorem dX12_cell_56 : decode cX12_cell 56 = .ok (.iload_n 1, 1) := by decide +kernel
theorem dX12_cell_57 : decode cX12_cell 57 = .ok (.aload_n 0, 1) := by decide +kernel
theorem dX12_cell_58 : decode cX12_cell 58 = .ok (.getfield 11, 3) := by decide +kernel
theorem dX12_cell_61 : decode cX12_cell 61 = .ok (.iload_n 2, 1) := by decide +kernel
theorem dX12_cell_62 : decode cX12_cell 62 = .ok (.aaload, 1) := by decide +kernel
theorem dX12_cell_63 : decode cX12_cell 63 = .ok (.iload 4, 2) := by decide +kernel
theorem dX12_cell_65 : decode cX12_cell 65 = .ok (.iload 5, 2) := by decide +kernel
theorem dX12_cell_67 : decode cX12_cell 67 = .ok (.invokestatic 101, 3) := by decide +kernel
theorem dX12_cell_70 : decode cX12_cell 70 = .ok (.lstore 7, 2) := by decide +kernel
theorem dX12_cell_72 : decode cX12_cell 72 = .ok (.iconst 0, 1) := by decide +kernel
theorem dX12_cell_73 : decode cX12_cell 73 = .ok (.istore 9, 2) := by decide +kernel
theorem dX12_cell_75 : decode cX12_cell 75 = .ok (.iload 9, 2) := by decide +kernel
theorem dX12_cell_77 : decode cX12_cell 77 = .ok (.bipush 12, 2) := by decide +kernel
theorem dX12_cell_79 : decode cX12_cell 79 = .ok (.if_icmp .ge 87, 3) := by decide +kernel
theorem dX12_cell_82 : decode cX12_cell 82 = .ok (.iload 6, 2) := by decide +kernel
theorem dX12_cell_84 : decode cX12_cell 84 = .ok (.ifCond .eq 82, 3) := by decide +kernel
theorem dX12_cell_87 : decode cX12_cell 87 = .ok (.aload_n 0, 1) := by decide +kernel
theorem dX12_cell_88 : decode cX12_cell 88 = .ok (.getfield 11, 3) := by decide +kernel
theorem dX12_cell_91 : decode cX12_cell 91 = .ok (.iload 9, 2) := by decide +kernel
theorem dX12_cell_93 : decode cX12_cell 93 = .ok (.aaload, 1) := by decide +kernel
theorem dX12_cell_94 : decode cX12_cell 94 = .ok (.ifnull 66, 3) := by decide +kernel
theorem dX12_cell_97 : decode cX12_cell 97 = .ok (.iload 9, 2) := by decide +kernel
theorem dX12_cell_99 : decode cX12_cell 99 = .ok (.iload_n 2, 1) := by decide +kernel
theorem dX12_cell_100 : decode cX12_cell 100 = .ok (.if_icmp .ne 6, 3) := by decide +kernel
theorem dX12_cell_103 : decode cX12_cell 103 = .ok (.goto 57, 3) := by decide +kernel
theorem dX12_cell_106 : decode cX12_cell 106 = .ok (.iload_n 1, 1) := by decide +kernel
theorem dX12_cell_107 : decode cX12_cell 107 = .ok (.aload_n 0, 1) := by decide +kernel
theorem dX12_cell_108 : decode cX12_cell 108 = .ok (.getfield 11, 3) := by decide +kernel
theorem dX12_cell_111 : decode cX12_cell 111 = .ok (.iload 9, 2) := by decide +kernel
theorem dX12_cell_113 : decode cX12_cell 113 = .ok (.aaload, 1) := by decide +kernel
theorem dX12_cell_114 : decode cX12_cell 114 = .ok (.iload 4, 2) := by decide +kernel
theorem dX12_cell_116 : decode cX12_cell 116 = .ok (.iload 5, 2) := by decide +kernel
theorem dX12_cell_118 : decode cX12_cell 118 = .ok (.invokestatic 101, 3) := by decide +kernel
theorem dX12_cell_121 : decode cX12_cell 121 = .ok (.lstore 10, 2) := by decide +kernel
theorem dX12_cell_123 : decode cX12_cell 123 = .ok (.iload 9, 2) := by decide +kernel
theorem dX12_cell_125 : decode cX12_cell 125 = .ok (.iload_n 2, 1) := by decide +kernel
theorem dX12_cell_126 : decode cX12_cell 126 = .ok (.if_icmp .ge 19, 3) := by decide +kernel
theorem dX12_cell_129 : decode cX12_cell 129 = .ok (.lload 7, 2) := by decide +kernel
theorem dX12_cell_131 : decode cX12_cell 131 = .ok (.lload 10, 2) := by decide +kernel
theorem dX12_cell_133 : decode cX12_cell 133 = .ok (.lcmp, 1) := by decide +kernel
theorem dX12_cell_134 : decode cX12_cell 134 = .ok (.ifCond .ge 7, 3) := by decide +kernel
theorem dX12_cell_137 : decode cX12_cell 137 = .ok (.iconst 1, 1) := by decide +kernel
theorem dX12_cell_138 : decode cX12_cell 138 = .ok (.goto 20, 3) := by decide +kernel
theorem dX12_cell_141 : decode cX12_cell 141 = .ok (.iconst 0, 1) := by decide +kernel
theorem dX12_cell_142 : decode cX12_cell 142 = .ok (.goto 16, 3) := by decide +kernel
theorem dX12_cell_145 : decode cX12_cell 145 = .ok (.lload 7, 2) := by decide +kernel
theorem dX12_cell_147 : decode cX12_cell 147 = .ok (.lload 10, 2) := by decide +kernel
theorem dX12_cell_149 : decode cX12_cell 149 = .ok (.lcmp, 1) := by decide +kernel
theorem dX12_cell_150 : decode cX12_cell 150 = .ok (.ifCond .gt 7, 3) := by decide +kernel
theorem dX12_cell_153 : decode cX12_cell 153 = .ok (.iconst 1, 1) := by decide +kernel
theorem dX12_cell_154 : decode cX12_cell 154 = .ok (.goto 4, 3) := by decide +kernel
theorem dX12_cell_157 : decode cX12_cell 157 = .ok (.iconst 0, 1) := by decide +kernel
theorem dX12_cell_158 : decode cX12_cell 158 = .ok (.istore 6, 2) := by decide +kernel
theorem dX12_cell_160 : decode cX12_cell 160 = .ok (.iinc 9 1, 3) := by decide +kernel
theorem dX12_cell_163 : decode cX12_cell 163 = .ok (.goto (-88), 3) := by decide +kernel
theorem dX12_cell_166 : decode cX12_cell 166 = .ok (.iload_n 3, 1) := by decide +kernel
theorem dX12_cell_167 : decode cX12_cell 167 = .ok (.iload 6, 2) := by decide +kernel
theorem dX12_cell_169 : decode cX12_cell 169 = .ok (.ifCond .eq 7, 3) := by decide +kernel
theorem dX12_cell_172 : decode cX12_cell 172 = .ok (.iconst 1, 1) := by decide +kernel
theorem dX12_cell_173 : decode cX12_cell 173 = .ok (.goto 4, 3) := by decide +kernel
theorem dX12_cell_176 : decode cX12_cell 176 = .ok (.iconst 0, 1) := by decide +kernel
theorem dX12_cell_177 : decode cX12_cell 177 = .ok (.iadd, 1) := by decide +kernel
theorem dX12_cell_178 : decode cX12_cell 178 = .ok (.istore_n 3, 1) := by decide +kernel
theorem dX12_cell_179 : decode cX12_cell 179 = .ok (.iinc 5 1, 3) := by decide +kernel
theorem dX12_cell_182 : decode cX12_cell 182 = .ok (.goto (-136), 3) := by decide +kernel
theorem dX12_cell_185 : decode cX12_cell 185 = .ok (.iinc 4 1, 3) := by decide +kernel
theorem dX12_cell_188 : decode cX12_cell 188 = .ok (.goto (-153), 3) := by decide +kernel
theorem dX12_cell_191 : decode cX12_cell 191 = .ok (.iload_n 3, 1) := by decide +kernel
theorem dX12_cell_192 : decode cX12_cell 192 = .ok (.ireturn, 1) := by decide +kernel
theorem dX12_det_0 : decode cX12_det 0 = .ok (.aload_n 1, 1) := by decide +kernel
theorem dX12_det_1 : decode cX12_det 1 = .ok (.iconst 0, 1) := by decide +kernel
theorem dX12_det_2 : decode cX12_det 2 = .ok (.iaload, 1) := by decide +kernel
theorem dX12_det_3 : decode cX12_det 3 = .ok (.aload_n 0, 1) := by decide +kernel
theorem dX12_det_4 : decode cX12_det 4 = .ok (.iconst 0, 1) := by decide +kernel
theorem dX12_det_5 : decode cX12_det 5 = .ok (.iaload, 1) := by decide +kernel
theorem dX12_det_6 : decode cX12_det 6 = .ok (.isub, 1) := by decide +kernel
theorem dX12_det_7 : decode cX12_det 7 = .ok (.i2l, 1) := by decide +kernel
theorem dX12_det_8 : decode cX12_det 8 = .ok (.aload_n 2, 1) := by decide +kernel
theorem dX12_det_9 : decode cX12_det 9 = .ok (.iconst 1, 1) := by decide +kernel
theorem dX12_det_10 : decode cX12_det 10 = .ok (.iaload, 1) := by decide +kernel
theorem dX12_det_11 : decode cX12_det 11 = .ok (.aload_n 0, 1) := by decide +kernel
theorem dX12_det_12 : decode cX12_det 12 = .ok (.iconst 1, 1) := by decide +kernel
theorem dX12_det_13 : decode cX12_det 13 = .ok (.iaload, 1) := by decide +kernel
theorem dX12_det_14 : decode cX12_det 14 = .ok (.isub, 1) := by decide +kernel
theorem dX12_det_15 : decode cX12_det 15 = .ok (.i2l, 1) := by decide +kernel
theorem dX12_det_16 : decode cX12_det 16 = .ok (.lmul, 1) := by decide +kernel
theorem dX12_det_17 : decode cX12_det 17 = .ok (.aload_n 1, 1) := by decide +kernel
theorem dX12_det_18 : decode cX12_det 18 = .ok (.iconst 1, 1) := by decide +kernel
theorem dX12_det_19 : decode cX12_det 19 = .ok (.iaload, 1) := by decide +kernel
theorem dX12_det_20 : decode cX12_det 20 = .ok (.aload_n 0, 1) := by decide +kernel
theorem dX12_det_21 : decode cX12_det 21 = .ok (.iconst 1, 1) := by decide +kernel
theorem dX12_det_22 : decode cX12_det 22 = .ok (.iaload, 1) := by decide +kernel
theorem dX12_det_23 : decode cX12_det 23 = .ok (.isub, 1) := by decide +kernel
theorem dX12_det_24 : decode cX12_det 24 = .ok (.i2l, 1) := by decide +kernel
theorem dX12_det_25 : decode cX12_det 25 = .ok (.aload_n 2, 1) := by decide +kernel
theorem dX12_det_26 : decode cX12_det 26 = .ok (.iconst 0, 1) := by decide +kernel
theorem dX12_det_27 : decode cX12_det 27 = .ok (.iaload, 1) := by decide +kernel
theorem dX12_det_28 : decode cX12_det 28 = .ok (.aload_n 0, 1) := by decide +kernel
theorem dX12_det_29 : decode cX12_det 29 = .ok (.iconst 0, 1) := by decide +kernel
theorem dX12_det_30 : decode cX12_det 30 = .ok (.iaload, 1) := by decide +kernel
theorem dX12_det_31 : decode cX12_det 31 = .ok (.isub, 1) := by decide +kernel
theorem dX12_det_32 : decode cX12_det 32 = .ok (.i2l, 1) := by decide +kernel
theorem dX12_det_33 : decode cX12_det 33 = .ok (.lmul, 1) := by decide +kernel
theorem dX12_det_34 : decode cX12_det 34 = .ok (.lsub, 1) := by decide +kernel
theorem dX12_det_35 : decode cX12_det 35 = .ok (.lreturn, 1) := by decide +kernel
theorem dX12_turns_0 : decode cX12_turns 0 = .ok (.aload_n 0, 1) := by decide +kernel
theorem dX12_turns_1 : decode cX12_turns 1 = .ok (.getfield 11, 3) := by decide +kernel
theorem dX12_turns_4 : decode cX12_turns 4 = .ok (.iload_n 1, 1) := by decide +kernel
theorem dX12_turns_5 : decode cX12_turns 5 = .ok (.aaload, 1) := by decide +kernel
theorem dX12_turns_6 : decode cX12_turns 6 = .ok (.aload_n 0, 1) := by decide +kernel
theorem dX12_turns_7 : decode cX12_turns 7 = .ok (.getfield 11, 3) := by decide +kernel
theorem dX12_turns_10 : decode cX12_turns 10 = .ok (.iload_n 2, 1) := by decide +kernel
theorem dX12_turns_11 : decode cX12_turns 11 = .ok (.aaload, 1) := by decide +kernel
theorem dX12_turns_12 : decode cX12_turns 12 = .ok (.aload_n 0, 1) := by decide +kernel
theorem dX12_turns_13 : decode cX12_turns 13 = .ok (.getfield 11, 3) := by decide +kernel
theorem dX12_turns_16 : decode cX12_turns 16 = .ok (.iload_n 3, 1) := by decide +kernel
theorem dX12_turns_17 : decode cX12_turns 17 = .ok (.aaload, 1) := by decide +kernel
theorem dX12_turns_18 : decode cX12_turns 18 = .ok (.invokestatic 123, 3) := by decide +kernel
theorem dX12_turns_21 : decode cX12_turns 21 = .ok (.invokestatic 127, 3) := by decide +kernel
theorem dX12_turns_24 : decode cX12_turns 24 = .ok (.ireturn, 1) := by decide +kernel
theorem dX12_circle_0 : decode cX12_circle 0 = .ok (.aload_n 0, 1) := by decide +kernel
theorem dX12_circle_1 : decode cX12_circle 1 = .ok (.getfield 11, 3) := by decide +kernel
theorem dX12_circle_4 : decode cX12_circle 4 = .ok (.iload 4, 2) := by decide +kernel
theorem dX12_circle_6 : decode cX12_circle 6 = .ok (.aaload, 1) := by decide +kernel
theorem dX12_circle_7 : decode cX12_circle 7 = .ok (.astore 5, 2) := by decide +kernel
theorem dX12_circle_9 : decode cX12_circle 9 = .ok (.aload_n 0, 1) := by decide +kernel
theorem dX12_circle_10 : decode cX12_circle 10 = .ok (.getfield 11, 3) := by decide +kernel
theorem dX12_circle_13 : decode cX12_circle 13 = .ok (.iload_n 1, 1) := by decide +kernel
theorem dX12_circle_14 : decode cX12_circle 14 = .ok (.aaload, 1) := by decide +kernel
theorem dX12_circle_15 : decode cX12_circle 15 = .ok (.iconst 0, 1) := by decide +kernel
theorem dX12_circle_16 : decode cX12_circle 16 = .ok (.iaload, 1) := by decide +kernel
theorem dX12_circle_17 : decode cX12_circle 17 = .ok (.aload 5, 2) := by decide +kernel
theorem dX12_circle_19 : decode cX12_circle 19 = .ok (.iconst 0, 1) := by decide +kernel
theorem dX12_circle_20 : decode cX12_circle 20 = .ok (.iaload, 1) := by decide +kernel
theorem dX12_circle_21 : decode cX12_circle 21 = .ok (.isub, 1) := by decide +kernel
theorem dX12_circle_22 : decode cX12_circle 22 = .ok (.i2l, 1) := by decide +kernel
theorem dX12_circle_23 : decode cX12_circle 23 = .ok (.lstore 6, 2) := by decide +kernel
theorem dX12_circle_25 : decode cX12_circle 25 = .ok (.aload_n 0, 1) := by decide +kernel
theorem dX12_circle_26 : decode cX12_circle 26 = .ok (.getfield 11, 3) := by decide +kernel
theorem dX12_circle_29 : decode cX12_circle 29 = .ok (.iload_n 1, 1) := by decide +kernel
theorem dX12_circle_30 : decode cX12_circle 30 = .ok (.aaload, 1) := by decide +kernel
theorem dX12_circle_31 : decode cX12_circle 31 = .ok (.iconst 1, 1) := by decide +kernel
theorem dX12_circle_32 : decode cX12_circle 32 = .ok (.iaload, 1) := by decide +kernel
theorem dX12_circle_33 : decode cX12_circle 33 = .ok (.aload 5, 2) := by decide +kernel
theorem dX12_circle_35 : decode cX12_circle 35 = .ok (.iconst 1, 1) := by decide +kernel
theorem dX12_circle_36 : decode cX12_circle 36 = .ok (.iaload, 1) := by decide +kernel
theorem dX12_circle_37 : decode cX12_circle 37 = .ok (.isub, 1) := by decide +kernel
theorem dX12_circle_38 : decode cX12_circle 38 = .ok (.i2l, 1) := by decide +kernel
theorem dX12_circle_39 : decode cX12_circle 39 = .ok (.lstore 8, 2) := by decide +kernel
theorem dX12_circle_41 : decode cX12_circle 41 = .ok (.aload_n 0, 1) := by decide +kernel
theorem dX12_circle_42 : decode cX12_circle 42 = .ok (.getfield 11, 3) := by decide +kernel
theorem dX12_circle_45 : decode cX12_circle 45 = .ok (.iload_n 2, 1) := by decide +kernel
theorem dX12_circle_46 : decode cX12_circle 46 = .ok (.aaload, 1) := by decide +kernel
theorem dX12_circle_47 : decode cX12_circle 47 = .ok (.iconst 0, 1) := by decide +kernel
theorem dX12_circle_48 : decode cX12_circle 48 = .ok (.iaload, 1) := by decide +kernel
theorem dX12_circle_49 : decode cX12_circle 49 = .ok (.aload 5, 2) := by decide +kernel
theorem dX12_circle_51 : decode cX12_circle 51 = .ok (.iconst 0, 1) := by decide +kernel
theorem dX12_circle_52 : decode cX12_circle 52 = .ok (.iaload, 1) := by decide +kernel
theorem dX12_circle_53 : decode cX12_circle 53 = .ok (.isub, 1) := by decide +kernel
theorem dX12_circle_54 : decode cX12_circle 54 = .ok (.i2l, 1) := by decide +kernel
theorem dX12_circle_55 : decode cX12_circle 55 = .ok (.lstore 10, 2) := by decide +kernel
theorem dX12_circle_57 : decode cX12_circle 57 = .ok (.aload_n 0, 1) := by decide +kernel
theorem dX12_circle_58 : decode cX12_circle 58 = .ok (.getfield 11, 3) := by decide +kernel
theorem dX12_circle_61 : decode cX12_circle 61 = .ok (.iload_n 2, 1) := by decide +kernel
theorem dX12_circle_62 : decode cX12_circle 62 = .ok (.aaload, 1) := by decide +kernel
theorem dX12_circle_63 : decode cX12_circle 63 = .ok (.iconst 1, 1) := by decide +kernel
theorem dX12_circle_64 : decode cX12_circle 64 = .ok (.iaload, 1) := by decide +kernel
theorem dX12_circle_65 : decode cX12_circle 65 = .ok (.aload 5, 2) := by decide +kernel
theorem dX12_circle_67 : decode cX12_circle 67 = .ok (.iconst 1, 1) := by decide +kernel
theorem dX12_circle_68 : decode cX12_circle 68 = .ok (.iaload, 1) := by decide +kernel
theorem dX12_circle_69 : decode cX12_circle 69 = .ok (.isub, 1) := by decide +kernel
theorem dX12_circle_70 : decode cX12_circle 70 = .ok (.i2l, 1) := by decide +kernel
theorem dX12_circle_71 : decode cX12_circle 71 = .ok (.lstore 12, 2) := by decide +kernel
theorem dX12_circle_73 : decode cX12_circle 73 = .ok (.aload_n 0, 1) := by decide +kernel
theorem dX12_circle_74 : decode cX12_circle 74 = .ok (.getfield 11, 3) := by decide +kernel
theorem dX12_circle_77 : decode cX12_circle 77 = .ok (.iload_n 3, 1) := by decide +kernel
theorem dX12_circle_78 : decode cX12_circle 78 = .ok (.aaload, 1) := by decide +kernel
theorem dX12_circle_79 : decode cX12_circle 79 = .ok (.iconst 0, 1) := by decide +kernel
theorem dX12_circle_80 : decode cX12_circle 80 = .ok (.iaload, 1) := by decide +kernel
theorem dX12_circle_81 : decode cX12_circle 81 = .ok (.aload 5, 2) := by decide +kernel
theorem dX12_circle_83 : decode cX12_circle 83 = .ok (.iconst 0, 1) := by decide +kernel
theorem dX12_circle_84 : decode cX12_circle 84 = .ok (.iaload, 1) := by decide +kernel
theorem dX12_circle_85 : decode cX12_circle 85 = .ok (.isub, 1) := by decide +kernel
theorem dX12_circle_86 : decode cX12_circle 86 = .ok (.i2l, 1) := by decide +kernel
theorem dX12_circle_87 : decode cX12_circle 87 = .ok (.lstore 14, 2) := by decide +kernel
theorem dX12_circle_89 : decode cX12_circle 89 = .ok (.aload_n 0, 1) := by decide +kernel
theorem dX12_circle_90 : decode cX12_circle 90 = .ok (.getfield 11, 3) := by decide +kernel
theorem dX12_circle_93 : decode cX12_circle 93 = .ok (.iload_n 3, 1) := by decide +kernel
theorem dX12_circle_94 : decode cX12_circle 94 = .ok (.aaload, 1) := by decide +kernel
theorem dX12_circle_95 : decode cX12_circle 95 = .ok (.iconst 1, 1) := by decide +kernel
theorem dX12_circle_96 : decode cX12_circle 96 = .ok (.iaload, 1) := by decide +kernel
theorem dX12_circle_97 : decode cX12_circle 97 = .ok (.aload 5, 2) := by decide +kernel
theorem dX12_circle_99 : decode cX12_circle 99 = .ok (.iconst 1, 1) := by decide +kernel
theorem dX12_circle_100 : decode cX12_circle 100 = .ok (.iaload, 1) := by decide +kernel
theorem dX12_circle_101 : decode cX12_circle 101 = .ok (.isub, 1) := by decide +kernel
theorem dX12_circle_102 : decode cX12_circle 102 = .ok (.i2l, 1) := by decide +kernel
theorem dX12_circle_103 : decode cX12_circle 103 = .ok (.lstore 16, 2) := by decide +kernel
theorem dX12_circle_105 : decode cX12_circle 105 = .ok (.lload 6, 2) := by decide +kernel
theorem dX12_circle_107 : decode cX12_circle 107 = .ok (.lload 6, 2) := by decide +kernel
theorem dX12_circle_109 : decode cX12_circle 109 = .ok (.lmul, 1) := by decide +kernel
theorem dX12_circle_110 : decode cX12_circle 110 = .ok (.lload 8, 2) := by decide +kernel
theorem dX12_circle_112 : decode cX12_circle 112 = .ok (.lload 8, 2) := by decide +kernel
theorem dX12_circle_114 : decode cX12_circle 114 = .ok (.lmul, 1) := by decide +kernel
theorem dX12_circle_115 : decode cX12_circle 115 = .ok (.ladd, 1) := by decide +kernel
theorem dX12_circle_116 : decode cX12_circle 116 = .ok (.lstore 18, 2) := by decide +kernel
theorem dX12_circle_118 : decode cX12_circle 118 = .ok (.lload 10, 2) := by decide +kernel
theorem dX12_circle_120 : decode cX12_circle 120 = .ok (.lload 10, 2) := by decide +kernel
theorem dX12_circle_122 : decode cX12_circle 122 = .ok (.lmul, 1) := by decide +kernel
theorem dX12_circle_123 : decode cX12_circle 123 = .ok (.lload 12, 2) := by decide +kernel
theorem dX12_circle_125 : decode cX12_circle 125 = .ok (.lload 12, 2) := by decide +kernel
theorem dX12_circle_127 : decode cX12_circle 127 = .ok (.lmul, 1) := by decide +kernel
theorem dX12_circle_128 : decode cX12_circle 128 = .ok (.ladd, 1) := by decide +kernel
theorem dX12_circle_129 : decode cX12_circle 129 = .ok (.lstore 20, 2) := by decide +kernel
theorem dX12_circle_131 : decode cX12_circle 131 = .ok (.lload 14, 2) := by decide +kernel
theorem dX12_circle_133 : decode cX12_circle 133 = .ok (.lload 14, 2) := by decide +kernel
theorem dX12_circle_135 : decode cX12_circle 135 = .ok (.lmul, 1) := by decide +kernel
theorem dX12_circle_136 : decode cX12_circle 136 = .ok (.lload 16, 2) := by decide +kernel
theorem dX12_circle_138 : decode cX12_circle 138 = .ok (.lload 16, 2) := by decide +kernel
theorem dX12_circle_140 : decode cX12_circle 140 = .ok (.lmul, 1) := by decide +kernel
theorem dX12_circle_141 : decode cX12_circle 141 = .ok (.ladd, 1) := by decide +kernel
theorem dX12_circle_142 : decode cX12_circle 142 = .ok (.lstore 22, 2) := by decide +kernel
theorem dX12_circle_144 : decode cX12_circle 144 = .ok (.lload 6, 2) := by decide +kernel
theorem dX12_circle_146 : decode cX12_circle 146 = .ok (.lload 12, 2) := by decide +kernel
theorem dX12_circle_148 : decode cX12_circle 148 = .ok (.lload 22, 2) := by decide +kernel
theorem dX12_circle_150 : decode cX12_circle 150 = .ok (.lmul, 1) := by decide +kernel
theorem dX12_circle_151 : decode cX12_circle 151 = .ok (.lload 20, 2) := by decide +kernel
theorem dX12_circle_153 : decode cX12_circle 153 = .ok (.lload 16, 2) := by decide +kernel
theorem dX12_circle_155 : decode cX12_circle 155 = .ok (.lmul, 1) := by decide +kernel
theorem dX12_circle_156 : decode cX12_circle 156 = .ok (.lsub, 1) := by decide +kernel
theorem dX12_circle_157 : decode cX12_circle 157 = .ok (.lmul, 1) := by decide +kernel
theorem dX12_circle_158 : decode cX12_circle 158 = .ok (.lload 8, 2) := by decide +kernel
theorem dX12_circle_160 : decode cX12_circle 160 = .ok (.lload 10, 2) := by decide +kernel
theorem dX12_circle_162 : decode cX12_circle 162 = .ok (.lload 22, 2) := by decide +kernel
theorem dX12_circle_164 : decode cX12_circle 164 = .ok (.lmul, 1) := by decide +kernel
theorem dX12_circle_165 : decode cX12_circle 165 = .ok (.lload 20, 2) := by decide +kernel
theorem dX12_circle_167 : decode cX12_circle 167 = .ok (.lload 14, 2) := by decide +kernel
theorem dX12_circle_169 : decode cX12_circle 169 = .ok (.lmul, 1) := by decide +kernel
theorem dX12_circle_170 : decode cX12_circle 170 = .ok (.lsub, 1) := by decide +kernel
theorem dX12_circle_171 : decode cX12_circle 171 = .ok (.lmul, 1) := by decide +kernel
theorem dX12_circle_172 : decode cX12_circle 172 = .ok (.lsub, 1) := by decide +kernel
theorem dX12_circle_173 : decode cX12_circle 173 = .ok (.lload 18, 2) := by decide +kernel
theorem dX12_circle_175 : decode cX12_circle 175 = .ok (.lload 10, 2) := by decide +kernel
theorem dX12_circle_177 : decode cX12_circle 177 = .ok (.lload 16, 2) := by decide +kernel
theorem dX12_circle_179 : decode cX12_circle 179 = .ok (.lmul, 1) := by decide +kernel
theorem dX12_circle_180 : decode cX12_circle 180 = .ok (.lload 12, 2) := by decide +kernel
theorem dX12_circle_182 : decode cX12_circle 182 = .ok (.lload 14, 2) := by decide +kernel
theorem dX12_circle_184 : decode cX12_circle 184 = .ok (.lmul, 1) := by decide +kernel
theorem dX12_circle_185 : decode cX12_circle 185 = .ok (.lsub, 1) := by decide +kernel
theorem dX12_circle_186 : decode cX12_circle 186 = .ok (.lmul, 1) := by decide +kernel
theorem dX12_circle_187 : decode cX12_circle 187 = .ok (.ladd, 1) := by decide +kernel
theorem dX12_circle_188 : decode cX12_circle 188 = .ok (.invokestatic 127, 3) := by decide +kernel
theorem dX12_circle_191 : decode cX12_circle 191 = .ok (.aload_n 0, 1) := by decide +kernel
theorem dX12_circle_192 : decode cX12_circle 192 = .ok (.iload_n 1, 1) := by decide +kernel
theorem dX12_circle_193 : decode cX12_circle 193 = .ok (.iload_n 2, 1) := by decide +kernel
theorem dX12_circle_194 : decode cX12_circle 194 = .ok (.iload_n 3, 1) := by decide +kernel
theorem dX12_circle_195 : decode cX12_circle 195 = .ok (.invokevirtual 133, 3) := by decide +kernel
theorem dX12_circle_198 : decode cX12_circle 198 = .ok (.imul, 1) := by decide +kernel
theorem dX12_circle_199 : decode cX12_circle 199 = .ok (.ireturn, 1) := by decide +kernel
theorem dX12_areThree_0 : decode cX12_areThree 0 = .ok (.aload_n 0, 1) := by decide +kernel
theorem dX12_areThree_1 : decode cX12_areThree 1 = .ok (.aload_n 0, 1) := by decide +kernel
theorem dX12_areThree_2 : decode cX12_areThree 2 = .ok (.iload_n 1, 1) := by decide +kernel
theorem dX12_areThree_3 : decode cX12_areThree 3 = .ok (.invokevirtual 35, 3) := by decide +kernel
theorem dX12_areThree_6 : decode cX12_areThree 6 = .ok (.ifCond .eq 23, 3) := by decide +kernel
theorem dX12_areThree_9 : decode cX12_areThree 9 = .ok (.aload_n 0, 1) := by decide +kernel
theorem dX12_areThree_10 : decode cX12_areThree 10 = .ok (.iload_n 2, 1) := by decide +kernel
theorem dX12_areThree_11 : decode cX12_areThree 11 = .ok (.invokevirtual 35, 3) := by decide +kernel
theorem dX12_areThree_14 : decode cX12_areThree 14 = .ok (.ifCond .eq 15, 3) := by decide +kernel
theorem dX12_areThree_17 : decode cX12_areThree 17 = .ok (.aload_n 0, 1) := by decide +kernel
theorem dX12_areThree_18 : decode cX12_areThree 18 = .ok (.iload_n 3, 1) := by decide +kernel
theorem dX12_areThree_19 : decode cX12_areThree 19 = .ok (.invokevirtual 35, 3) := by decide +kernel
theorem dX12_areThree_22 : decode cX12_areThree 22 = .ok (.ifCond .eq 7, 3) := by decide +kernel
theorem dX12_areThree_25 : decode cX12_areThree 25 = .ok (.iconst 0, 1) := by decide +kernel
theorem dX12_areThree_26 : decode cX12_areThree 26 = .ok (.goto 4, 3) := by decide +kernel
theorem dX12_areThree_29 : decode cX12_areThree 29 = .ok (.iconst 1, 1) := by decide +kernel
theorem dX12_areThree_30 : decode cX12_areThree 30 = .ok (.invokevirtual 39, 3) := by decide +kernel
theorem dX12_areThree_33 : decode cX12_areThree 33 = .ok (.ifCond .ne 7, 3) := by decide +kernel
theorem dX12_areThree_36 : decode cX12_areThree 36 = .ok (.iconst 1, 1) := by decide +kernel
theorem dX12_areThree_37 : decode cX12_areThree 37 = .ok (.goto 4, 3) := by decide +kernel
theorem dX12_areThree_40 : decode cX12_areThree 40 = .ok (.iconst 0, 1) := by decide +kernel
theorem dX12_areThree_41 : decode cX12_areThree 41 = .ok (.ireturn, 1) := by decide +kernel
theorem dX12_turn_0 : decode cX12_turn 0 = .ok (.aload_n 0, 1) := by decide +kernel
theorem dX12_turn_1 : decode cX12_turn 1 = .ok (.iload_n 1, 1) := by decide +kernel
theorem dX12_turn_2 : decode cX12_turn 2 = .ok (.iload_n 2, 1) := by decide +kernel
theorem dX12_turn_3 : decode cX12_turn 3 = .ok (.iload_n 3, 1) := by decide +kernel
theorem dX12_turn_4 : decode cX12_turn 4 = .ok (.invokevirtual 137, 3) := by decide +kernel
theorem dX12_turn_7 : decode cX12_turn 7 = .ok (.ifCond .eq 13, 3) := by decide +kernel
theorem dX12_turn_10 : decode cX12_turn 10 = .ok (.aload_n 0, 1) := by decide +kernel
theorem dX12_turn_11 : decode cX12_turn 11 = .ok (.iload_n 1, 1) := by decide +kernel
theorem dX12_turn_12 : decode cX12_turn 12 = .ok (.iload_n 2, 1) := by decide +kernel
theorem dX12_turn_13 : decode cX12_turn 13 = .ok (.iload_n 3, 1) := by decide +kernel
theorem dX12_turn_14 : decode cX12_turn 14 = .ok (.invokevirtual 133, 3) := by decide +kernel
theorem dX12_turn_17 : decode cX12_turn 17 = .ok (.goto 4, 3) := by decide +kernel
theorem dX12_turn_20 : decode cX12_turn 20 = .ok (.iconst 0, 1) := by decide +kernel
theorem dX12_turn_21 : decode cX12_turn 21 = .ok (.ireturn, 1) := by decide +kernel
theorem dX12_inCircle_0 : decode cX12_inCircle 0 = .ok (.aload_n 0, 1) := by decide +kernel
theorem dX12_inCircle_1 : decode cX12_inCircle 1 = .ok (.aload_n 0, 1) := by decide +kernel
theorem dX12_inCircle_2 : decode cX12_inCircle 2 = .ok (.iload_n 1, 1) := by decide +kernel
theorem dX12_inCircle_3 : decode cX12_inCircle 3 = .ok (.invokevirtual 35, 3) := by decide +kernel
theorem dX12_inCircle_6 : decode cX12_inCircle 6 = .ok (.ifCond .eq 28, 3) := by decide +kernel
theorem dX12_inCircle_9 : decode cX12_inCircle 9 = .ok (.aload_n 0, 1) := by decide +kernel
theorem dX12_inCircle_10 : decode cX12_inCircle 10 = .ok (.iload_n 2, 1) := by decide +kernel
theorem dX12_inCircle_11 : decode cX12_inCircle 11 = .ok (.invokevirtual 35, 3) := by decide +kernel
theorem dX12_inCircle_14 : decode cX12_inCircle 14 = .ok (.ifCond .eq 20, 3) := by decide +kernel
theorem dX12_inCircle_17 : decode cX12_inCircle 17 = .ok (.aload_n 0, 1) := by decide +kernel
theorem dX12_inCircle_18 : decode cX12_inCircle 18 = .ok (.iload_n 3, 1) := by decide +kernel
theorem dX12_inCircle_19 : decode cX12_inCircle 19 = .ok (.invokevirtual 35, 3) := by decide +kernel
theorem dX12_inCircle_22 : decode cX12_inCircle 22 = .ok (.ifCond .eq 12, 3) := by decide +kernel
theorem dX12_inCircle_25 : decode cX12_inCircle 25 = .ok (.aload_n 0, 1) := by decide +kernel
theorem dX12_inCircle_26 : decode cX12_inCircle 26 = .ok (.iload 4, 2) := by decide +kernel
theorem dX12_inCircle_28 : decode cX12_inCircle 28 = .ok (.invokevirtual 35, 3) := by decide +kernel
theorem dX12_inCircle_31 : decode cX12_inCircle 31 = .ok (.ifCond .ne 7, 3) := by decide +kernel
theorem dX12_inCircle_34 : decode cX12_inCircle 34 = .ok (.iconst 1, 1) := by decide +kernel
theorem dX12_inCircle_35 : decode cX12_inCircle 35 = .ok (.goto 18, 3) := by decide +kernel
theorem dX12_inCircle_38 : decode cX12_inCircle 38 = .ok (.aload_n 0, 1) := by decide +kernel
theorem dX12_inCircle_39 : decode cX12_inCircle 39 = .ok (.iload_n 1, 1) := by decide +kernel
theorem dX12_inCircle_40 : decode cX12_inCircle 40 = .ok (.iload_n 2, 1) := by decide +kernel
theorem dX12_inCircle_41 : decode cX12_inCircle 41 = .ok (.iload_n 3, 1) := by decide +kernel
theorem dX12_inCircle_42 : decode cX12_inCircle 42 = .ok (.invokevirtual 133, 3) := by decide +kernel
theorem dX12_inCircle_45 : decode cX12_inCircle 45 = .ok (.ifCond .ne 7, 3) := by decide +kernel
theorem dX12_inCircle_48 : decode cX12_inCircle 48 = .ok (.iconst 2, 1) := by decide +kernel
theorem dX12_inCircle_49 : decode cX12_inCircle 49 = .ok (.goto 4, 3) := by decide +kernel
theorem dX12_inCircle_52 : decode cX12_inCircle 52 = .ok (.iconst 0, 1) := by decide +kernel
theorem dX12_inCircle_53 : decode cX12_inCircle 53 = .ok (.invokevirtual 39, 3) := by decide +kernel
theorem dX12_inCircle_56 : decode cX12_inCircle 56 = .ok (.ifCond .eq 5, 3) := by decide +kernel
theorem dX12_inCircle_59 : decode cX12_inCircle 59 = .ok (.iconst 0, 1) := by decide +kernel
theorem dX12_inCircle_60 : decode cX12_inCircle 60 = .ok (.ireturn, 1) := by decide +kernel
theorem dX12_inCircle_61 : decode cX12_inCircle 61 = .ok (.aload_n 0, 1) := by decide +kernel
theorem dX12_inCircle_62 : decode cX12_inCircle 62 = .ok (.iload_n 1, 1) := by decide +kernel
theorem dX12_inCircle_63 : decode cX12_inCircle 63 = .ok (.iload_n 2, 1) := by decide +kernel
theorem dX12_inCircle_64 : decode cX12_inCircle 64 = .ok (.iload_n 3, 1) := by decide +kernel
theorem dX12_inCircle_65 : decode cX12_inCircle 65 = .ok (.iload 4, 2) := by decide +kernel
theorem dX12_inCircle_67 : decode cX12_inCircle 67 = .ok (.invokevirtual 140, 3) := by decide +kernel
theorem dX12_inCircle_70 : decode cX12_inCircle 70 = .ok (.ireturn, 1) := by decide +kernel
theorem dX12_isFat_0 : decode cX12_isFat 0 = .ok (.iload_n 1, 1) := by decide +kernel
theorem dX12_isFat_1 : decode cX12_isFat 1 = .ok (.iload_n 2, 1) := by decide +kernel
theorem dX12_isFat_2 : decode cX12_isFat 2 = .ok (.if_icmp .eq 23, 3) := by decide +kernel
theorem dX12_isFat_5 : decode cX12_isFat 5 = .ok (.iload_n 2, 1) := by decide +kernel
theorem dX12_isFat_6 : decode cX12_isFat 6 = .ok (.iload_n 3, 1) := by decide +kernel
theorem dX12_isFat_7 : decode cX12_isFat 7 = .ok (.if_icmp .eq 18, 3) := by decide +kernel
theorem dX12_isFat_10 : decode cX12_isFat 10 = .ok (.iload_n 1, 1) := by decide +kernel
theorem dX12_isFat_11 : decode cX12_isFat 11 = .ok (.iload_n 3, 1) := by decide +kernel
theorem dX12_isFat_12 : decode cX12_isFat 12 = .ok (.if_icmp .eq 13, 3) := by decide +kernel
theorem dX12_isFat_15 : decode cX12_isFat 15 = .ok (.aload_n 0, 1) := by decide +kernel
theorem dX12_isFat_16 : decode cX12_isFat 16 = .ok (.iload_n 1, 1) := by decide +kernel
theorem dX12_isFat_17 : decode cX12_isFat 17 = .ok (.iload_n 2, 1) := by decide +kernel
theorem dX12_isFat_18 : decode cX12_isFat 18 = .ok (.iload_n 3, 1) := by decide +kernel
theorem dX12_isFat_19 : decode cX12_isFat 19 = .ok (.invokevirtual 133, 3) := by decide +kernel
theorem dX12_isFat_22 : decode cX12_isFat 22 = .ok (.ifCond .ne 5, 3) := by decide +kernel
theorem dX12_isFat_25 : decode cX12_isFat 25 = .ok (.iconst 0, 1) := by decide +kernel
theorem dX12_isFat_26 : decode cX12_isFat 26 = .ok (.ireturn, 1) := by decide +kernel
theorem dX12_isFat_27 : decode cX12_isFat 27 = .ok (.iconst 1, 1) := by decide +kernel
theorem dX12_isFat_28 : decode cX12_isFat 28 = .ok (.istore 4, 2) := by decide +kernel
theorem dX12_isFat_30 : decode cX12_isFat 30 = .ok (.iload_n 1, 1) := by decide +kernel
theorem dX12_isFat_31 : decode cX12_isFat 31 = .ok (.iload_n 2, 1) := by decide +kernel
theorem dX12_isFat_32 : decode cX12_isFat 32 = .ok (.iload_n 3, 1) := by decide +kernel
theorem dX12_isFat_33 : decode cX12_isFat 33 = .ok (.invokestatic 144, 3) := by decide +kernel
theorem dX12_isFat_36 : decode cX12_isFat 36 = .ok (.invokestatic 144, 3) := by decide +kernel
theorem dX12_isFat_39 : decode cX12_isFat 39 = .ok (.istore 5, 2) := by decide +kernel
theorem dX12_isFat_41 : decode cX12_isFat 41 = .ok (.iconst 0, 1) := by decide +kernel
theorem dX12_isFat_42 : decode cX12_isFat 42 = .ok (.istore 6, 2) := by decide +kernel
theorem dX12_isFat_44 : decode cX12_isFat 44 = .ok (.iconst 0, 1) := by decide +kernel
theorem dX12_isFat_45 : decode cX12_isFat 45 = .ok (.istore 7, 2) := by decide +kernel
theorem dX12_isFat_47 : decode cX12_isFat 47 = .ok (.iload 7, 2) := by decide +kernel
theorem dX12_isFat_49 : decode cX12_isFat 49 = .ok (.bipush 12, 2) := by decide +kernel
theorem dX12_isFat_51 : decode cX12_isFat 51 = .ok (.if_icmp .ge 100, 3) := by decide +kernel
theorem dX12_isFat_54 : decode cX12_isFat 54 = .ok (.aload_n 0, 1) := by decide +kernel
theorem dX12_isFat_55 : decode cX12_isFat 55 = .ok (.getfield 11, 3) := by decide +kernel
theorem dX12_isFat_58 : decode cX12_isFat 58 = .ok (.iload 7, 2) := by decide +kernel
theorem dX12_isFat_60 : decode cX12_isFat 60 = .ok (.aaload, 1) := by decide +kernel
theorem dX12_isFat_61 : decode cX12_isFat 61 = .ok (.ifnull 84, 3) := by decide +kernel
theorem dX12_isFat_64 : decode cX12_isFat 64 = .ok (.iload 7, 2) := by decide +kernel
theorem dX12_isFat_66 : decode cX12_isFat 66 = .ok (.iload_n 1, 1) := by decide +kernel
theorem dX12_isFat_67 : decode cX12_isFat 67 = .ok (.if_icmp .eq 78, 3) := by decide +kernel
theorem dX12_isFat_70 : decode cX12_isFat 70 = .ok (.iload 7, 2) := by decide +kernel
theorem dX12_isFat_72 : decode cX12_isFat 72 = .ok (.iload_n 2, 1) := by decide +kernel
theorem dX12_isFat_73 : decode cX12_isFat 73 = .ok (.if_icmp .eq 72, 3) := by decide +kernel
theorem dX12_isFat_76 : decode cX12_isFat 76 = .ok (.iload 7, 2) := by decide +kernel
theorem dX12_isFat_78 : decode cX12_isFat 78 = .ok (.iload_n 3, 1) := by decide +kernel
theorem dX12_isFat_79 : decode cX12_isFat 79 = .ok (.if_icmp .ne 6, 3) := by decide +kernel
theorem dX12_isFat_82 : decode cX12_isFat 82 = .ok (.goto 63, 3) := by decide +kernel
theorem dX12_isFat_85 : decode cX12_isFat 85 = .ok (.aload_n 0, 1) := by decide +kernel
theorem dX12_isFat_86 : decode cX12_isFat 86 = .ok (.iload_n 1, 1) := by decide +kernel
theorem dX12_isFat_87 : decode cX12_isFat 87 = .ok (.iload_n 2, 1) := by decide +kernel
theorem dX12_isFat_88 : decode cX12_isFat 88 = .ok (.iload_n 3, 1) := by decide +kernel
theorem dX12_isFat_89 : decode cX12_isFat 89 = .ok (.iload 7, 2) := by decide +kernel
theorem dX12_isFat_91 : decode cX12_isFat 91 = .ok (.invokevirtual 140, 3) := by decide +kernel
theorem dX12_isFat_94 : decode cX12_isFat 94 = .ok (.istore 8, 2) := by decide +kernel
theorem dX12_isFat_96 : decode cX12_isFat 96 = .ok (.iload 4, 2) := by decide +kernel
theorem dX12_isFat_98 : decode cX12_isFat 98 = .ok (.iload 8, 2) := by decide +kernel
theorem dX12_isFat_100 : decode cX12_isFat 100 = .ok (.ifCond .gt 7, 3) := by decide +kernel
theorem dX12_isFat_103 : decode cX12_isFat 103 = .ok (.iconst 1, 1) := by decide +kernel
theorem dX12_isFat_104 : decode cX12_isFat 104 = .ok (.goto 4, 3) := by decide +kernel
theorem dX12_isFat_107 : decode cX12_isFat 107 = .ok (.iconst 0, 1) := by decide +kernel
theorem dX12_isFat_108 : decode cX12_isFat 108 = .ok (.iand, 1) := by decide +kernel
theorem dX12_isFat_109 : decode cX12_isFat 109 = .ok (.istore 4, 2) := by decide +kernel
theorem dX12_isFat_111 : decode cX12_isFat 111 = .ok (.iload 6, 2) := by decide +kernel
theorem dX12_isFat_113 : decode cX12_isFat 113 = .ok (.iload 8, 2) := by decide +kernel
theorem dX12_isFat_115 : decode cX12_isFat 115 = .ok (.ifCond .ne 7, 3) := by decide +kernel
theorem dX12_isFat_118 : decode cX12_isFat 118 = .ok (.iconst 1, 1) := by decide +kernel
theorem dX12_isFat_119 : decode cX12_isFat 119 = .ok (.goto 4, 3) := by decide +kernel
theorem dX12_isFat_122 : decode cX12_isFat 122 = .ok (.iconst 0, 1) := by decide +kernel
theorem dX12_isFat_123 : decode cX12_isFat 123 = .ok (.ior, 1) := by decide +kernel
theorem dX12_isFat_124 : decode cX12_isFat 124 = .ok (.istore 6, 2) := by decide +kernel
theorem dX12_isFat_126 : decode cX12_isFat 126 = .ok (.iload 8, 2) := by decide +kernel
theorem dX12_isFat_128 : decode cX12_isFat 128 = .ok (.ifCond .ne 13, 3) := by decide +kernel
theorem dX12_isFat_131 : decode cX12_isFat 131 = .ok (.iload 5, 2) := by decide +kernel
theorem dX12_isFat_133 : decode cX12_isFat 133 = .ok (.iload 7, 2) := by decide +kernel
theorem dX12_isFat_135 : decode cX12_isFat 135 = .ok (.invokestatic 144, 3) := by decide +kernel
theorem dX12_isFat_138 : decode cX12_isFat 138 = .ok (.goto 5, 3) := by decide +kernel
theorem dX12_isFat_141 : decode cX12_isFat 141 = .ok (.iload 5, 2) := by decide +kernel
theorem dX12_isFat_143 : decode cX12_isFat 143 = .ok (.istore 5, 2) := by decide +kernel
theorem dX12_isFat_145 : decode cX12_isFat 145 = .ok (.iinc 7 1, 3) := by decide +kernel
theorem dX12_isFat_148 : decode cX12_isFat 148 = .ok (.goto (-101), 3) := by decide +kernel
theorem dX12_isFat_151 : decode cX12_isFat 151 = .ok (.iload 4, 2) := by decide +kernel
theorem dX12_isFat_153 : decode cX12_isFat 153 = .ok (.ifCond .eq 8, 3) := by decide +kernel
theorem dX12_isFat_156 : decode cX12_isFat 156 = .ok (.iload 6, 2) := by decide +kernel
theorem dX12_isFat_158 : decode cX12_isFat 158 = .ok (.ifCond .ne 6, 3) := by decide +kernel
theorem dX12_isFat_161 : decode cX12_isFat 161 = .ok (.iload 4, 2) := by decide +kernel
theorem dX12_isFat_163 : decode cX12_isFat 163 = .ok (.ireturn, 1) := by decide +kernel
theorem dX12_isFat_164 : decode cX12_isFat 164 = .ok (.iload 5, 2) := by decide +kernel
theorem dX12_isFat_166 : decode cX12_isFat 166 = .ok (.iload_n 1, 1) := by decide +kernel
theorem dX12_isFat_167 : decode cX12_isFat 167 = .ok (.if_icmp .ne 7, 3) := by decide +kernel
theorem dX12_isFat_170 : decode cX12_isFat 170 = .ok (.iload_n 2, 1) := by decide +kernel
theorem dX12_isFat_171 : decode cX12_isFat 171 = .ok (.goto 4, 3) := by decide +kernel
theorem dX12_isFat_174 : decode cX12_isFat 174 = .ok (.iload_n 1, 1) := by decide +kernel
theorem dX12_isFat_175 : decode cX12_isFat 175 = .ok (.istore 7, 2) := by decide +kernel
theorem dX12_isFat_177 : decode cX12_isFat 177 = .ok (.iload 5, 2) := by decide +kernel
theorem dX12_isFat_179 : decode cX12_isFat 179 = .ok (.iload_n 3, 1) := by decide +kernel
theorem dX12_isFat_180 : decode cX12_isFat 180 = .ok (.if_icmp .ne 7, 3) := by decide +kernel
theorem dX12_isFat_183 : decode cX12_isFat 183 = .ok (.iload_n 2, 1) := by decide +kernel
theorem dX12_isFat_184 : decode cX12_isFat 184 = .ok (.goto 4, 3) := by decide +kernel
theorem dX12_isFat_187 : decode cX12_isFat 187 = .ok (.iload_n 3, 1) := by decide +kernel
theorem dX12_isFat_188 : decode cX12_isFat 188 = .ok (.istore 8, 2) := by decide +kernel
theorem dX12_isFat_190 : decode cX12_isFat 190 = .ok (.iload 5, 2) := by decide +kernel
theorem dX12_isFat_192 : decode cX12_isFat 192 = .ok (.iload_n 1, 1) := by decide +kernel
theorem dX12_isFat_193 : decode cX12_isFat 193 = .ok (.if_icmp .eq 17, 3) := by decide +kernel
theorem dX12_isFat_196 : decode cX12_isFat 196 = .ok (.iload 5, 2) := by decide +kernel
theorem dX12_isFat_198 : decode cX12_isFat 198 = .ok (.iload_n 2, 1) := by decide +kernel
theorem dX12_isFat_199 : decode cX12_isFat 199 = .ok (.if_icmp .eq 11, 3) := by decide +kernel
theorem dX12_isFat_202 : decode cX12_isFat 202 = .ok (.iload 5, 2) := by decide +kernel
theorem dX12_isFat_204 : decode cX12_isFat 204 = .ok (.iload_n 3, 1) := by decide +kernel
theorem dX12_isFat_205 : decode cX12_isFat 205 = .ok (.if_icmp .eq 5, 3) := by decide +kernel
theorem dX12_isFat_208 : decode cX12_isFat 208 = .ok (.iconst 0, 1) := by decide +kernel
theorem dX12_isFat_209 : decode cX12_isFat 209 = .ok (.ireturn, 1) := by decide +kernel
theorem dX12_isFat_210 : decode cX12_isFat 210 = .ok (.iconst 0, 1) := by decide +kernel
theorem dX12_isFat_211 : decode cX12_isFat 211 = .ok (.istore 9, 2) := by decide +kernel
theorem dX12_isFat_213 : decode cX12_isFat 213 = .ok (.iload 9, 2) := by decide +kernel
theorem dX12_isFat_215 : decode cX12_isFat 215 = .ok (.bipush 12, 2) := by decide +kernel
theorem dX12_isFat_217 : decode cX12_isFat 217 = .ok (.if_icmp .ge 85, 3) := by decide +kernel
theorem dX12_isFat_220 : decode cX12_isFat 220 = .ok (.aload_n 0, 1) := by decide +kernel
theorem dX12_isFat_221 : decode cX12_isFat 221 = .ok (.getfield 11, 3) := by decide +kernel
theorem dX12_isFat_224 : decode cX12_isFat 224 = .ok (.iload 9, 2) := by decide +kernel
theorem dX12_isFat_226 : decode cX12_isFat 226 = .ok (.aaload, 1) := by decide +kernel
theorem dX12_isFat_227 : decode cX12_isFat 227 = .ok (.ifnull 69, 3) := by decide +kernel
theorem dX12_isFat_230 : decode cX12_isFat 230 = .ok (.iload 9, 2) := by decide +kernel
theorem dX12_isFat_232 : decode cX12_isFat 232 = .ok (.iload_n 1, 1) := by decide +kernel
theorem dX12_isFat_233 : decode cX12_isFat 233 = .ok (.if_icmp .eq 63, 3) := by decide +kernel
theorem dX12_isFat_236 : decode cX12_isFat 236 = .ok (.iload 9, 2) := by decide +kernel
theorem dX12_isFat_238 : decode cX12_isFat 238 = .ok (.iload_n 2, 1) := by decide +kernel
theorem dX12_isFat_239 : decode cX12_isFat 239 = .ok (.if_icmp .eq 57, 3) := by decide +kernel
theorem dX12_isFat_242 : decode cX12_isFat 242 = .ok (.iload 9, 2) := by decide +kernel
theorem dX12_isFat_244 : decode cX12_isFat 244 = .ok (.iload_n 3, 1) := by decide +kernel
theorem dX12_isFat_245 : decode cX12_isFat 245 = .ok (.if_icmp .eq 51, 3) := by decide +kernel
theorem dX12_isFat_248 : decode cX12_isFat 248 = .ok (.aload_n 0, 1) := by decide +kernel
theorem dX12_isFat_249 : decode cX12_isFat 249 = .ok (.iload_n 1, 1) := by decide +kernel
theorem dX12_isFat_250 : decode cX12_isFat 250 = .ok (.iload_n 2, 1) := by decide +kernel
theorem dX12_isFat_251 : decode cX12_isFat 251 = .ok (.iload_n 3, 1) := by decide +kernel
theorem dX12_isFat_252 : decode cX12_isFat 252 = .ok (.iload 9, 2) := by decide +kernel
theorem dX12_isFat_254 : decode cX12_isFat 254 = .ok (.invokevirtual 140, 3) := by decide +kernel
theorem dX12_isFat_257 : decode cX12_isFat 257 = .ok (.ifCond .eq 6, 3) := by decide +kernel
theorem dX12_isFat_260 : decode cX12_isFat 260 = .ok (.goto 36, 3) := by decide +kernel
theorem dX12_isFat_263 : decode cX12_isFat 263 = .ok (.iload 4, 2) := by decide +kernel
theorem dX12_isFat_265 : decode cX12_isFat 265 = .ok (.aload_n 0, 1) := by decide +kernel
theorem dX12_isFat_266 : decode cX12_isFat 266 = .ok (.iload 7, 2) := by decide +kernel
theorem dX12_isFat_268 : decode cX12_isFat 268 = .ok (.iload 8, 2) := by decide +kernel
theorem dX12_isFat_270 : decode cX12_isFat 270 = .ok (.iload 9, 2) := by decide +kernel
theorem dX12_isFat_272 : decode cX12_isFat 272 = .ok (.invokevirtual 133, 3) := by decide +kernel
theorem dX12_isFat_275 : decode cX12_isFat 275 = .ok (.aload_n 0, 1) := by decide +kernel
theorem dX12_isFat_276 : decode cX12_isFat 276 = .ok (.iload 7, 2) := by decide +kernel
theorem dX12_isFat_278 : decode cX12_isFat 278 = .ok (.iload 8, 2) := by decide +kernel
theorem dX12_isFat_280 : decode cX12_isFat 280 = .ok (.iload 5, 2) := by decide +kernel
theorem dX12_isFat_282 : decode cX12_isFat 282 = .ok (.invokevirtual 133, 3) := by decide +kernel
theorem dX12_isFat_285 : decode cX12_isFat 285 = .ok (.if_icmp .ne 7, 3) := by decide +kernel
theorem dX12_isFat_288 : decode cX12_isFat 288 = .ok (.iconst 1, 1) := by decide +kernel
theorem dX12_isFat_289 : decode cX12_isFat 289 = .ok (.goto 4, 3) := by decide +kernel
theorem dX12_isFat_292 : decode cX12_isFat 292 = .ok (.iconst 0, 1) := by decide +kernel
theorem dX12_isFat_293 : decode cX12_isFat 293 = .ok (.iand, 1) := by decide +kernel
theorem dX12_isFat_294 : decode cX12_isFat 294 = .ok (.istore 4, 2) := by decide +kernel
theorem dX12_isFat_296 : decode cX12_isFat 296 = .ok (.iinc 9 1, 3) := by decide +kernel
theorem dX12_isFat_299 : decode cX12_isFat 299 = .ok (.goto (-86), 3) := by decide +kernel
theorem dX12_isFat_302 : decode cX12_isFat 302 = .ok (.iload 4, 2) := by decide +kernel
theorem dX12_isFat_304 : decode cX12_isFat 304 = .ok (.ireturn, 1) := by decide +kernel
theorem dX12_countTriangles_0 : decode cX12_countTriangles 0 = .ok (.aload_n 0, 1) := by decide +kernel
theorem dX12_countTriangles_1 : decode cX12_countTriangles 1 = .ok (.iconst 0, 1) := by decide +kernel
theorem dX12_countTriangles_2 : decode cX12_countTriangles 2 = .ok (.putfield 25, 3) := by decide +kernel
theorem dX12_countTriangles_5 : decode cX12_countTriangles 5 = .ok (.iconst 0, 1) := by decide +kernel
theorem dX12_countTriangles_6 : decode cX12_countTriangles 6 = .ok (.istore_n 1, 1) := by decide +kernel
theorem dX12_countTriangles_7 : decode cX12_countTriangles 7 = .ok (.iconst 0, 1) := by decide +kernel
theorem dX12_countTriangles_8 : decode cX12_countTriangles 8 = .ok (.istore_n 2, 1) := by decide +kernel
theorem dX12_countTriangles_9 : decode cX12_countTriangles 9 = .ok (.iload_n 2, 1) := by decide +kernel
theorem dX12_countTriangles_10 : decode cX12_countTriangles 10 = .ok (.bipush 12, 2) := by decide +kernel
theorem dX12_countTriangles_12 : decode cX12_countTriangles 12 = .ok (.if_icmp .ge 87, 3) := by decide +kernel
theorem dX12_countTriangles_15 : decode cX12_countTriangles 15 = .ok (.iload_n 2, 1) := by decide +kernel
theorem dX12_countTriangles_16 : decode cX12_countTriangles 16 = .ok (.iconst 1, 1) := by decide +kernel
theorem dX12_countTriangles_17 : decode cX12_countTriangles 17 = .ok (.iadd, 1) := by decide +kernel
theorem dX12_countTriangles_18 : decode cX12_countTriangles 18 = .ok (.istore_n 3, 1) := by decide +kernel
theorem dX12_countTriangles_19 : decode cX12_countTriangles 19 = .ok (.iload_n 3, 1) := by decide +kernel
theorem dX12_countTriangles_20 : decode cX12_countTriangles 20 = .ok (.bipush 12, 2) := by decide +kernel
theorem dX12_countTriangles_22 : decode cX12_countTriangles 22 = .ok (.if_icmp .ge 71, 3) := by decide +kernel
theorem dX12_countTriangles_25 : decode cX12_countTriangles 25 = .ok (.iload_n 3, 1) := by decide +kernel
theorem dX12_countTriangles_26 : decode cX12_countTriangles 26 = .ok (.iconst 1, 1) := by decide +kernel
theorem dX12_countTriangles_27 : decode cX12_countTriangles 27 = .ok (.iadd, 1) := by decide +kernel
theorem dX12_countTriangles_28 : decode cX12_countTriangles 28 = .ok (.istore 4, 2) := by decide +kernel
theorem dX12_countTriangles_30 : decode cX12_countTriangles 30 = .ok (.iload 4, 2) := by decide +kernel
theorem dX12_countTriangles_32 : decode cX12_countTriangles 32 = .ok (.bipush 12, 2) := by decide +kernel
theorem dX12_countTriangles_34 : decode cX12_countTriangles 34 = .ok (.if_icmp .ge 53, 3) := by decide +kernel
theorem dX12_countTriangles_37 : decode cX12_countTriangles 37 = .ok (.iload_n 1, 1) := by decide +kernel
theorem dX12_countTriangles_38 : decode cX12_countTriangles 38 = .ok (.aload_n 0, 1) := by decide +kernel
theorem dX12_countTriangles_39 : decode cX12_countTriangles 39 = .ok (.iload_n 2, 1) := by decide +kernel
theorem dX12_countTriangles_40 : decode cX12_countTriangles 40 = .ok (.invokevirtual 35, 3) := by decide +kernel
theorem dX12_countTriangles_43 : decode cX12_countTriangles 43 = .ok (.ifCond .eq 35, 3) := by decide +kernel
theorem dX12_countTriangles_46 : decode cX12_countTriangles 46 = .ok (.aload_n 0, 1) := by decide +kernel
theorem dX12_countTriangles_47 : decode cX12_countTriangles 47 = .ok (.iload_n 3, 1) := by decide +kernel
theorem dX12_countTriangles_48 : decode cX12_countTriangles 48 = .ok (.invokevirtual 35, 3) := by decide +kernel
theorem dX12_countTriangles_51 : decode cX12_countTriangles 51 = .ok (.ifCond .eq 27, 3) := by decide +kernel
theorem dX12_countTriangles_54 : decode cX12_countTriangles 54 = .ok (.aload_n 0, 1) := by decide +kernel
theorem dX12_countTriangles_55 : decode cX12_countTriangles 55 = .ok (.iload 4, 2) := by decide +kernel
theorem dX12_countTriangles_57 : decode cX12_countTriangles 57 = .ok (.invokevirtual 35, 3) := by decide +kernel
theorem dX12_countTriangles_60 : decode cX12_countTriangles 60 = .ok (.ifCond .eq 18, 3) := by decide +kernel
theorem dX12_countTriangles_63 : decode cX12_countTriangles 63 = .ok (.aload_n 0, 1) := by decide +kernel
theorem dX12_countTriangles_64 : decode cX12_countTriangles 64 = .ok (.iload_n 2, 1) := by decide +kernel
theorem dX12_countTriangles_65 : decode cX12_countTriangles 65 = .ok (.iload_n 3, 1) := by decide +kernel
theorem dX12_countTriangles_66 : decode cX12_countTriangles 66 = .ok (.iload 4, 2) := by decide +kernel
theorem dX12_countTriangles_68 : decode cX12_countTriangles 68 = .ok (.invokevirtual 147, 3) := by decide +kernel
theorem dX12_countTriangles_71 : decode cX12_countTriangles 71 = .ok (.ifCond .eq 7, 3) := by decide +kernel
theorem dX12_countTriangles_74 : decode cX12_countTriangles 74 = .ok (.iconst 1, 1) := by decide +kernel
theorem dX12_countTriangles_75 : decode cX12_countTriangles 75 = .ok (.goto 4, 3) := by decide +kernel
theorem dX12_countTriangles_78 : decode cX12_countTriangles 78 = .ok (.iconst 0, 1) := by decide +kernel
theorem dX12_countTriangles_79 : decode cX12_countTriangles 79 = .ok (.iadd, 1) := by decide +kernel
theorem dX12_countTriangles_80 : decode cX12_countTriangles 80 = .ok (.istore_n 1, 1) := by decide +kernel
theorem dX12_countTriangles_81 : decode cX12_countTriangles 81 = .ok (.iinc 4 1, 3) := by decide +kernel
theorem dX12_countTriangles_84 : decode cX12_countTriangles 84 = .ok (.goto (-54), 3) := by decide +kernel
theorem dX12_countTriangles_87 : decode cX12_countTriangles 87 = .ok (.iinc 3 1, 3) := by decide +kernel
theorem dX12_countTriangles_90 : decode cX12_countTriangles 90 = .ok (.goto (-71), 3) := by decide +kernel
theorem dX12_countTriangles_93 : decode cX12_countTriangles 93 = .ok (.iinc 2 1, 3) := by decide +kernel
theorem dX12_countTriangles_96 : decode cX12_countTriangles 96 = .ok (.goto (-87), 3) := by decide +kernel
theorem dX12_countTriangles_99 : decode cX12_countTriangles 99 = .ok (.iload_n 1, 1) := by decide +kernel
theorem dX12_countTriangles_100 : decode cX12_countTriangles 100 = .ok (.ireturn, 1) := by decide +kernel
theorem dX12_isTriangle_0 : decode cX12_isTriangle 0 = .ok (.aload_n 0, 1) := by decide +kernel
theorem dX12_isTriangle_1 : decode cX12_isTriangle 1 = .ok (.iload_n 1, 1) := by decide +kernel
theorem dX12_isTriangle_2 : decode cX12_isTriangle 2 = .ok (.iload_n 2, 1) := by decide +kernel
theorem dX12_isTriangle_3 : decode cX12_isTriangle 3 = .ok (.iload_n 3, 1) := by decide +kernel
theorem dX12_isTriangle_4 : decode cX12_isTriangle 4 = .ok (.invokevirtual 137, 3) := by decide +kernel
theorem dX12_isTriangle_7 : decode cX12_isTriangle 7 = .ok (.ifCond .eq 17, 3) := by decide +kernel
theorem dX12_isTriangle_10 : decode cX12_isTriangle 10 = .ok (.aload_n 0, 1) := by decide +kernel
theorem dX12_isTriangle_11 : decode cX12_isTriangle 11 = .ok (.iload_n 1, 1) := by decide +kernel
theorem dX12_isTriangle_12 : decode cX12_isTriangle 12 = .ok (.iload_n 2, 1) := by decide +kernel
theorem dX12_isTriangle_13 : decode cX12_isTriangle 13 = .ok (.iload_n 3, 1) := by decide +kernel
theorem dX12_isTriangle_14 : decode cX12_isTriangle 14 = .ok (.invokevirtual 147, 3) := by decide +kernel
theorem dX12_isTriangle_17 : decode cX12_isTriangle 17 = .ok (.ifCond .eq 7, 3) := by decide +kernel
theorem dX12_isTriangle_20 : decode cX12_isTriangle 20 = .ok (.iconst 1, 1) := by decide +kernel
theorem dX12_isTriangle_21 : decode cX12_isTriangle 21 = .ok (.goto 4, 3) := by decide +kernel
theorem dX12_isTriangle_24 : decode cX12_isTriangle 24 = .ok (.iconst 0, 1) := by decide +kernel
theorem dX12_isTriangle_25 : decode cX12_isTriangle 25 = .ok (.ireturn, 1) := by decide +kernel
theorem dX12_areTwo_0 : decode cX12_areTwo 0 = .ok (.aload_n 0, 1) := by decide +kernel
theorem dX12_areTwo_1 : decode cX12_areTwo 1 = .ok (.aload_n 0, 1) := by decide +kernel
theorem dX12_areTwo_2 : decode cX12_areTwo 2 = .ok (.iload_n 1, 1) := by decide +kernel
theorem dX12_areTwo_3 : decode cX12_areTwo 3 = .ok (.invokevirtual 35, 3) := by decide +kernel
theorem dX12_areTwo_6 : decode cX12_areTwo 6 = .ok (.ifCond .eq 15, 3) := by decide +kernel
theorem dX12_areTwo_9 : decode cX12_areTwo 9 = .ok (.aload_n 0, 1) := by decide +kernel
theorem dX12_areTwo_10 : decode cX12_areTwo 10 = .ok (.iload_n 2, 1) := by decide +kernel
theorem dX12_areTwo_11 : decode cX12_areTwo 11 = .ok (.invokevirtual 35, 3) := by decide +kernel
theorem dX12_areTwo_14 : decode cX12_areTwo 14 = .ok (.ifCond .eq 7, 3) := by decide +kernel
theorem dX12_areTwo_17 : decode cX12_areTwo 17 = .ok (.iconst 0, 1) := by decide +kernel
theorem dX12_areTwo_18 : decode cX12_areTwo 18 = .ok (.goto 4, 3) := by decide +kernel
theorem dX12_areTwo_21 : decode cX12_areTwo 21 = .ok (.iconst 1, 1) := by decide +kernel
theorem dX12_areTwo_22 : decode cX12_areTwo 22 = .ok (.invokevirtual 39, 3) := by decide +kernel
theorem dX12_areTwo_25 : decode cX12_areTwo 25 = .ok (.ifCond .ne 7, 3) := by decide +kernel
theorem dX12_areTwo_28 : decode cX12_areTwo 28 = .ok (.iconst 1, 1) := by decide +kernel
theorem dX12_areTwo_29 : decode cX12_areTwo 29 = .ok (.goto 4, 3) := by decide +kernel
theorem dX12_areTwo_32 : decode cX12_areTwo 32 = .ok (.iconst 0, 1) := by decide +kernel
theorem dX12_areTwo_33 : decode cX12_areTwo 33 = .ok (.ireturn, 1) := by decide +kernel
theorem dX12_isEdge_0 : decode cX12_isEdge 0 = .ok (.iconst 0, 1) := by decide +kernel
theorem dX12_isEdge_1 : decode cX12_isEdge 1 = .ok (.istore_n 3, 1) := by decide +kernel
theorem dX12_isEdge_2 : decode cX12_isEdge 2 = .ok (.iconst 0, 1) := by decide +kernel
theorem dX12_isEdge_3 : decode cX12_isEdge 3 = .ok (.istore 4, 2) := by decide +kernel
theorem dX12_isEdge_5 : decode cX12_isEdge 5 = .ok (.iload 4, 2) := by decide +kernel
theorem dX12_isEdge_7 : decode cX12_isEdge 7 = .ok (.bipush 12, 2) := by decide +kernel
theorem dX12_isEdge_9 : decode cX12_isEdge 9 = .ok (.if_icmp .ge 55, 3) := by decide +kernel
theorem dX12_isEdge_12 : decode cX12_isEdge 12 = .ok (.iload_n 3, 1) := by decide +kernel
theorem dX12_isEdge_13 : decode cX12_isEdge 13 = .ok (.ifCond .ne 51, 3) := by decide +kernel
theorem dX12_isEdge_16 : decode cX12_isEdge 16 = .ok (.aload_n 0, 1) := by decide +kernel
theorem dX12_isEdge_17 : decode cX12_isEdge 17 = .ok (.iload_n 1, 1) := by decide +kernel
theorem dX12_isEdge_18 : decode cX12_isEdge 18 = .ok (.invokevirtual 35, 3) := by decide +kernel
theorem dX12_isEdge_21 : decode cX12_isEdge 21 = .ok (.ifCond .eq 35, 3) := by decide +kernel
theorem dX12_isEdge_24 : decode cX12_isEdge 24 = .ok (.aload_n 0, 1) := by decide +kernel
theorem dX12_isEdge_25 : decode cX12_isEdge 25 = .ok (.iload_n 2, 1) := by decide +kernel
theorem dX12_isEdge_26 : decode cX12_isEdge 26 = .ok (.invokevirtual 35, 3) := by decide +kernel
theorem dX12_isEdge_29 : decode cX12_isEdge 29 = .ok (.ifCond .eq 27, 3) := by decide +kernel
theorem dX12_isEdge_32 : decode cX12_isEdge 32 = .ok (.aload_n 0, 1) := by decide +kernel
theorem dX12_isEdge_33 : decode cX12_isEdge 33 = .ok (.iload 4, 2) := by decide +kernel
theorem dX12_isEdge_35 : decode cX12_isEdge 35 = .ok (.invokevirtual 35, 3) := by decide +kernel
theorem dX12_isEdge_38 : decode cX12_isEdge 38 = .ok (.ifCond .eq 18, 3) := by decide +kernel
theorem dX12_isEdge_41 : decode cX12_isEdge 41 = .ok (.aload_n 0, 1) := by decide +kernel
theorem dX12_isEdge_42 : decode cX12_isEdge 42 = .ok (.iload_n 1, 1) := by decide +kernel
theorem dX12_isEdge_43 : decode cX12_isEdge 43 = .ok (.iload_n 2, 1) := by decide +kernel
theorem dX12_isEdge_44 : decode cX12_isEdge 44 = .ok (.iload 4, 2) := by decide +kernel
theorem dX12_isEdge_46 : decode cX12_isEdge 46 = .ok (.invokevirtual 147, 3) := by decide +kernel
theorem dX12_isEdge_49 : decode cX12_isEdge 49 = .ok (.ifCond .eq 7, 3) := by decide +kernel
theorem dX12_isEdge_52 : decode cX12_isEdge 52 = .ok (.iconst 1, 1) := by decide +kernel
theorem dX12_isEdge_53 : decode cX12_isEdge 53 = .ok (.goto 4, 3) := by decide +kernel
theorem dX12_isEdge_56 : decode cX12_isEdge 56 = .ok (.iconst 0, 1) := by decide +kernel
theorem dX12_isEdge_57 : decode cX12_isEdge 57 = .ok (.istore_n 3, 1) := by decide +kernel
theorem dX12_isEdge_58 : decode cX12_isEdge 58 = .ok (.iinc 4 1, 3) := by decide +kernel
theorem dX12_isEdge_61 : decode cX12_isEdge 61 = .ok (.goto (-56), 3) := by decide +kernel
theorem dX12_isEdge_64 : decode cX12_isEdge 64 = .ok (.iload_n 3, 1) := by decide +kernel
theorem dX12_isEdge_65 : decode cX12_isEdge 65 = .ok (.ireturn, 1) := by decide +kernel
theorem dX12_areNeighbours_0 : decode cX12_areNeighbours 0 = .ok (.aload_n 0, 1) := by decide +kernel
theorem dX12_areNeighbours_1 : decode cX12_areNeighbours 1 = .ok (.iload_n 1, 1) := by decide +kernel
theorem dX12_areNeighbours_2 : decode cX12_areNeighbours 2 = .ok (.iload_n 2, 1) := by decide +kernel
theorem dX12_areNeighbours_3 : decode cX12_areNeighbours 3 = .ok (.invokevirtual 150, 3) := by decide +kernel
theorem dX12_areNeighbours_6 : decode cX12_areNeighbours 6 = .ok (.ifCond .eq 16, 3) := by decide +kernel
theorem dX12_areNeighbours_9 : decode cX12_areNeighbours 9 = .ok (.aload_n 0, 1) := by decide +kernel
theorem dX12_areNeighbours_10 : decode cX12_areNeighbours 10 = .ok (.iload_n 1, 1) := by decide +kernel
theorem dX12_areNeighbours_11 : decode cX12_areNeighbours 11 = .ok (.iload_n 2, 1) := by decide +kernel
theorem dX12_areNeighbours_12 : decode cX12_areNeighbours 12 = .ok (.invokevirtual 154, 3) := by decide +kernel
theorem dX12_areNeighbours_15 : decode cX12_areNeighbours 15 = .ok (.ifCond .eq 7, 3) := by decide +kernel
theorem dX12_areNeighbours_18 : decode cX12_areNeighbours 18 = .ok (.iconst 1, 1) := by decide +kernel
theorem dX12_areNeighbours_19 : decode cX12_areNeighbours 19 = .ok (.goto 4, 3) := by decide +kernel
theorem dX12_areNeighbours_22 : decode cX12_areNeighbours 22 = .ok (.iconst 0, 1) := by decide +kernel
theorem dX12_areNeighbours_23 : decode cX12_areNeighbours 23 = .ok (.ireturn, 1) := by decide +kernel
theorem dX12_neighbours_0 : decode cX12_neighbours 0 = .ok (.iconst 0, 1) := by decide +kernel
theorem dX12_neighbours_1 : decode cX12_neighbours 1 = .ok (.istore_n 2, 1) := by decide +kernel
theorem dX12_neighbours_2 : decode cX12_neighbours 2 = .ok (.iconst 0, 1) := by decide +kernel
theorem dX12_neighbours_3 : decode cX12_neighbours 3 = .ok (.istore_n 3, 1) := by decide +kernel
theorem dX12_neighbours_4 : decode cX12_neighbours 4 = .ok (.iload_n 3, 1) := by decide +kernel
theorem dX12_neighbours_5 : decode cX12_neighbours 5 = .ok (.bipush 12, 2) := by decide +kernel
theorem dX12_neighbours_7 : decode cX12_neighbours 7 = .ok (.if_icmp .ge 26, 3) := by decide +kernel
theorem dX12_neighbours_10 : decode cX12_neighbours 10 = .ok (.iload_n 2, 1) := by decide +kernel
theorem dX12_neighbours_11 : decode cX12_neighbours 11 = .ok (.aload_n 0, 1) := by decide +kernel
theorem dX12_neighbours_12 : decode cX12_neighbours 12 = .ok (.iload_n 1, 1) := by decide +kernel
theorem dX12_neighbours_13 : decode cX12_neighbours 13 = .ok (.iload_n 3, 1) := by decide +kernel
theorem dX12_neighbours_14 : decode cX12_neighbours 14 = .ok (.invokevirtual 154, 3) := by decide +kernel
theorem dX12_neighbours_17 : decode cX12_neighbours 17 = .ok (.ifCond .eq 7, 3) := by decide +kernel
theorem dX12_neighbours_20 : decode cX12_neighbours 20 = .ok (.iconst 1, 1) := by decide +kernel
theorem dX12_neighbours_21 : decode cX12_neighbours 21 = .ok (.goto 4, 3) := by decide +kernel
theorem dX12_neighbours_24 : decode cX12_neighbours 24 = .ok (.iconst 0, 1) := by decide +kernel
theorem dX12_neighbours_25 : decode cX12_neighbours 25 = .ok (.iadd, 1) := by decide +kernel
theorem dX12_neighbours_26 : decode cX12_neighbours 26 = .ok (.istore_n 2, 1) := by decide +kernel
theorem dX12_neighbours_27 : decode cX12_neighbours 27 = .ok (.iinc 3 1, 3) := by decide +kernel
theorem dX12_neighbours_30 : decode cX12_neighbours 30 = .ok (.goto (-26), 3) := by decide +kernel
theorem dX12_neighbours_33 : decode cX12_neighbours 33 = .ok (.iload_n 2, 1) := by decide +kernel
theorem dX12_neighbours_34 : decode cX12_neighbours 34 = .ok (.ireturn, 1) := by decide +kernel
theorem dX12_countNeighbours_0 : decode cX12_countNeighbours 0 = .ok (.aload_n 0, 1) := by decide +kernel
theorem dX12_countNeighbours_1 : decode cX12_countNeighbours 1 = .ok (.iload_n 1, 1) := by decide +kernel
theorem dX12_countNeighbours_2 : decode cX12_countNeighbours 2 = .ok (.invokevirtual 78, 3) := by decide +kernel
theorem dX12_countNeighbours_5 : decode cX12_countNeighbours 5 = .ok (.ifCond .eq 7, 3) := by decide +kernel
theorem dX12_countNeighbours_8 : decode cX12_countNeighbours 8 = .ok (.iconst 0, 1) := by decide +kernel
theorem dX12_countNeighbours_9 : decode cX12_countNeighbours 9 = .ok (.goto 8, 3) := by decide +kernel
theorem dX12_countNeighbours_12 : decode cX12_countNeighbours 12 = .ok (.aload_n 0, 1) := by decide +kernel
theorem dX12_countNeighbours_13 : decode cX12_countNeighbours 13 = .ok (.iload_n 1, 1) := by decide +kernel
theorem dX12_countNeighbours_14 : decode cX12_countNeighbours 14 = .ok (.invokevirtual 157, 3) := by decide +kernel
theorem dX12_countNeighbours_17 : decode cX12_countNeighbours 17 = .ok (.ireturn, 1) := by decide +kernel
theorem dX12_nearestOther_0 : decode cX12_nearestOther 0 = .ok (.iconst (-1), 1) := by decide +kernel
theorem dX12_nearestOther_1 : decode cX12_nearestOther 1 = .ok (.istore_n 2, 1) := by decide +kernel
theorem dX12_nearestOther_2 : decode cX12_nearestOther 2 = .ok (.iconst 0, 1) := by decide +kernel
theorem dX12_nearestOther_3 : decode cX12_nearestOther 3 = .ok (.istore_n 3, 1) := by decide +kernel
theorem dX12_nearestOther_4 : decode cX12_nearestOther 4 = .ok (.iload_n 3, 1) := by decide +kernel
theorem dX12_nearestOther_5 : decode cX12_nearestOther 5 = .ok (.bipush 12, 2) := by decide +kernel
theorem dX12_nearestOther_7 : decode cX12_nearestOther 7 = .ok (.if_icmp .ge 50, 3) := by decide +kernel
theorem dX12_nearestOther_10 : decode cX12_nearestOther 10 = .ok (.iload_n 3, 1) := by decide +kernel
theorem dX12_nearestOther_11 : decode cX12_nearestOther 11 = .ok (.iload_n 1, 1) := by decide +kernel
theorem dX12_nearestOther_12 : decode cX12_nearestOther 12 = .ok (.if_icmp .eq 37, 3) := by decide +kernel
theorem dX12_nearestOther_15 : decode cX12_nearestOther 15 = .ok (.aload_n 0, 1) := by decide +kernel
theorem dX12_nearestOther_16 : decode cX12_nearestOther 16 = .ok (.getfield 11, 3) := by decide +kernel
theorem dX12_nearestOther_19 : decode cX12_nearestOther 19 = .ok (.iload_n 3, 1) := by decide +kernel
theorem dX12_nearestOther_20 : decode cX12_nearestOther 20 = .ok (.aaload, 1) := by decide +kernel
theorem dX12_nearestOther_21 : decode cX12_nearestOther 21 = .ok (.ifnull 28, 3) := by decide +kernel
theorem dX12_nearestOther_24 : decode cX12_nearestOther 24 = .ok (.iload_n 2, 1) := by decide +kernel
theorem dX12_nearestOther_25 : decode cX12_nearestOther 25 = .ok (.iconst (-1), 1) := by decide +kernel
theorem dX12_nearestOther_26 : decode cX12_nearestOther 26 = .ok (.if_icmp .eq 19, 3) := by decide +kernel
theorem dX12_nearestOther_29 : decode cX12_nearestOther 29 = .ok (.aload_n 0, 1) := by decide +kernel
theorem dX12_nearestOther_30 : decode cX12_nearestOther 30 = .ok (.iload_n 1, 1) := by decide +kernel
theorem dX12_nearestOther_31 : decode cX12_nearestOther 31 = .ok (.iload_n 3, 1) := by decide +kernel
theorem dX12_nearestOther_32 : decode cX12_nearestOther 32 = .ok (.invokevirtual 160, 3) := by decide +kernel
theorem dX12_nearestOther_35 : decode cX12_nearestOther 35 = .ok (.aload_n 0, 1) := by decide +kernel
theorem dX12_nearestOther_36 : decode cX12_nearestOther 36 = .ok (.iload_n 1, 1) := by decide +kernel
theorem dX12_nearestOther_37 : decode cX12_nearestOther 37 = .ok (.iload_n 2, 1) := by decide +kernel
theorem dX12_nearestOther_38 : decode cX12_nearestOther 38 = .ok (.invokevirtual 160, 3) := by decide +kernel
theorem dX12_nearestOther_41 : decode cX12_nearestOther 41 = .ok (.lcmp, 1) := by decide +kernel
theorem dX12_nearestOther_42 : decode cX12_nearestOther 42 = .ok (.ifCond .ge 7, 3) := by decide +kernel
theorem dX12_nearestOther_45 : decode cX12_nearestOther 45 = .ok (.iload_n 3, 1) := by decide +kernel
theorem dX12_nearestOther_46 : decode cX12_nearestOther 46 = .ok (.goto 4, 3) := by decide +kernel
theorem dX12_nearestOther_49 : decode cX12_nearestOther 49 = .ok (.iload_n 2, 1) := by decide +kernel
theorem dX12_nearestOther_50 : decode cX12_nearestOther 50 = .ok (.istore_n 2, 1) := by decide +kernel
theorem dX12_nearestOther_51 : decode cX12_nearestOther 51 = .ok (.iinc 3 1, 3) := by decide +kernel
theorem dX12_nearestOther_54 : decode cX12_nearestOther 54 = .ok (.goto (-50), 3) := by decide +kernel
theorem dX12_nearestOther_57 : decode cX12_nearestOther 57 = .ok (.iload_n 2, 1) := by decide +kernel
theorem dX12_nearestOther_58 : decode cX12_nearestOther 58 = .ok (.ireturn, 1) := by decide +kernel
theorem dX12_tree_0 : decode cX12_tree 0 = .ok (.bipush 12, 2) := by decide +kernel
theorem dX12_tree_2 : decode cX12_tree 2 = .ok (.bipush 12, 2) := by decide +kernel
theorem dX12_tree_4 : decode cX12_tree 4 = .ok (.multianewarray 164 2, 4) := by decide +kernel
theorem dX12_tree_8 : decode cX12_tree 8 = .ok (.astore_n 1, 1) := by decide +kernel
theorem dX12_tree_9 : decode cX12_tree 9 = .ok (.bipush 12, 2) := by decide +kernel
theorem dX12_tree_11 : decode cX12_tree 11 = .ok (.newarray .int, 2) := by decide +kernel
theorem dX12_tree_13 : decode cX12_tree 13 = .ok (.astore_n 2, 1) := by decide +kernel
theorem dX12_tree_14 : decode cX12_tree 14 = .ok (.iconst 0, 1) := by decide +kernel
theorem dX12_tree_15 : decode cX12_tree 15 = .ok (.istore_n 3, 1) := by decide +kernel
theorem dX12_tree_16 : decode cX12_tree 16 = .ok (.iload_n 3, 1) := by decide +kernel
theorem dX12_tree_17 : decode cX12_tree 17 = .ok (.bipush 12, 2) := by decide +kernel
theorem dX12_tree_19 : decode cX12_tree 19 = .ok (.if_icmp .ge 13, 3) := by decide +kernel
theorem dX12_tree_22 : decode cX12_tree 22 = .ok (.aload_n 2, 1) := by decide +kernel
theorem dX12_tree_23 : decode cX12_tree 23 = .ok (.iload_n 3, 1) := by decide +kernel
theorem dX12_tree_24 : decode cX12_tree 24 = .ok (.iload_n 3, 1) := by decide +kernel
theorem dX12_tree_25 : decode cX12_tree 25 = .ok (.iastore, 1) := by decide +kernel
theorem dX12_tree_26 : decode cX12_tree 26 = .ok (.iinc 3 1, 3) := by decide +kernel
theorem dX12_tree_29 : decode cX12_tree 29 = .ok (.goto (-13), 3) := by decide +kernel
theorem dX12_tree_32 : decode cX12_tree 32 = .ok (.iconst 1, 1) := by decide +kernel
theorem dX12_tree_33 : decode cX12_tree 33 = .ok (.istore_n 3, 1) := by decide +kernel
theorem dX12_tree_34 : decode cX12_tree 34 = .ok (.iload_n 3, 1) := by decide +kernel
theorem dX12_tree_35 : decode cX12_tree 35 = .ok (.aload_n 0, 1) := by decide +kernel
theorem dX12_tree_36 : decode cX12_tree 36 = .ok (.invokevirtual 72, 3) := by decide +kernel
theorem dX12_tree_39 : decode cX12_tree 39 = .ok (.if_icmp .ge 180, 3) := by decide +kernel
theorem dX12_tree_42 : decode cX12_tree 42 = .ok (.iconst (-1), 1) := by decide +kernel
theorem dX12_tree_43 : decode cX12_tree 43 = .ok (.istore 4, 2) := by decide +kernel
theorem dX12_tree_45 : decode cX12_tree 45 = .ok (.iconst (-1), 1) := by decide +kernel
theorem dX12_tree_46 : decode cX12_tree 46 = .ok (.istore 5, 2) := by decide +kernel
theorem dX12_tree_48 : decode cX12_tree 48 = .ok (.iconst 0, 1) := by decide +kernel
theorem dX12_tree_49 : decode cX12_tree 49 = .ok (.istore 6, 2) := by decide +kernel
theorem dX12_tree_51 : decode cX12_tree 51 = .ok (.iload 6, 2) := by decide +kernel
theorem dX12_tree_53 : decode cX12_tree 53 = .ok (.bipush 12, 2) := by decide +kernel
theorem dX12_tree_55 : decode cX12_tree 55 = .ok (.if_icmp .ge 96, 3) := by decide +kernel
theorem dX12_tree_58 : decode cX12_tree 58 = .ok (.iload 6, 2) := by decide +kernel
theorem dX12_tree_60 : decode cX12_tree 60 = .ok (.iconst 1, 1) := by decide +kernel
theorem dX12_tree_61 : decode cX12_tree 61 = .ok (.iadd, 1) := by decide +kernel
theorem dX12_tree_62 : decode cX12_tree 62 = .ok (.istore 7, 2) := by decide +kernel
theorem dX12_tree_64 : decode cX12_tree 64 = .ok (.iload 7, 2) := by decide +kernel
theorem dX12_tree_66 : decode cX12_tree 66 = .ok (.bipush 12, 2) := by decide +kernel
theorem dX12_tree_68 : decode cX12_tree 68 = .ok (.if_icmp .ge 77, 3) := by decide +kernel
theorem dX12_tree_71 : decode cX12_tree 71 = .ok (.aload_n 0, 1) := by decide +kernel
theorem dX12_tree_72 : decode cX12_tree 72 = .ok (.getfield 11, 3) := by decide +kernel
theorem dX12_tree_75 : decode cX12_tree 75 = .ok (.iload 6, 2) := by decide +kernel
theorem dX12_tree_77 : decode cX12_tree 77 = .ok (.aaload, 1) := by decide +kernel
theorem dX12_tree_78 : decode cX12_tree 78 = .ok (.ifnull 61, 3) := by decide +kernel
theorem dX12_tree_81 : decode cX12_tree 81 = .ok (.aload_n 0, 1) := by decide +kernel
theorem dX12_tree_82 : decode cX12_tree 82 = .ok (.getfield 11, 3) := by decide +kernel
theorem dX12_tree_85 : decode cX12_tree 85 = .ok (.iload 7, 2) := by decide +kernel
theorem dX12_tree_87 : decode cX12_tree 87 = .ok (.aaload, 1) := by decide +kernel
theorem dX12_tree_88 : decode cX12_tree 88 = .ok (.ifnull 51, 3) := by decide +kernel
theorem dX12_tree_91 : decode cX12_tree 91 = .ok (.aload_n 2, 1) := by decide +kernel
theorem dX12_tree_92 : decode cX12_tree 92 = .ok (.iload 6, 2) := by decide +kernel
theorem dX12_tree_94 : decode cX12_tree 94 = .ok (.iaload, 1) := by decide +kernel
theorem dX12_tree_95 : decode cX12_tree 95 = .ok (.aload_n 2, 1) := by decide +kernel
theorem dX12_tree_96 : decode cX12_tree 96 = .ok (.iload 7, 2) := by decide +kernel
theorem dX12_tree_98 : decode cX12_tree 98 = .ok (.iaload, 1) := by decide +kernel
theorem dX12_tree_99 : decode cX12_tree 99 = .ok (.if_icmp .eq 40, 3) := by decide +kernel
theorem dX12_tree_102 : decode cX12_tree 102 = .ok (.iload 4, 2) := by decide +kernel
theorem dX12_tree_104 : decode cX12_tree 104 = .ok (.iconst (-1), 1) := by decide +kernel
theorem dX12_tree_105 : decode cX12_tree 105 = .ok (.if_icmp .eq 26, 3) := by decide +kernel
theorem dX12_tree_108 : decode cX12_tree 108 = .ok (.aload_n 0, 1) := by decide +kernel
theorem dX12_tree_109 : decode cX12_tree 109 = .ok (.iload 6, 2) := by decide +kernel
theorem dX12_tree_111 : decode cX12_tree 111 = .ok (.iload 7, 2) := by decide +kernel
theorem dX12_tree_113 : decode cX12_tree 113 = .ok (.invokevirtual 160, 3) := by decide +kernel
theorem dX12_tree_116 : decode cX12_tree 116 = .ok (.aload_n 0, 1) := by decide +kernel
theorem dX12_tree_117 : decode cX12_tree 117 = .ok (.iload 4, 2) := by decide +kernel
theorem dX12_tree_119 : decode cX12_tree 119 = .ok (.iload 5, 2) := by decide +kernel
theorem dX12_tree_121 : decode cX12_tree 121 = .ok (.invokevirtual 160, 3) := by decide +kernel
theorem dX12_tree_124 : decode cX12_tree 124 = .ok (.lcmp, 1) := by decide +kernel
theorem dX12_tree_125 : decode cX12_tree 125 = .ok (.ifCond .lt 6, 3) := by decide +kernel
theorem dX12_tree_128 : decode cX12_tree 128 = .ok (.goto 11, 3) := by decide +kernel
theorem dX12_tree_131 : decode cX12_tree 131 = .ok (.iload 6, 2) := by decide +kernel
theorem dX12_tree_133 : decode cX12_tree 133 = .ok (.istore 4, 2) := by decide +kernel
theorem dX12_tree_135 : decode cX12_tree 135 = .ok (.iload 7, 2) := by decide +kernel
theorem dX12_tree_137 : decode cX12_tree 137 = .ok (.istore 5, 2) := by decide +kernel
theorem dX12_tree_139 : decode cX12_tree 139 = .ok (.iinc 7 1, 3) := by decide +kernel
theorem dX12_tree_142 : decode cX12_tree 142 = .ok (.goto (-78), 3) := by decide +kernel
theorem dX12_tree_145 : decode cX12_tree 145 = .ok (.iinc 6 1, 3) := by decide +kernel
theorem dX12_tree_148 : decode cX12_tree 148 = .ok (.goto (-97), 3) := by decide +kernel
theorem dX12_tree_151 : decode cX12_tree 151 = .ok (.aload_n 1, 1) := by decide +kernel
theorem dX12_tree_152 : decode cX12_tree 152 = .ok (.iload 4, 2) := by decide +kernel
theorem dX12_tree_154 : decode cX12_tree 154 = .ok (.aaload, 1) := by decide +kernel
theorem dX12_tree_155 : decode cX12_tree 155 = .ok (.iload 5, 2) := by decide +kernel
theorem dX12_tree_157 : decode cX12_tree 157 = .ok (.iconst 1, 1) := by decide +kernel
theorem dX12_tree_158 : decode cX12_tree 158 = .ok (.bastore, 1) := by decide +kernel
theorem dX12_tree_159 : decode cX12_tree 159 = .ok (.aload_n 1, 1) := by decide +kernel
theorem dX12_tree_160 : decode cX12_tree 160 = .ok (.iload 5, 2) := by decide +kernel
theorem dX12_tree_162 : decode cX12_tree 162 = .ok (.aaload, 1) := by decide +kernel
theorem dX12_tree_163 : decode cX12_tree 163 = .ok (.iload 4, 2) := by decide +kernel
theorem dX12_tree_165 : decode cX12_tree 165 = .ok (.iconst 1, 1) := by decide +kernel
theorem dX12_tree_166 : decode cX12_tree 166 = .ok (.bastore, 1) := by decide +kernel
theorem dX12_tree_167 : decode cX12_tree 167 = .ok (.aload_n 2, 1) := by decide +kernel
theorem dX12_tree_168 : decode cX12_tree 168 = .ok (.iload 5, 2) := by decide +kernel
theorem dX12_tree_170 : decode cX12_tree 170 = .ok (.iaload, 1) := by decide +kernel
theorem dX12_tree_171 : decode cX12_tree 171 = .ok (.istore 6, 2) := by decide +kernel
theorem dX12_tree_173 : decode cX12_tree 173 = .ok (.iconst 0, 1) := by decide +kernel
theorem dX12_tree_174 : decode cX12_tree 174 = .ok (.istore 7, 2) := by decide +kernel
theorem dX12_tree_176 : decode cX12_tree 176 = .ok (.iload 7, 2) := by decide +kernel
theorem dX12_tree_178 : decode cX12_tree 178 = .ok (.bipush 12, 2) := by decide +kernel
theorem dX12_tree_180 : decode cX12_tree 180 = .ok (.if_icmp .ge 33, 3) := by decide +kernel
theorem dX12_tree_183 : decode cX12_tree 183 = .ok (.aload_n 2, 1) := by decide +kernel
theorem dX12_tree_184 : decode cX12_tree 184 = .ok (.iload 7, 2) := by decide +kernel
theorem dX12_tree_186 : decode cX12_tree 186 = .ok (.aload_n 2, 1) := by decide +kernel
theorem dX12_tree_187 : decode cX12_tree 187 = .ok (.iload 7, 2) := by decide +kernel
theorem dX12_tree_189 : decode cX12_tree 189 = .ok (.iaload, 1) := by decide +kernel
theorem dX12_tree_190 : decode cX12_tree 190 = .ok (.iload 6, 2) := by decide +kernel
theorem dX12_tree_192 : decode cX12_tree 192 = .ok (.if_icmp .ne 10, 3) := by decide +kernel
theorem dX12_tree_195 : decode cX12_tree 195 = .ok (.aload_n 2, 1) := by decide +kernel
theorem dX12_tree_196 : decode cX12_tree 196 = .ok (.iload 4, 2) := by decide +kernel
theorem dX12_tree_198 : decode cX12_tree 198 = .ok (.iaload, 1) := by decide +kernel
theorem dX12_tree_199 : decode cX12_tree 199 = .ok (.goto 7, 3) := by decide +kernel
theorem dX12_tree_202 : decode cX12_tree 202 = .ok (.aload_n 2, 1) := by decide +kernel
theorem dX12_tree_203 : decode cX12_tree 203 = .ok (.iload 7, 2) := by decide +kernel
theorem dX12_tree_205 : decode cX12_tree 205 = .ok (.iaload, 1) := by decide +kernel
theorem dX12_tree_206 : decode cX12_tree 206 = .ok (.iastore, 1) := by decide +kernel
theorem dX12_tree_207 : decode cX12_tree 207 = .ok (.iinc 7 1, 3) := by decide +kernel
theorem dX12_tree_210 : decode cX12_tree 210 = .ok (.goto (-34), 3) := by decide +kernel
theorem dX12_tree_213 : decode cX12_tree 213 = .ok (.iinc 3 1, 3) := by decide +kernel
theorem dX12_tree_216 : decode cX12_tree 216 = .ok (.goto (-182), 3) := by decide +kernel
theorem dX12_tree_219 : decode cX12_tree 219 = .ok (.aload_n 1, 1) := by decide +kernel
theorem dX12_tree_220 : decode cX12_tree 220 = .ok (.areturn, 1) := by decide +kernel
theorem dX12_joins_0 : decode cX12_joins 0 = .ok (.iload_n 1, 1) := by decide +kernel
theorem dX12_joins_1 : decode cX12_joins 1 = .ok (.bipush 116, 2) := by decide +kernel
theorem dX12_joins_3 : decode cX12_joins 3 = .ok (.if_icmp .ne 10, 3) := by decide +kernel
theorem dX12_joins_6 : decode cX12_joins 6 = .ok (.aload 4, 2) := by decide +kernel
theorem dX12_joins_8 : decode cX12_joins 8 = .ok (.iload_n 2, 1) := by decide +kernel
theorem dX12_joins_9 : decode cX12_joins 9 = .ok (.aaload, 1) := by decide +kernel
theorem dX12_joins_10 : decode cX12_joins 10 = .ok (.iload_n 3, 1) := by decide +kernel
theorem dX12_joins_11 : decode cX12_joins 11 = .ok (.baload, 1) := by decide +kernel
theorem dX12_joins_12 : decode cX12_joins 12 = .ok (.ireturn, 1) := by decide +kernel
theorem dX12_joins_13 : decode cX12_joins 13 = .ok (.iload_n 1, 1) := by decide +kernel
theorem dX12_joins_14 : decode cX12_joins 14 = .ok (.bipush 110, 2) := by decide +kernel
theorem dX12_joins_16 : decode cX12_joins 16 = .ok (.if_icmp .ne 27, 3) := by decide +kernel
theorem dX12_joins_19 : decode cX12_joins 19 = .ok (.aload_n 0, 1) := by decide +kernel
theorem dX12_joins_20 : decode cX12_joins 20 = .ok (.iload_n 2, 1) := by decide +kernel
theorem dX12_joins_21 : decode cX12_joins 21 = .ok (.invokevirtual 166, 3) := by decide +kernel
theorem dX12_joins_24 : decode cX12_joins 24 = .ok (.iload_n 3, 1) := by decide +kernel
theorem dX12_joins_25 : decode cX12_joins 25 = .ok (.if_icmp .eq 12, 3) := by decide +kernel
theorem dX12_joins_28 : decode cX12_joins 28 = .ok (.aload_n 0, 1) := by decide +kernel
theorem dX12_joins_29 : decode cX12_joins 29 = .ok (.iload_n 3, 1) := by decide +kernel
theorem dX12_joins_30 : decode cX12_joins 30 = .ok (.invokevirtual 166, 3) := by decide +kernel
theorem dX12_joins_33 : decode cX12_joins 33 = .ok (.iload_n 2, 1) := by decide +kernel
theorem dX12_joins_34 : decode cX12_joins 34 = .ok (.if_icmp .ne 7, 3) := by decide +kernel
theorem dX12_joins_37 : decode cX12_joins 37 = .ok (.iconst 1, 1) := by decide +kernel
theorem dX12_joins_38 : decode cX12_joins 38 = .ok (.goto 4, 3) := by decide +kernel
theorem dX12_joins_41 : decode cX12_joins 41 = .ok (.iconst 0, 1) := by decide +kernel
theorem dX12_joins_42 : decode cX12_joins 42 = .ok (.ireturn, 1) := by decide +kernel
theorem dX12_joins_43 : decode cX12_joins 43 = .ok (.iconst 1, 1) := by decide +kernel
theorem dX12_joins_44 : decode cX12_joins 44 = .ok (.istore 5, 2) := by decide +kernel
theorem dX12_joins_46 : decode cX12_joins 46 = .ok (.iconst 0, 1) := by decide +kernel
theorem dX12_joins_47 : decode cX12_joins 47 = .ok (.istore 6, 2) := by decide +kernel
theorem dX12_joins_49 : decode cX12_joins 49 = .ok (.iload 6, 2) := by decide +kernel
theorem dX12_joins_51 : decode cX12_joins 51 = .ok (.bipush 12, 2) := by decide +kernel
theorem dX12_joins_53 : decode cX12_joins 53 = .ok (.if_icmp .ge 110, 3) := by decide +kernel
theorem dX12_joins_56 : decode cX12_joins 56 = .ok (.aload_n 0, 1) := by decide +kernel
theorem dX12_joins_57 : decode cX12_joins 57 = .ok (.getfield 11, 3) := by decide +kernel
theorem dX12_joins_60 : decode cX12_joins 60 = .ok (.iload 6, 2) := by decide +kernel
theorem dX12_joins_62 : decode cX12_joins 62 = .ok (.aaload, 1) := by decide +kernel
theorem dX12_joins_63 : decode cX12_joins 63 = .ok (.ifnull 94, 3) := by decide +kernel
theorem dX12_joins_66 : decode cX12_joins 66 = .ok (.iload 6, 2) := by decide +kernel
theorem dX12_joins_68 : decode cX12_joins 68 = .ok (.iload_n 2, 1) := by decide +kernel
theorem dX12_joins_69 : decode cX12_joins 69 = .ok (.if_icmp .eq 88, 3) := by decide +kernel
theorem dX12_joins_72 : decode cX12_joins 72 = .ok (.iload 6, 2) := by decide +kernel
theorem dX12_joins_74 : decode cX12_joins 74 = .ok (.iload_n 3, 1) := by decide +kernel
theorem dX12_joins_75 : decode cX12_joins 75 = .ok (.if_icmp .ne 6, 3) := by decide +kernel
theorem dX12_joins_78 : decode cX12_joins 78 = .ok (.goto 79, 3) := by decide +kernel
theorem dX12_joins_81 : decode cX12_joins 81 = .ok (.iload 5, 2) := by decide +kernel
theorem dX12_joins_83 : decode cX12_joins 83 = .ok (.iload_n 1, 1) := by decide +kernel
theorem dX12_joins_84 : decode cX12_joins 84 = .ok (.bipush 103, 2) := by decide +kernel
theorem dX12_joins_86 : decode cX12_joins 86 = .ok (.if_icmp .ne 36, 3) := by decide +kernel
theorem dX12_joins_89 : decode cX12_joins 89 = .ok (.aload_n 0, 1) := by decide +kernel
theorem dX12_joins_90 : decode cX12_joins 90 = .ok (.iload_n 2, 1) := by decide +kernel
theorem dX12_joins_91 : decode cX12_joins 91 = .ok (.iload 6, 2) := by decide +kernel
theorem dX12_joins_93 : decode cX12_joins 93 = .ok (.invokevirtual 160, 3) := by decide +kernel
theorem dX12_joins_96 : decode cX12_joins 96 = .ok (.aload_n 0, 1) := by decide +kernel
theorem dX12_joins_97 : decode cX12_joins 97 = .ok (.iload 6, 2) := by decide +kernel
theorem dX12_joins_99 : decode cX12_joins 99 = .ok (.iload_n 3, 1) := by decide +kernel
theorem dX12_joins_100 : decode cX12_joins 100 = .ok (.invokevirtual 160, 3) := by decide +kernel
theorem dX12_joins_103 : decode cX12_joins 103 = .ok (.ladd, 1) := by decide +kernel
theorem dX12_joins_104 : decode cX12_joins 104 = .ok (.aload_n 0, 1) := by decide +kernel
theorem dX12_joins_105 : decode cX12_joins 105 = .ok (.iload_n 2, 1) := by decide +kernel
theorem dX12_joins_106 : decode cX12_joins 106 = .ok (.iload_n 3, 1) := by decide +kernel
theorem dX12_joins_107 : decode cX12_joins 107 = .ok (.invokevirtual 160, 3) := by decide +kernel
theorem dX12_joins_110 : decode cX12_joins 110 = .ok (.lcmp, 1) := by decide +kernel
theorem dX12_joins_111 : decode cX12_joins 111 = .ok (.ifCond .lt 7, 3) := by decide +kernel
theorem dX12_joins_114 : decode cX12_joins 114 = .ok (.iconst 1, 1) := by decide +kernel
theorem dX12_joins_115 : decode cX12_joins 115 = .ok (.goto 39, 3) := by decide +kernel
theorem dX12_joins_118 : decode cX12_joins 118 = .ok (.iconst 0, 1) := by decide +kernel
theorem dX12_joins_119 : decode cX12_joins 119 = .ok (.goto 35, 3) := by decide +kernel
theorem dX12_joins_122 : decode cX12_joins 122 = .ok (.aload_n 0, 1) := by decide +kernel
theorem dX12_joins_123 : decode cX12_joins 123 = .ok (.iload_n 2, 1) := by decide +kernel
theorem dX12_joins_124 : decode cX12_joins 124 = .ok (.iload 6, 2) := by decide +kernel
theorem dX12_joins_126 : decode cX12_joins 126 = .ok (.invokevirtual 160, 3) := by decide +kernel
theorem dX12_joins_129 : decode cX12_joins 129 = .ok (.aload_n 0, 1) := by decide +kernel
theorem dX12_joins_130 : decode cX12_joins 130 = .ok (.iload 6, 2) := by decide +kernel
theorem dX12_joins_132 : decode cX12_joins 132 = .ok (.iload_n 3, 1) := by decide +kernel
theorem dX12_joins_133 : decode cX12_joins 133 = .ok (.invokevirtual 160, 3) := by decide +kernel
theorem dX12_joins_136 : decode cX12_joins 136 = .ok (.invokestatic 169, 3) := by decide +kernel
theorem dX12_joins_139 : decode cX12_joins 139 = .ok (.aload_n 0, 1) := by decide +kernel
theorem dX12_joins_140 : decode cX12_joins 140 = .ok (.iload_n 2, 1) := by decide +kernel
theorem dX12_joins_141 : decode cX12_joins 141 = .ok (.iload_n 3, 1) := by decide +kernel
theorem dX12_joins_142 : decode cX12_joins 142 = .ok (.invokevirtual 160, 3) := by decide +kernel
theorem dX12_joins_145 : decode cX12_joins 145 = .ok (.lcmp, 1) := by decide +kernel
theorem dX12_joins_146 : decode cX12_joins 146 = .ok (.ifCond .lt 7, 3) := by decide +kernel
theorem dX12_joins_149 : decode cX12_joins 149 = .ok (.iconst 1, 1) := by decide +kernel
theorem dX12_joins_150 : decode cX12_joins 150 = .ok (.goto 4, 3) := by decide +kernel
theorem dX12_joins_153 : decode cX12_joins 153 = .ok (.iconst 0, 1) := by decide +kernel
theorem dX12_joins_154 : decode cX12_joins 154 = .ok (.iand, 1) := by decide +kernel
theorem dX12_joins_155 : decode cX12_joins 155 = .ok (.istore 5, 2) := by decide +kernel
theorem dX12_joins_157 : decode cX12_joins 157 = .ok (.iinc 6 1, 3) := by decide +kernel
theorem dX12_joins_160 : decode cX12_joins 160 = .ok (.goto (-111), 3) := by decide +kernel
theorem dX12_joins_163 : decode cX12_joins 163 = .ok (.iload 5, 2) := by decide +kernel
theorem dX12_joins_165 : decode cX12_joins 165 = .ok (.ireturn, 1) := by decide +kernel
theorem dX12_isGraph_0 : decode cX12_isGraph 0 = .ok (.iload_n 0, 1) := by decide +kernel
theorem dX12_isGraph_1 : decode cX12_isGraph 1 = .ok (.bipush 103, 2) := by decide +kernel
theorem dX12_isGraph_3 : decode cX12_isGraph 3 = .ok (.if_icmp .eq 21, 3) := by decide +kernel
theorem dX12_isGraph_6 : decode cX12_isGraph 6 = .ok (.iload_n 0, 1) := by decide +kernel
theorem dX12_isGraph_7 : decode cX12_isGraph 7 = .ok (.bipush 114, 2) := by decide +kernel
theorem dX12_isGraph_9 : decode cX12_isGraph 9 = .ok (.if_icmp .eq 15, 3) := by decide +kernel
theorem dX12_isGraph_12 : decode cX12_isGraph 12 = .ok (.iload_n 0, 1) := by decide +kernel
theorem dX12_isGraph_13 : decode cX12_isGraph 13 = .ok (.bipush 110, 2) := by decide +kernel
theorem dX12_isGraph_15 : decode cX12_isGraph 15 = .ok (.if_icmp .eq 9, 3) := by decide +kernel
theorem dX12_isGraph_18 : decode cX12_isGraph 18 = .ok (.iload_n 0, 1) := by decide +kernel
theorem dX12_isGraph_19 : decode cX12_isGraph 19 = .ok (.bipush 116, 2) := by decide +kernel
theorem dX12_isGraph_21 : decode cX12_isGraph 21 = .ok (.if_icmp .ne 7, 3) := by decide +kernel
theorem dX12_isGraph_24 : decode cX12_isGraph 24 = .ok (.iconst 1, 1) := by decide +kernel
theorem dX12_isGraph_25 : decode cX12_isGraph 25 = .ok (.goto 4, 3) := by decide +kernel
theorem dX12_isGraph_28 : decode cX12_isGraph 28 = .ok (.iconst 0, 1) := by decide +kernel
theorem dX12_isGraph_29 : decode cX12_isGraph 29 = .ok (.ireturn, 1) := by decide +kernel
theorem dX12_isJoined_0 : decode cX12_isJoined 0 = .ok (.aload_n 0, 1) := by decide +kernel
theorem dX12_isJoined_1 : decode cX12_isJoined 1 = .ok (.iload_n 2, 1) := by decide +kernel
theorem dX12_isJoined_2 : decode cX12_isJoined 2 = .ok (.iload_n 3, 1) := by decide +kernel
theorem dX12_isJoined_3 : decode cX12_isJoined 3 = .ok (.invokevirtual 150, 3) := by decide +kernel
theorem dX12_isJoined_6 : decode cX12_isJoined 6 = .ok (.ifCond .eq 45, 3) := by decide +kernel
theorem dX12_isJoined_9 : decode cX12_isJoined 9 = .ok (.aload_n 0, 1) := by decide +kernel
theorem dX12_isJoined_10 : decode cX12_isJoined 10 = .ok (.iload_n 1, 1) := by decide +kernel
theorem dX12_isJoined_11 : decode cX12_isJoined 11 = .ok (.invokestatic 172, 3) := by decide +kernel
theorem dX12_isJoined_14 : decode cX12_isJoined 14 = .ok (.ifCond .eq 8, 3) := by decide +kernel
theorem dX12_isJoined_17 : decode cX12_isJoined 17 = .ok (.iload_n 2, 1) := by decide +kernel
theorem dX12_isJoined_18 : decode cX12_isJoined 18 = .ok (.iload_n 3, 1) := by decide +kernel
theorem dX12_isJoined_19 : decode cX12_isJoined 19 = .ok (.if_icmp .ne 7, 3) := by decide +kernel
theorem dX12_isJoined_22 : decode cX12_isJoined 22 = .ok (.iconst 2, 1) := by decide +kernel
theorem dX12_isJoined_23 : decode cX12_isJoined 23 = .ok (.goto 4, 3) := by decide +kernel
theorem dX12_isJoined_26 : decode cX12_isJoined 26 = .ok (.iconst 0, 1) := by decide +kernel
theorem dX12_isJoined_27 : decode cX12_isJoined 27 = .ok (.invokevirtual 39, 3) := by decide +kernel
theorem dX12_isJoined_30 : decode cX12_isJoined 30 = .ok (.ifCond .ne 21, 3) := by decide +kernel
theorem dX12_isJoined_33 : decode cX12_isJoined 33 = .ok (.aload_n 0, 1) := by decide +kernel
theorem dX12_isJoined_34 : decode cX12_isJoined 34 = .ok (.iload_n 1, 1) := by decide +kernel
theorem dX12_isJoined_35 : decode cX12_isJoined 35 = .ok (.iload_n 2, 1) := by decide +kernel
theorem dX12_isJoined_36 : decode cX12_isJoined 36 = .ok (.iload_n 3, 1) := by decide +kernel
theorem dX12_isJoined_37 : decode cX12_isJoined 37 = .ok (.aload_n 0, 1) := by decide +kernel
theorem dX12_isJoined_38 : decode cX12_isJoined 38 = .ok (.invokevirtual 175, 3) := by decide +kernel
theorem dX12_isJoined_41 : decode cX12_isJoined 41 = .ok (.invokevirtual 179, 3) := by decide +kernel
theorem dX12_isJoined_44 : decode cX12_isJoined 44 = .ok (.ifCond .eq 7, 3) := by decide +kernel
theorem dX12_isJoined_47 : decode cX12_isJoined 47 = .ok (.iconst 1, 1) := by decide +kernel
theorem dX12_isJoined_48 : decode cX12_isJoined 48 = .ok (.goto 4, 3) := by decide +kernel
theorem dX12_isJoined_51 : decode cX12_isJoined 51 = .ok (.iconst 0, 1) := by decide +kernel
theorem dX12_isJoined_52 : decode cX12_isJoined 52 = .ok (.ireturn, 1) := by decide +kernel
theorem dX12_countJoined_0 : decode cX12_countJoined 0 = .ok (.aload_n 0, 1) := by decide +kernel
theorem dX12_countJoined_1 : decode cX12_countJoined 1 = .ok (.iload_n 1, 1) := by decide +kernel
theorem dX12_countJoined_2 : decode cX12_countJoined 2 = .ok (.invokestatic 172, 3) := by decide +kernel
theorem dX12_countJoined_5 : decode cX12_countJoined 5 = .ok (.ifCond .eq 7, 3) := by decide +kernel
theorem dX12_countJoined_8 : decode cX12_countJoined 8 = .ok (.iconst 0, 1) := by decide +kernel
theorem dX12_countJoined_9 : decode cX12_countJoined 9 = .ok (.goto 4, 3) := by decide +kernel
theorem dX12_countJoined_12 : decode cX12_countJoined 12 = .ok (.iconst 1, 1) := by decide +kernel
theorem dX12_countJoined_13 : decode cX12_countJoined 13 = .ok (.invokevirtual 39, 3) := by decide +kernel
theorem dX12_countJoined_16 : decode cX12_countJoined 16 = .ok (.ifCond .eq 5, 3) := by decide +kernel
theorem dX12_countJoined_19 : decode cX12_countJoined 19 = .ok (.iconst 0, 1) := by decide +kernel
theorem dX12_countJoined_20 : decode cX12_countJoined 20 = .ok (.ireturn, 1) := by decide +kernel
theorem dX12_countJoined_21 : decode cX12_countJoined 21 = .ok (.aload_n 0, 1) := by decide +kernel
theorem dX12_countJoined_22 : decode cX12_countJoined 22 = .ok (.invokevirtual 175, 3) := by decide +kernel
theorem dX12_countJoined_25 : decode cX12_countJoined 25 = .ok (.astore_n 2, 1) := by decide +kernel
theorem dX12_countJoined_26 : decode cX12_countJoined 26 = .ok (.iconst 0, 1) := by decide +kernel
theorem dX12_countJoined_27 : decode cX12_countJoined 27 = .ok (.istore_n 3, 1) := by decide +kernel
theorem dX12_countJoined_28 : decode cX12_countJoined 28 = .ok (.iconst 0, 1) := by decide +kernel
theorem dX12_countJoined_29 : decode cX12_countJoined 29 = .ok (.istore 4, 2) := by decide +kernel
theorem dX12_countJoined_31 : decode cX12_countJoined 31 = .ok (.iload 4, 2) := by decide +kernel
theorem dX12_countJoined_33 : decode cX12_countJoined 33 = .ok (.bipush 12, 2) := by decide +kernel
theorem dX12_countJoined_35 : decode cX12_countJoined 35 = .ok (.if_icmp .ge 67, 3) := by decide +kernel
theorem dX12_countJoined_38 : decode cX12_countJoined 38 = .ok (.iload 4, 2) := by decide +kernel
theorem dX12_countJoined_40 : decode cX12_countJoined 40 = .ok (.iconst 1, 1) := by decide +kernel
theorem dX12_countJoined_41 : decode cX12_countJoined 41 = .ok (.iadd, 1) := by decide +kernel
theorem dX12_countJoined_42 : decode cX12_countJoined 42 = .ok (.istore 5, 2) := by decide +kernel
theorem dX12_countJoined_44 : decode cX12_countJoined 44 = .ok (.iload 5, 2) := by decide +kernel
theorem dX12_countJoined_46 : decode cX12_countJoined 46 = .ok (.bipush 12, 2) := by decide +kernel
theorem dX12_countJoined_48 : decode cX12_countJoined 48 = .ok (.if_icmp .ge 48, 3) := by decide +kernel
theorem dX12_countJoined_51 : decode cX12_countJoined 51 = .ok (.iload_n 3, 1) := by decide +kernel
theorem dX12_countJoined_52 : decode cX12_countJoined 52 = .ok (.aload_n 0, 1) := by decide +kernel
theorem dX12_countJoined_53 : decode cX12_countJoined 53 = .ok (.iload 4, 2) := by decide +kernel
theorem dX12_countJoined_55 : decode cX12_countJoined 55 = .ok (.invokevirtual 35, 3) := by decide +kernel
theorem dX12_countJoined_58 : decode cX12_countJoined 58 = .ok (.ifCond .eq 29, 3) := by decide +kernel
theorem dX12_countJoined_61 : decode cX12_countJoined 61 = .ok (.aload_n 0, 1) := by decide +kernel
theorem dX12_countJoined_62 : decode cX12_countJoined 62 = .ok (.iload 5, 2) := by decide +kernel
theorem dX12_countJoined_64 : decode cX12_countJoined 64 = .ok (.invokevirtual 35, 3) := by decide +kernel
theorem dX12_countJoined_67 : decode cX12_countJoined 67 = .ok (.ifCond .eq 20, 3) := by decide +kernel
theorem dX12_countJoined_70 : decode cX12_countJoined 70 = .ok (.aload_n 0, 1) := by decide +kernel
theorem dX12_countJoined_71 : decode cX12_countJoined 71 = .ok (.iload_n 1, 1) := by decide +kernel
theorem dX12_countJoined_72 : decode cX12_countJoined 72 = .ok (.iload 4, 2) := by decide +kernel
theorem dX12_countJoined_74 : decode cX12_countJoined 74 = .ok (.iload 5, 2) := by decide +kernel
theorem dX12_countJoined_76 : decode cX12_countJoined 76 = .ok (.aload_n 2, 1) := by decide +kernel
theorem dX12_countJoined_77 : decode cX12_countJoined 77 = .ok (.invokevirtual 179, 3) := by decide +kernel
theorem dX12_countJoined_80 : decode cX12_countJoined 80 = .ok (.ifCond .eq 7, 3) := by decide +kernel
theorem dX12_countJoined_83 : decode cX12_countJoined 83 = .ok (.iconst 1, 1) := by decide +kernel
theorem dX12_countJoined_84 : decode cX12_countJoined 84 = .ok (.goto 4, 3) := by decide +kernel
theorem dX12_countJoined_87 : decode cX12_countJoined 87 = .ok (.iconst 0, 1) := by decide +kernel
theorem dX12_countJoined_88 : decode cX12_countJoined 88 = .ok (.iadd, 1) := by decide +kernel
theorem dX12_countJoined_89 : decode cX12_countJoined 89 = .ok (.istore_n 3, 1) := by decide +kernel
theorem dX12_countJoined_90 : decode cX12_countJoined 90 = .ok (.iinc 5 1, 3) := by decide +kernel
theorem dX12_countJoined_93 : decode cX12_countJoined 93 = .ok (.goto (-49), 3) := by decide +kernel
theorem dX12_countJoined_96 : decode cX12_countJoined 96 = .ok (.iinc 4 1, 3) := by decide +kernel
theorem dX12_countJoined_99 : decode cX12_countJoined 99 = .ok (.goto (-68), 3) := by decide +kernel
theorem dX12_countJoined_102 : decode cX12_countJoined 102 = .ok (.iload_n 3, 1) := by decide +kernel
theorem dX12_countJoined_103 : decode cX12_countJoined 103 = .ok (.ireturn, 1) := by decide +kernel
theorem dX12_treeSum_0 : decode cX12_treeSum 0 = .ok (.aload_n 0, 1) := by decide +kernel
theorem dX12_treeSum_1 : decode cX12_treeSum 1 = .ok (.iconst 0, 1) := by decide +kernel
theorem dX12_treeSum_2 : decode cX12_treeSum 2 = .ok (.putfield 25, 3) := by decide +kernel
theorem dX12_treeSum_5 : decode cX12_treeSum 5 = .ok (.aload_n 0, 1) := by decide +kernel
theorem dX12_treeSum_6 : decode cX12_treeSum 6 = .ok (.invokevirtual 175, 3) := by decide +kernel
theorem dX12_treeSum_9 : decode cX12_treeSum 9 = .ok (.astore_n 1, 1) := by decide +kernel
theorem dX12_treeSum_10 : decode cX12_treeSum 10 = .ok (.lconst 0, 1) := by decide +kernel
theorem dX12_treeSum_11 : decode cX12_treeSum 11 = .ok (.lstore_n 2, 1) := by decide +kernel
theorem dX12_treeSum_12 : decode cX12_treeSum 12 = .ok (.iconst 0, 1) := by decide +kernel
theorem dX12_treeSum_13 : decode cX12_treeSum 13 = .ok (.istore 4, 2) := by decide +kernel
theorem dX12_treeSum_15 : decode cX12_treeSum 15 = .ok (.iload 4, 2) := by decide +kernel
theorem dX12_treeSum_17 : decode cX12_treeSum 17 = .ok (.bipush 12, 2) := by decide +kernel
theorem dX12_treeSum_19 : decode cX12_treeSum 19 = .ok (.if_icmp .ge 53, 3) := by decide +kernel
theorem dX12_treeSum_22 : decode cX12_treeSum 22 = .ok (.iload 4, 2) := by decide +kernel
theorem dX12_treeSum_24 : decode cX12_treeSum 24 = .ok (.iconst 1, 1) := by decide +kernel
theorem dX12_treeSum_25 : decode cX12_treeSum 25 = .ok (.iadd, 1) := by decide +kernel
theorem dX12_treeSum_26 : decode cX12_treeSum 26 = .ok (.istore 5, 2) := by decide +kernel
theorem dX12_treeSum_28 : decode cX12_treeSum 28 = .ok (.iload 5, 2) := by decide +kernel
theorem dX12_treeSum_30 : decode cX12_treeSum 30 = .ok (.bipush 12, 2) := by decide +kernel
theorem dX12_treeSum_32 : decode cX12_treeSum 32 = .ok (.if_icmp .ge 34, 3) := by decide +kernel
theorem dX12_treeSum_35 : decode cX12_treeSum 35 = .ok (.lload_n 2, 1) := by decide +kernel
theorem dX12_treeSum_36 : decode cX12_treeSum 36 = .ok (.aload_n 1, 1) := by decide +kernel
theorem dX12_treeSum_37 : decode cX12_treeSum 37 = .ok (.iload 4, 2) := by decide +kernel
theorem dX12_treeSum_39 : decode cX12_treeSum 39 = .ok (.aaload, 1) := by decide +kernel
theorem dX12_treeSum_40 : decode cX12_treeSum 40 = .ok (.iload 5, 2) := by decide +kernel
theorem dX12_treeSum_42 : decode cX12_treeSum 42 = .ok (.baload, 1) := by decide +kernel
theorem dX12_treeSum_43 : decode cX12_treeSum 43 = .ok (.ifCond .eq 14, 3) := by decide +kernel
theorem dX12_treeSum_46 : decode cX12_treeSum 46 = .ok (.aload_n 0, 1) := by decide +kernel
theorem dX12_treeSum_47 : decode cX12_treeSum 47 = .ok (.iload 4, 2) := by decide +kernel
theorem dX12_treeSum_49 : decode cX12_treeSum 49 = .ok (.iload 5, 2) := by decide +kernel
theorem dX12_treeSum_51 : decode cX12_treeSum 51 = .ok (.invokevirtual 160, 3) := by decide +kernel
theorem dX12_treeSum_54 : decode cX12_treeSum 54 = .ok (.goto 4, 3) := by decide +kernel
theorem dX12_treeSum_57 : decode cX12_treeSum 57 = .ok (.lconst 0, 1) := by decide +kernel
theorem dX12_treeSum_58 : decode cX12_treeSum 58 = .ok (.ladd, 1) := by decide +kernel
theorem dX12_treeSum_59 : decode cX12_treeSum 59 = .ok (.lstore_n 2, 1) := by decide +kernel
theorem dX12_treeSum_60 : decode cX12_treeSum 60 = .ok (.iinc 5 1, 3) := by decide +kernel
theorem dX12_treeSum_63 : decode cX12_treeSum 63 = .ok (.goto (-35), 3) := by decide +kernel
theorem dX12_treeSum_66 : decode cX12_treeSum 66 = .ok (.iinc 4 1, 3) := by decide +kernel
theorem dX12_treeSum_69 : decode cX12_treeSum 69 = .ok (.goto (-54), 3) := by decide +kernel
theorem dX12_treeSum_72 : decode cX12_treeSum 72 = .ok (.lload_n 2, 1) := by decide +kernel
theorem dX12_treeSum_73 : decode cX12_treeSum 73 = .ok (.l2i, 1) := by decide +kernel
theorem dX12_treeSum_74 : decode cX12_treeSum 74 = .ok (.ireturn, 1) := by decide +kernel
theorem dX12_edges_0 : decode cX12_edges 0 = .ok (.bipush 12, 2) := by decide +kernel
theorem dX12_edges_2 : decode cX12_edges 2 = .ok (.bipush 12, 2) := by decide +kernel
theorem dX12_edges_4 : decode cX12_edges 4 = .ok (.multianewarray 164 2, 4) := by decide +kernel
theorem dX12_edges_8 : decode cX12_edges 8 = .ok (.astore_n 1, 1) := by decide +kernel
theorem dX12_edges_9 : decode cX12_edges 9 = .ok (.iconst 0, 1) := by decide +kernel
theorem dX12_edges_10 : decode cX12_edges 10 = .ok (.istore_n 2, 1) := by decide +kernel
theorem dX12_edges_11 : decode cX12_edges 11 = .ok (.iload_n 2, 1) := by decide +kernel
theorem dX12_edges_12 : decode cX12_edges 12 = .ok (.bipush 12, 2) := by decide +kernel
theorem dX12_edges_14 : decode cX12_edges 14 = .ok (.if_icmp .ge 47, 3) := by decide +kernel
theorem dX12_edges_17 : decode cX12_edges 17 = .ok (.iconst 0, 1) := by decide +kernel
theorem dX12_edges_18 : decode cX12_edges 18 = .ok (.istore_n 3, 1) := by decide +kernel
theorem dX12_edges_19 : decode cX12_edges 19 = .ok (.iload_n 3, 1) := by decide +kernel
theorem dX12_edges_20 : decode cX12_edges 20 = .ok (.bipush 12, 2) := by decide +kernel
theorem dX12_edges_22 : decode cX12_edges 22 = .ok (.if_icmp .ge 33, 3) := by decide +kernel
theorem dX12_edges_25 : decode cX12_edges 25 = .ok (.aload_n 1, 1) := by decide +kernel
theorem dX12_edges_26 : decode cX12_edges 26 = .ok (.iload_n 2, 1) := by decide +kernel
theorem dX12_edges_27 : decode cX12_edges 27 = .ok (.aaload, 1) := by decide +kernel
theorem dX12_edges_28 : decode cX12_edges 28 = .ok (.iload_n 3, 1) := by decide +kernel
theorem dX12_edges_29 : decode cX12_edges 29 = .ok (.iload_n 2, 1) := by decide +kernel
theorem dX12_edges_30 : decode cX12_edges 30 = .ok (.iload_n 3, 1) := by decide +kernel
theorem dX12_edges_31 : decode cX12_edges 31 = .ok (.if_icmp .eq 16, 3) := by decide +kernel
theorem dX12_edges_34 : decode cX12_edges 34 = .ok (.aload_n 0, 1) := by decide +kernel
theorem dX12_edges_35 : decode cX12_edges 35 = .ok (.iload_n 2, 1) := by decide +kernel
theorem dX12_edges_36 : decode cX12_edges 36 = .ok (.iload_n 3, 1) := by decide +kernel
theorem dX12_edges_37 : decode cX12_edges 37 = .ok (.invokevirtual 154, 3) := by decide +kernel
theorem dX12_edges_40 : decode cX12_edges 40 = .ok (.ifCond .eq 7, 3) := by decide +kernel
theorem dX12_edges_43 : decode cX12_edges 43 = .ok (.iconst 1, 1) := by decide +kernel
theorem dX12_edges_44 : decode cX12_edges 44 = .ok (.goto 4, 3) := by decide +kernel
theorem dX12_edges_47 : decode cX12_edges 47 = .ok (.iconst 0, 1) := by decide +kernel
theorem dX12_edges_48 : decode cX12_edges 48 = .ok (.bastore, 1) := by decide +kernel
theorem dX12_edges_49 : decode cX12_edges 49 = .ok (.iinc 3 1, 3) := by decide +kernel
theorem dX12_edges_52 : decode cX12_edges 52 = .ok (.goto (-33), 3) := by decide +kernel
theorem dX12_edges_55 : decode cX12_edges 55 = .ok (.iinc 2 1, 3) := by decide +kernel
theorem dX12_edges_58 : decode cX12_edges 58 = .ok (.goto (-47), 3) := by decide +kernel
theorem dX12_edges_61 : decode cX12_edges 61 = .ok (.aload_n 1, 1) := by decide +kernel
theorem dX12_edges_62 : decode cX12_edges 62 = .ok (.areturn, 1) := by decide +kernel
theorem dX12_steps_0 : decode cX12_steps 0 = .ok (.aload_n 0, 1) := by decide +kernel
theorem dX12_steps_1 : decode cX12_steps 1 = .ok (.iload_n 1, 1) := by decide +kernel
theorem dX12_steps_2 : decode cX12_steps 2 = .ok (.iload_n 2, 1) := by decide +kernel
theorem dX12_steps_3 : decode cX12_steps 3 = .ok (.invokevirtual 150, 3) := by decide +kernel
theorem dX12_steps_6 : decode cX12_steps 6 = .ok (.ifCond .ne 5, 3) := by decide +kernel
theorem dX12_steps_9 : decode cX12_steps 9 = .ok (.iconst 0, 1) := by decide +kernel
theorem dX12_steps_10 : decode cX12_steps 10 = .ok (.ireturn, 1) := by decide +kernel
theorem dX12_steps_11 : decode cX12_steps 11 = .ok (.aload_n 0, 1) := by decide +kernel
theorem dX12_steps_12 : decode cX12_steps 12 = .ok (.invokevirtual 183, 3) := by decide +kernel
theorem dX12_steps_15 : decode cX12_steps 15 = .ok (.astore_n 3, 1) := by decide +kernel
theorem dX12_steps_16 : decode cX12_steps 16 = .ok (.iconst 1, 1) := by decide +kernel
theorem dX12_steps_17 : decode cX12_steps 17 = .ok (.iload_n 1, 1) := by decide +kernel
theorem dX12_steps_18 : decode cX12_steps 18 = .ok (.ishl, 1) := by decide +kernel
theorem dX12_steps_19 : decode cX12_steps 19 = .ok (.istore 4, 2) := by decide +kernel
theorem dX12_steps_21 : decode cX12_steps 21 = .ok (.iconst 0, 1) := by decide +kernel
theorem dX12_steps_22 : decode cX12_steps 22 = .ok (.istore 5, 2) := by decide +kernel
theorem dX12_steps_24 : decode cX12_steps 24 = .ok (.iload 5, 2) := by decide +kernel
theorem dX12_steps_26 : decode cX12_steps 26 = .ok (.bipush 12, 2) := by decide +kernel
theorem dX12_steps_28 : decode cX12_steps 28 = .ok (.if_icmp .ge 92, 3) := by decide +kernel
theorem dX12_steps_31 : decode cX12_steps 31 = .ok (.iload 4, 2) := by decide +kernel
theorem dX12_steps_33 : decode cX12_steps 33 = .ok (.iload_n 2, 1) := by decide +kernel
theorem dX12_steps_34 : decode cX12_steps 34 = .ok (.ishr, 1) := by decide +kernel
theorem dX12_steps_35 : decode cX12_steps 35 = .ok (.iconst 1, 1) := by decide +kernel
theorem dX12_steps_36 : decode cX12_steps 36 = .ok (.iand, 1) := by decide +kernel
theorem dX12_steps_37 : decode cX12_steps 37 = .ok (.iconst 1, 1) := by decide +kernel
theorem dX12_steps_38 : decode cX12_steps 38 = .ok (.if_icmp .ne 6, 3) := by decide +kernel
theorem dX12_steps_41 : decode cX12_steps 41 = .ok (.iload 5, 2) := by decide +kernel
theorem dX12_steps_43 : decode cX12_steps 43 = .ok (.ireturn, 1) := by decide +kernel
theorem dX12_steps_44 : decode cX12_steps 44 = .ok (.iload 4, 2) := by decide +kernel
theorem dX12_steps_46 : decode cX12_steps 46 = .ok (.istore 6, 2) := by decide +kernel
theorem dX12_steps_48 : decode cX12_steps 48 = .ok (.iconst 0, 1) := by decide +kernel
theorem dX12_steps_49 : decode cX12_steps 49 = .ok (.istore 7, 2) := by decide +kernel
theorem dX12_steps_51 : decode cX12_steps 51 = .ok (.iload 7, 2) := by decide +kernel
theorem dX12_steps_53 : decode cX12_steps 53 = .ok (.bipush 12, 2) := by decide +kernel
theorem dX12_steps_55 : decode cX12_steps 55 = .ok (.if_icmp .ge 59, 3) := by decide +kernel
theorem dX12_steps_58 : decode cX12_steps 58 = .ok (.iconst 0, 1) := by decide +kernel
theorem dX12_steps_59 : decode cX12_steps 59 = .ok (.istore 8, 2) := by decide +kernel
theorem dX12_steps_61 : decode cX12_steps 61 = .ok (.iload 8, 2) := by decide +kernel
theorem dX12_steps_63 : decode cX12_steps 63 = .ok (.bipush 12, 2) := by decide +kernel
theorem dX12_steps_65 : decode cX12_steps 65 = .ok (.if_icmp .ge 43, 3) := by decide +kernel
theorem dX12_steps_68 : decode cX12_steps 68 = .ok (.iload 4, 2) := by decide +kernel
theorem dX12_steps_70 : decode cX12_steps 70 = .ok (.iload 6, 2) := by decide +kernel
theorem dX12_steps_72 : decode cX12_steps 72 = .ok (.iload 7, 2) := by decide +kernel
theorem dX12_steps_74 : decode cX12_steps 74 = .ok (.ishr, 1) := by decide +kernel
theorem dX12_steps_75 : decode cX12_steps 75 = .ok (.iconst 1, 1) := by decide +kernel
theorem dX12_steps_76 : decode cX12_steps 76 = .ok (.iand, 1) := by decide +kernel
theorem dX12_steps_77 : decode cX12_steps 77 = .ok (.iconst 1, 1) := by decide +kernel
theorem dX12_steps_78 : decode cX12_steps 78 = .ok (.if_icmp .ne 20, 3) := by decide +kernel
theorem dX12_steps_81 : decode cX12_steps 81 = .ok (.aload_n 3, 1) := by decide +kernel
theorem dX12_steps_82 : decode cX12_steps 82 = .ok (.iload 7, 2) := by decide +kernel
theorem dX12_steps_84 : decode cX12_steps 84 = .ok (.aaload, 1) := by decide +kernel
theorem dX12_steps_85 : decode cX12_steps 85 = .ok (.iload 8, 2) := by decide +kernel
theorem dX12_steps_87 : decode cX12_steps 87 = .ok (.baload, 1) := by decide +kernel
theorem dX12_steps_88 : decode cX12_steps 88 = .ok (.ifCond .eq 10, 3) := by decide +kernel
theorem dX12_steps_91 : decode cX12_steps 91 = .ok (.iconst 1, 1) := by decide +kernel
theorem dX12_steps_92 : decode cX12_steps 92 = .ok (.iload 8, 2) := by decide +kernel
theorem dX12_steps_94 : decode cX12_steps 94 = .ok (.ishl, 1) := by decide +kernel
theorem dX12_steps_95 : decode cX12_steps 95 = .ok (.goto 4, 3) := by decide +kernel
theorem dX12_steps_98 : decode cX12_steps 98 = .ok (.iconst 0, 1) := by decide +kernel
theorem dX12_steps_99 : decode cX12_steps 99 = .ok (.ior, 1) := by decide +kernel
theorem dX12_steps_100 : decode cX12_steps 100 = .ok (.istore 4, 2) := by decide +kernel
theorem dX12_steps_102 : decode cX12_steps 102 = .ok (.iinc 8 1, 3) := by decide +kernel
theorem dX12_steps_105 : decode cX12_steps 105 = .ok (.goto (-44), 3) := by decide +kernel
theorem dX12_steps_108 : decode cX12_steps 108 = .ok (.iinc 7 1, 3) := by decide +kernel
theorem dX12_steps_111 : decode cX12_steps 111 = .ok (.goto (-60), 3) := by decide +kernel
theorem dX12_steps_114 : decode cX12_steps 114 = .ok (.iinc 5 1, 3) := by decide +kernel
theorem dX12_steps_117 : decode cX12_steps 117 = .ok (.goto (-93), 3) := by decide +kernel
theorem dX12_steps_120 : decode cX12_steps 120 = .ok (.aload_n 0, 1) := by decide +kernel
theorem dX12_steps_121 : decode cX12_steps 121 = .ok (.iconst 2, 1) := by decide +kernel
theorem dX12_steps_122 : decode cX12_steps 122 = .ok (.invokevirtual 39, 3) := by decide +kernel
theorem dX12_steps_125 : decode cX12_steps 125 = .ok (.pop, 1) := by decide +kernel
theorem dX12_steps_126 : decode cX12_steps 126 = .ok (.iconst 0, 1) := by decide +kernel
theorem dX12_steps_127 : decode cX12_steps 127 = .ok (.ireturn, 1) := by decide +kernel
theorem dX12_isLower_0 : decode cX12_isLower 0 = .ok (.aload_n 0, 1) := by decide +kernel
theorem dX12_isLower_1 : decode cX12_isLower 1 = .ok (.getfield 11, 3) := by decide +kernel
theorem dX12_isLower_4 : decode cX12_isLower 4 = .ok (.iload_n 1, 1) := by decide +kernel
theorem dX12_isLower_5 : decode cX12_isLower 5 = .ok (.aaload, 1) := by decide +kernel
theorem dX12_isLower_6 : decode cX12_isLower 6 = .ok (.iconst 1, 1) := by decide +kernel
theorem dX12_isLower_7 : decode cX12_isLower 7 = .ok (.iaload, 1) := by decide +kernel
theorem dX12_isLower_8 : decode cX12_isLower 8 = .ok (.aload_n 0, 1) := by decide +kernel
theorem dX12_isLower_9 : decode cX12_isLower 9 = .ok (.getfield 11, 3) := by decide +kernel
theorem dX12_isLower_12 : decode cX12_isLower 12 = .ok (.iload_n 2, 1) := by decide +kernel
theorem dX12_isLower_13 : decode cX12_isLower 13 = .ok (.aaload, 1) := by decide +kernel
theorem dX12_isLower_14 : decode cX12_isLower 14 = .ok (.iconst 1, 1) := by decide +kernel
theorem dX12_isLower_15 : decode cX12_isLower 15 = .ok (.iaload, 1) := by decide +kernel
theorem dX12_isLower_16 : decode cX12_isLower 16 = .ok (.if_icmp .eq 30, 3) := by decide +kernel
theorem dX12_isLower_19 : decode cX12_isLower 19 = .ok (.aload_n 0, 1) := by decide +kernel
theorem dX12_isLower_20 : decode cX12_isLower 20 = .ok (.getfield 11, 3) := by decide +kernel
theorem dX12_isLower_23 : decode cX12_isLower 23 = .ok (.iload_n 1, 1) := by decide +kernel
theorem dX12_isLower_24 : decode cX12_isLower 24 = .ok (.aaload, 1) := by decide +kernel
theorem dX12_isLower_25 : decode cX12_isLower 25 = .ok (.iconst 1, 1) := by decide +kernel
theorem dX12_isLower_26 : decode cX12_isLower 26 = .ok (.iaload, 1) := by decide +kernel
theorem dX12_isLower_27 : decode cX12_isLower 27 = .ok (.aload_n 0, 1) := by decide +kernel
theorem dX12_isLower_28 : decode cX12_isLower 28 = .ok (.getfield 11, 3) := by decide +kernel
theorem dX12_isLower_31 : decode cX12_isLower 31 = .ok (.iload_n 2, 1) := by decide +kernel
theorem dX12_isLower_32 : decode cX12_isLower 32 = .ok (.aaload, 1) := by decide +kernel
theorem dX12_isLower_33 : decode cX12_isLower 33 = .ok (.iconst 1, 1) := by decide +kernel
theorem dX12_isLower_34 : decode cX12_isLower 34 = .ok (.iaload, 1) := by decide +kernel
theorem dX12_isLower_35 : decode cX12_isLower 35 = .ok (.if_icmp .ge 7, 3) := by decide +kernel
theorem dX12_isLower_38 : decode cX12_isLower 38 = .ok (.iconst 1, 1) := by decide +kernel
theorem dX12_isLower_39 : decode cX12_isLower 39 = .ok (.goto 31, 3) := by decide +kernel
theorem dX12_isLower_42 : decode cX12_isLower 42 = .ok (.iconst 0, 1) := by decide +kernel
theorem dX12_isLower_43 : decode cX12_isLower 43 = .ok (.goto 27, 3) := by decide +kernel
theorem dX12_isLower_46 : decode cX12_isLower 46 = .ok (.aload_n 0, 1) := by decide +kernel
theorem dX12_isLower_47 : decode cX12_isLower 47 = .ok (.getfield 11, 3) := by decide +kernel
theorem dX12_isLower_50 : decode cX12_isLower 50 = .ok (.iload_n 1, 1) := by decide +kernel
theorem dX12_isLower_51 : decode cX12_isLower 51 = .ok (.aaload, 1) := by decide +kernel
theorem dX12_isLower_52 : decode cX12_isLower 52 = .ok (.iconst 0, 1) := by decide +kernel

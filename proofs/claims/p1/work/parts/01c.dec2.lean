theorem dX12_hull_0 : decode cX12_hull 0 = .ok (.new 15, 3) := by decide +kernel
theorem dX12_hull_3 : decode cX12_hull 3 = .ok (.dup, 1) := by decide +kernel
theorem dX12_hull_4 : decode cX12_hull 4 = .ok (.invokespecial 17, 3) := by decide +kernel
theorem dX12_hull_7 : decode cX12_hull 7 = .ok (.astore_n 2, 1) := by decide +kernel
theorem dX12_hull_8 : decode cX12_hull 8 = .ok (.iconst (-1), 1) := by decide +kernel
theorem dX12_hull_9 : decode cX12_hull 9 = .ok (.istore_n 3, 1) := by decide +kernel
theorem dX12_hull_10 : decode cX12_hull 10 = .ok (.iconst 0, 1) := by decide +kernel
theorem dX12_hull_11 : decode cX12_hull 11 = .ok (.istore 4, 2) := by decide +kernel
theorem dX12_hull_13 : decode cX12_hull 13 = .ok (.iload 4, 2) := by decide +kernel
theorem dX12_hull_15 : decode cX12_hull 15 = .ok (.bipush 12, 2) := by decide +kernel
theorem dX12_hull_17 : decode cX12_hull 17 = .ok (.if_icmp .ge 41, 3) := by decide +kernel
theorem dX12_hull_20 : decode cX12_hull 20 = .ok (.iload_n 1, 1) := by decide +kernel
theorem dX12_hull_21 : decode cX12_hull 21 = .ok (.iload 4, 2) := by decide +kernel
theorem dX12_hull_23 : decode cX12_hull 23 = .ok (.ishr, 1) := by decide +kernel
theorem dX12_hull_24 : decode cX12_hull 24 = .ok (.iconst 1, 1) := by decide +kernel
theorem dX12_hull_25 : decode cX12_hull 25 = .ok (.iand, 1) := by decide +kernel
theorem dX12_hull_26 : decode cX12_hull 26 = .ok (.iconst 1, 1) := by decide +kernel
theorem dX12_hull_27 : decode cX12_hull 27 = .ok (.if_icmp .ne 23, 3) := by decide +kernel
theorem dX12_hull_50 : decode cX12_hull 50 = .ok (.iload_n 3, 1) := by decide +kernel
theorem dX12_hull_51 : decode cX12_hull 51 = .ok (.istore_n 3, 1) := by decide +kernel
theorem dX12_hull_52 : decode cX12_hull 52 = .ok (.iinc 4 1, 3) := by decide +kernel
theorem dX12_hull_55 : decode cX12_hull 55 = .ok (.goto (-42), 3) := by decide +kernel
theorem dX12_hull_58 : decode cX12_hull 58 = .ok (.iload_n 3, 1) := by decide +kernel
theorem dX12_hull_59 : decode cX12_hull 59 = .ok (.istore 4, 2) := by decide +kernel
theorem dX12_hull_61 : decode cX12_hull 61 = .ok (.iload 4, 2) := by decide +kernel
theorem dX12_hull_63 : decode cX12_hull 63 = .ok (.iconst (-1), 1) := by decide +kernel
theorem dX12_hull_64 : decode cX12_hull 64 = .ok (.if_icmp .eq 136, 3) := by decide +kernel
theorem dX12_hull_200 : decode cX12_hull 200 = .ok (.aload_n 2, 1) := by decide +kernel
theorem dX12_hull_201 : decode cX12_hull 201 = .ok (.areturn, 1) := by decide +kernel
theorem dX12_all_0 : decode cX12_all 0 = .ok (.iconst 0, 1) := by decide +kernel
theorem dX12_all_1 : decode cX12_all 1 = .ok (.istore_n 1, 1) := by decide +kernel
theorem dX12_all_2 : decode cX12_all 2 = .ok (.iconst 0, 1) := by decide +kernel
theorem dX12_all_3 : decode cX12_all 3 = .ok (.istore_n 2, 1) := by decide +kernel
theorem dX12_all_4 : decode cX12_all 4 = .ok (.iload_n 2, 1) := by decide +kernel
theorem dX12_all_5 : decode cX12_all 5 = .ok (.bipush 12, 2) := by decide +kernel
theorem dX12_all_7 : decode cX12_all 7 = .ok (.if_icmp .ge 28, 3) := by decide +kernel
theorem dX12_all_10 : decode cX12_all 10 = .ok (.iload_n 1, 1) := by decide +kernel
theorem dX12_all_11 : decode cX12_all 11 = .ok (.aload_n 0, 1) := by decide +kernel
theorem dX12_all_12 : decode cX12_all 12 = .ok (.getfield 11, 3) := by decide +kernel
theorem dX12_all_15 : decode cX12_all 15 = .ok (.iload_n 2, 1) := by decide +kernel
theorem dX12_all_16 : decode cX12_all 16 = .ok (.aaload, 1) := by decide +kernel
theorem dX12_all_17 : decode cX12_all 17 = .ok (.ifnonnull 7, 3) := by decide +kernel
theorem dX12_all_20 : decode cX12_all 20 = .ok (.iconst 0, 1) := by decide +kernel
theorem dX12_all_21 : decode cX12_all 21 = .ok (.goto 6, 3) := by decide +kernel
theorem dX12_all_27 : decode cX12_all 27 = .ok (.ior, 1) := by decide +kernel
theorem dX12_all_28 : decode cX12_all 28 = .ok (.istore_n 1, 1) := by decide +kernel
theorem dX12_all_29 : decode cX12_all 29 = .ok (.iinc 2 1, 3) := by decide +kernel
theorem dX12_all_32 : decode cX12_all 32 = .ok (.goto (-28), 3) := by decide +kernel
theorem dX12_all_35 : decode cX12_all 35 = .ok (.iload_n 1, 1) := by decide +kernel
theorem dX12_all_36 : decode cX12_all 36 = .ok (.ireturn, 1) := by decide +kernel
theorem dX12_countHull_0 : decode cX12_countHull 0 = .ok (.aload_n 0, 1) := by decide +kernel
theorem dX12_countHull_1 : decode cX12_countHull 1 = .ok (.iconst 0, 1) := by decide +kernel
theorem dX12_countHull_2 : decode cX12_countHull 2 = .ok (.putfield 25, 3) := by decide +kernel
theorem dX12_countHull_5 : decode cX12_countHull 5 = .ok (.aload_n 0, 1) := by decide +kernel
theorem dX12_countHull_6 : decode cX12_countHull 6 = .ok (.aload_n 0, 1) := by decide +kernel
theorem dX12_countHull_7 : decode cX12_countHull 7 = .ok (.invokevirtual 195, 3) := by decide +kernel
theorem dX12_countHull_10 : decode cX12_countHull 10 = .ok (.invokevirtual 198, 3) := by decide +kernel
theorem dX12_countHull_13 : decode cX12_countHull 13 = .ok (.invokeinterface 56 1, 5) := by decide +kernel
theorem dX12_countHull_18 : decode cX12_countHull 18 = .ok (.ireturn, 1) := by decide +kernel
theorem dX12_hullAt_0 : decode cX12_hullAt 0 = .ok (.aload_n 0, 1) := by decide +kernel
theorem dX12_hullAt_1 : decode cX12_hullAt 1 = .ok (.aload_n 0, 1) := by decide +kernel
theorem dX12_hullAt_2 : decode cX12_hullAt 2 = .ok (.invokevirtual 195, 3) := by decide +kernel
theorem dX12_hullAt_5 : decode cX12_hullAt 5 = .ok (.invokevirtual 198, 3) := by decide +kernel
theorem dX12_hullAt_8 : decode cX12_hullAt 8 = .ok (.astore_n 2, 1) := by decide +kernel
theorem dX12_hullAt_9 : decode cX12_hullAt 9 = .ok (.aload_n 0, 1) := by decide +kernel
theorem dX12_hullAt_10 : decode cX12_hullAt 10 = .ok (.iload_n 1, 1) := by decide +kernel
theorem dX12_hullAt_11 : decode cX12_hullAt 11 = .ok (.i2l, 1) := by decide +kernel
theorem dX12_hullAt_12 : decode cX12_hullAt 12 = .ok (.lconst 0, 1) := by decide +kernel
theorem dX12_hullAt_13 : decode cX12_hullAt 13 = .ok (.aload_n 2, 1) := by decide +kernel
theorem dX12_hullAt_14 : decode cX12_hullAt 14 = .ok (.invokeinterface 56 1, 5) := by decide +kernel
theorem dX12_hullAt_19 : decode cX12_hullAt 19 = .ok (.iconst 1, 1) := by decide +kernel
theorem dX12_hullAt_20 : decode cX12_hullAt 20 = .ok (.isub, 1) := by decide +kernel
theorem dX12_hullAt_21 : decode cX12_hullAt 21 = .ok (.i2l, 1) := by decide +kernel
theorem dX12_hullAt_22 : decode cX12_hullAt 22 = .ok (.invokestatic 29, 3) := by decide +kernel
theorem dX12_hullAt_25 : decode cX12_hullAt 25 = .ok (.ifCond .eq 7, 3) := by decide +kernel
theorem dX12_hullAt_32 : decode cX12_hullAt 32 = .ok (.iconst 1, 1) := by decide +kernel
theorem dX12_hullAt_33 : decode cX12_hullAt 33 = .ok (.invokevirtual 39, 3) := by decide +kernel
theorem dX12_hullAt_36 : decode cX12_hullAt 36 = .ok (.ifCond .eq 7, 3) := by decide +kernel
theorem dX12_hullAt_39 : decode cX12_hullAt 39 = .ok (.iconst 0, 1) := by decide +kernel
theorem dX12_hullAt_40 : decode cX12_hullAt 40 = .ok (.goto 16, 3) := by decide +kernel
theorem dX12_hullAt_56 : decode cX12_hullAt 56 = .ok (.ireturn, 1) := by decide +kernel
theorem dX12_hullArea_0 : decode cX12_hullArea 0 = .ok (.aload_n 0, 1) := by decide +kernel
theorem dX12_hullArea_1 : decode cX12_hullArea 1 = .ok (.iconst 0, 1) := by decide +kernel
theorem dX12_hullArea_2 : decode cX12_hullArea 2 = .ok (.putfield 25, 3) := by decide +kernel
theorem dX12_hullArea_5 : decode cX12_hullArea 5 = .ok (.aload_n 0, 1) := by decide +kernel
theorem dX12_hullArea_6 : decode cX12_hullArea 6 = .ok (.aload_n 0, 1) := by decide +kernel
theorem dX12_hullArea_7 : decode cX12_hullArea 7 = .ok (.invokevirtual 195, 3) := by decide +kernel
theorem dX12_hullArea_10 : decode cX12_hullArea 10 = .ok (.invokevirtual 198, 3) := by decide +kernel
theorem dX12_hullArea_13 : decode cX12_hullArea 13 = .ok (.astore_n 1, 1) := by decide +kernel
theorem dX12_hullArea_14 : decode cX12_hullArea 14 = .ok (.lconst 0, 1) := by decide +kernel
theorem dX12_hullArea_15 : decode cX12_hullArea 15 = .ok (.lstore_n 2, 1) := by decide +kernel
theorem dX12_hullArea_16 : decode cX12_hullArea 16 = .ok (.iconst 2, 1) := by decide +kernel
theorem dX12_hullArea_17 : decode cX12_hullArea 17 = .ok (.istore 4, 2) := by decide +kernel
theorem dX12_hullArea_19 : decode cX12_hullArea 19 = .ok (.iload 4, 2) := by decide +kernel
theorem dX12_hullArea_21 : decode cX12_hullArea 21 = .ok (.aload_n 1, 1) := by decide +kernel
theorem dX12_hullArea_22 : decode cX12_hullArea 22 = .ok (.invokeinterface 56 1, 5) := by decide +kernel
theorem dX12_hullArea_27 : decode cX12_hullArea 27 = .ok (.if_icmp .ge 73, 3) := by decide +kernel
theorem dX12_hullArea_100 : decode cX12_hullArea 100 = .ok (.lload_n 2, 1) := by decide +kernel
theorem dX12_hullArea_101 : decode cX12_hullArea 101 = .ok (.l2i, 1) := by decide +kernel
theorem dX12_hullArea_102 : decode cX12_hullArea 102 = .ok (.ireturn, 1) := by decide +kernel
theorem dX12_layer_0 : decode cX12_layer 0 = .ok (.aload_n 0, 1) := by decide +kernel
theorem dX12_layer_1 : decode cX12_layer 1 = .ok (.iload_n 1, 1) := by decide +kernel
theorem dX12_layer_2 : decode cX12_layer 2 = .ok (.invokevirtual 78, 3) := by decide +kernel
theorem dX12_layer_5 : decode cX12_layer 5 = .ok (.ifCond .eq 5, 3) := by decide +kernel
theorem dX12_layer_8 : decode cX12_layer 8 = .ok (.iconst 0, 1) := by decide +kernel
theorem dX12_layer_9 : decode cX12_layer 9 = .ok (.ireturn, 1) := by decide +kernel
theorem dX12_depth_0 : decode cX12_depth 0 = .ok (.aload_n 0, 1) := by decide +kernel
theorem dX12_depth_1 : decode cX12_depth 1 = .ok (.iload_n 1, 1) := by decide +kernel
theorem dX12_depth_2 : decode cX12_depth 2 = .ok (.invokevirtual 78, 3) := by decide +kernel
theorem dX12_depth_5 : decode cX12_depth 5 = .ok (.ifCond .eq 5, 3) := by decide +kernel
theorem dX12_depth_8 : decode cX12_depth 8 = .ok (.iconst 0, 1) := by decide +kernel
theorem dX12_depth_9 : decode cX12_depth 9 = .ok (.ireturn, 1) := by decide +kernel
theorem dX12_parts_0 : decode cX12_parts 0 = .ok (.iconst 0, 1) := by decide +kernel
theorem dX12_parts_1 : decode cX12_parts 1 = .ok (.istore_n 2, 1) := by decide +kernel
theorem dX12_parts_2 : decode cX12_parts 2 = .ok (.iload_n 1, 1) := by decide +kernel
theorem dX12_parts_3 : decode cX12_parts 3 = .ok (.istore_n 3, 1) := by decide +kernel
theorem dX12_parts_4 : decode cX12_parts 4 = .ok (.iload_n 3, 1) := by decide +kernel
theorem dX12_parts_5 : decode cX12_parts 5 = .ok (.ifCond .eq 104, 3) := by decide +kernel
theorem dX12_parts_109 : decode cX12_parts 109 = .ok (.iload_n 2, 1) := by decide +kernel
theorem dX12_parts_110 : decode cX12_parts 110 = .ok (.ireturn, 1) := by decide +kernel
theorem dX12_joined_0 : decode cX12_joined 0 = .ok (.aload_n 0, 1) := by decide +kernel
theorem dX12_joined_1 : decode cX12_joined 1 = .ok (.invokevirtual 183, 3) := by decide +kernel
theorem dX12_joined_4 : decode cX12_joined 4 = .ok (.astore_n 2, 1) := by decide +kernel
theorem dX12_joined_5 : decode cX12_joined 5 = .ok (.iconst 0, 1) := by decide +kernel
theorem dX12_joined_6 : decode cX12_joined 6 = .ok (.istore_n 3, 1) := by decide +kernel
theorem dX12_joined_7 : decode cX12_joined 7 = .ok (.iload_n 3, 1) := by decide +kernel
theorem dX12_joined_8 : decode cX12_joined 8 = .ok (.bipush 12, 2) := by decide +kernel
theorem dX12_joined_10 : decode cX12_joined 10 = .ok (.if_icmp .ge 62, 3) := by decide +kernel
theorem dX12_joined_13 : decode cX12_joined 13 = .ok (.iconst 0, 1) := by decide +kernel
theorem dX12_joined_14 : decode cX12_joined 14 = .ok (.istore 4, 2) := by decide +kernel
theorem dX12_joined_16 : decode cX12_joined 16 = .ok (.iload 4, 2) := by decide +kernel
theorem dX12_joined_18 : decode cX12_joined 18 = .ok (.bipush 12, 2) := by decide +kernel
theorem dX12_joined_20 : decode cX12_joined 20 = .ok (.if_icmp .ge 46, 3) := by decide +kernel
theorem dX12_joined_23 : decode cX12_joined 23 = .ok (.aload_n 2, 1) := by decide +kernel
theorem dX12_joined_24 : decode cX12_joined 24 = .ok (.iload_n 3, 1) := by decide +kernel
theorem dX12_joined_25 : decode cX12_joined 25 = .ok (.aaload, 1) := by decide +kernel
theorem dX12_joined_26 : decode cX12_joined 26 = .ok (.iload 4, 2) := by decide +kernel
theorem dX12_joined_28 : decode cX12_joined 28 = .ok (.aload_n 2, 1) := by decide +kernel
theorem dX12_joined_29 : decode cX12_joined 29 = .ok (.iload_n 3, 1) := by decide +kernel
theorem dX12_joined_30 : decode cX12_joined 30 = .ok (.aaload, 1) := by decide +kernel
theorem dX12_joined_31 : decode cX12_joined 31 = .ok (.iload 4, 2) := by decide +kernel
theorem dX12_joined_33 : decode cX12_joined 33 = .ok (.baload, 1) := by decide +kernel
theorem dX12_joined_34 : decode cX12_joined 34 = .ok (.ifCond .eq 24, 3) := by decide +kernel
theorem dX12_joined_58 : decode cX12_joined 58 = .ok (.iconst 0, 1) := by decide +kernel
theorem dX12_joined_59 : decode cX12_joined 59 = .ok (.bastore, 1) := by decide +kernel
theorem dX12_joined_60 : decode cX12_joined 60 = .ok (.iinc 4 1, 3) := by decide +kernel
theorem dX12_joined_63 : decode cX12_joined 63 = .ok (.goto (-47), 3) := by decide +kernel
theorem dX12_joined_66 : decode cX12_joined 66 = .ok (.iinc 3 1, 3) := by decide +kernel
theorem dX12_joined_69 : decode cX12_joined 69 = .ok (.goto (-62), 3) := by decide +kernel
theorem dX12_joined_72 : decode cX12_joined 72 = .ok (.aload_n 2, 1) := by decide +kernel
theorem dX12_joined_73 : decode cX12_joined 73 = .ok (.areturn, 1) := by decide +kernel
theorem dX12_countParts_0 : decode cX12_countParts 0 = .ok (.aload_n 0, 1) := by decide +kernel
theorem dX12_countParts_1 : decode cX12_countParts 1 = .ok (.iload_n 1, 1) := by decide +kernel
theorem dX12_countParts_2 : decode cX12_countParts 2 = .ok (.i2l, 1) := by decide +kernel
theorem dX12_countParts_3 : decode cX12_countParts 3 = .ok (.lconst 0, 1) := by decide +kernel
theorem dX12_countParts_4 : decode cX12_countParts 4 = .ok (.ldc2_w 214, 3) := by decide +kernel
theorem dX12_countParts_7 : decode cX12_countParts 7 = .ok (.invokestatic 29, 3) := by decide +kernel
theorem dX12_countParts_10 : decode cX12_countParts 10 = .ok (.ifCond .eq 7, 3) := by decide +kernel
theorem dX12_countParts_13 : decode cX12_countParts 13 = .ok (.iconst 0, 1) := by decide +kernel
theorem dX12_countParts_14 : decode cX12_countParts 14 = .ok (.goto 4, 3) := by decide +kernel
theorem dX12_countParts_17 : decode cX12_countParts 17 = .ok (.iconst 1, 1) := by decide +kernel
theorem dX12_countParts_18 : decode cX12_countParts 18 = .ok (.invokevirtual 39, 3) := by decide +kernel
theorem dX12_countParts_21 : decode cX12_countParts 21 = .ok (.ifCond .eq 7, 3) := by decide +kernel
theorem dX12_countParts_24 : decode cX12_countParts 24 = .ok (.iconst 0, 1) := by decide +kernel
theorem dX12_countParts_25 : decode cX12_countParts 25 = .ok (.goto 15, 3) := by decide +kernel
theorem dX12_countParts_28 : decode cX12_countParts 28 = .ok (.aload_n 0, 1) := by decide +kernel
theorem dX12_countParts_29 : decode cX12_countParts 29 = .ok (.iload_n 1, 1) := by decide +kernel
theorem dX12_countParts_30 : decode cX12_countParts 30 = .ok (.invokevirtual 216, 3) := by decide +kernel
theorem dX12_countParts_33 : decode cX12_countParts 33 = .ok (.aload_n 0, 1) := by decide +kernel
theorem dX12_countParts_34 : decode cX12_countParts 34 = .ok (.invokevirtual 195, 3) := by decide +kernel
theorem dX12_countParts_37 : decode cX12_countParts 37 = .ok (.invokestatic 220, 3) := by decide +kernel
theorem dX12_countParts_40 : decode cX12_countParts 40 = .ok (.ireturn, 1) := by decide +kernel
theorem dX12_countHoles_0 : decode cX12_countHoles 0 = .ok (.aload_n 0, 1) := by decide +kernel
theorem dX12_countHoles_1 : decode cX12_countHoles 1 = .ok (.iload_n 1, 1) := by decide +kernel
theorem dX12_countHoles_2 : decode cX12_countHoles 2 = .ok (.i2l, 1) := by decide +kernel
theorem dX12_countHoles_3 : decode cX12_countHoles 3 = .ok (.lconst 0, 1) := by decide +kernel
theorem dX12_countHoles_4 : decode cX12_countHoles 4 = .ok (.ldc2_w 214, 3) := by decide +kernel
theorem dX12_countHoles_7 : decode cX12_countHoles 7 = .ok (.invokestatic 29, 3) := by decide +kernel
theorem dX12_countHoles_10 : decode cX12_countHoles 10 = .ok (.ifCond .eq 7, 3) := by decide +kernel
theorem dX12_countHoles_13 : decode cX12_countHoles 13 = .ok (.iconst 0, 1) := by decide +kernel
theorem dX12_countHoles_14 : decode cX12_countHoles 14 = .ok (.goto 4, 3) := by decide +kernel
theorem dX12_countHoles_17 : decode cX12_countHoles 17 = .ok (.iconst 1, 1) := by decide +kernel
theorem dX12_countHoles_18 : decode cX12_countHoles 18 = .ok (.invokevirtual 39, 3) := by decide +kernel
theorem dX12_countHoles_21 : decode cX12_countHoles 21 = .ok (.ifCond .eq 5, 3) := by decide +kernel
theorem dX12_countHoles_24 : decode cX12_countHoles 24 = .ok (.iconst 0, 1) := by decide +kernel
theorem dX12_countHoles_25 : decode cX12_countHoles 25 = .ok (.ireturn, 1) := by decide +kernel
theorem dX12_countHoles_26 : decode cX12_countHoles 26 = .ok (.aload_n 0, 1) := by decide +kernel
theorem dX12_countHoles_27 : decode cX12_countHoles 27 = .ok (.iload_n 1, 1) := by decide +kernel
theorem dX12_countHoles_28 : decode cX12_countHoles 28 = .ok (.invokevirtual 216, 3) := by decide +kernel
theorem dX12_countHoles_31 : decode cX12_countHoles 31 = .ok (.astore_n 2, 1) := by decide +kernel
theorem dX12_countHoles_32 : decode cX12_countHoles 32 = .ok (.aload_n 2, 1) := by decide +kernel
theorem dX12_countHoles_33 : decode cX12_countHoles 33 = .ok (.aload_n 0, 1) := by decide +kernel
theorem dX12_countHoles_34 : decode cX12_countHoles 34 = .ok (.invokevirtual 195, 3) := by decide +kernel
theorem dX12_countHoles_37 : decode cX12_countHoles 37 = .ok (.invokestatic 220, 3) := by decide +kernel
theorem dX12_countHoles_40 : decode cX12_countHoles 40 = .ok (.aload_n 0, 1) := by decide +kernel
theorem dX12_countHoles_41 : decode cX12_countHoles 41 = .ok (.invokevirtual 72, 3) := by decide +kernel
theorem dX12_countHoles_44 : decode cX12_countHoles 44 = .ok (.isub, 1) := by decide +kernel
theorem dX12_countHoles_45 : decode cX12_countHoles 45 = .ok (.istore_n 3, 1) := by decide +kernel
theorem dX12_countHoles_46 : decode cX12_countHoles 46 = .ok (.iconst 0, 1) := by decide +kernel
theorem dX12_countHoles_47 : decode cX12_countHoles 47 = .ok (.istore 4, 2) := by decide +kernel
theorem dX12_countHoles_49 : decode cX12_countHoles 49 = .ok (.iload 4, 2) := by decide +kernel
theorem dX12_countHoles_51 : decode cX12_countHoles 51 = .ok (.bipush 12, 2) := by decide +kernel
theorem dX12_countHoles_53 : decode cX12_countHoles 53 = .ok (.if_icmp .ge 127, 3) := by decide +kernel
theorem dX12_countHoles_56 : decode cX12_countHoles 56 = .ok (.iload 4, 2) := by decide +kernel
theorem dX12_countHoles_58 : decode cX12_countHoles 58 = .ok (.iconst 1, 1) := by decide +kernel
theorem dX12_countHoles_59 : decode cX12_countHoles 59 = .ok (.iadd, 1) := by decide +kernel
theorem dX12_countHoles_60 : decode cX12_countHoles 60 = .ok (.istore 5, 2) := by decide +kernel
theorem dX12_countHoles_62 : decode cX12_countHoles 62 = .ok (.iload 5, 2) := by decide +kernel
theorem dX12_countHoles_64 : decode cX12_countHoles 64 = .ok (.bipush 12, 2) := by decide +kernel
theorem dX12_countHoles_66 : decode cX12_countHoles 66 = .ok (.if_icmp .ge 108, 3) := by decide +kernel
theorem dX12_countHoles_69 : decode cX12_countHoles 69 = .ok (.iload_n 3, 1) := by decide +kernel
theorem dX12_countHoles_70 : decode cX12_countHoles 70 = .ok (.aload_n 2, 1) := by decide +kernel
theorem dX12_countHoles_71 : decode cX12_countHoles 71 = .ok (.iload 4, 2) := by decide +kernel
theorem dX12_countHoles_73 : decode cX12_countHoles 73 = .ok (.aaload, 1) := by decide +kernel
theorem dX12_countHoles_74 : decode cX12_countHoles 74 = .ok (.iload 5, 2) := by decide +kernel
theorem dX12_countHoles_76 : decode cX12_countHoles 76 = .ok (.baload, 1) := by decide +kernel
theorem dX12_countHoles_77 : decode cX12_countHoles 77 = .ok (.ifCond .eq 7, 3) := by decide +kernel
theorem dX12_countHoles_84 : decode cX12_countHoles 84 = .ok (.iconst 0, 1) := by decide +kernel
theorem dX12_countHoles_85 : decode cX12_countHoles 85 = .ok (.iadd, 1) := by decide +kernel
theorem dX12_countHoles_86 : decode cX12_countHoles 86 = .ok (.istore_n 3, 1) := by decide +kernel
theorem dX12_countHoles_87 : decode cX12_countHoles 87 = .ok (.iload 5, 2) := by decide +kernel
theorem dX12_countHoles_89 : decode cX12_countHoles 89 = .ok (.iconst 1, 1) := by decide +kernel
theorem dX12_countHoles_90 : decode cX12_countHoles 90 = .ok (.iadd, 1) := by decide +kernel
theorem dX12_countHoles_91 : decode cX12_countHoles 91 = .ok (.istore 6, 2) := by decide +kernel
theorem dX12_countHoles_93 : decode cX12_countHoles 93 = .ok (.iload 6, 2) := by decide +kernel
theorem dX12_countHoles_95 : decode cX12_countHoles 95 = .ok (.bipush 12, 2) := by decide +kernel
theorem dX12_countHoles_97 : decode cX12_countHoles 97 = .ok (.if_icmp .ge 71, 3) := by decide +kernel
theorem dX12_countHoles_100 : decode cX12_countHoles 100 = .ok (.iload_n 3, 1) := by decide +kernel
theorem dX12_countHoles_101 : decode cX12_countHoles 101 = .ok (.aload_n 0, 1) := by decide +kernel
theorem dX12_countHoles_102 : decode cX12_countHoles 102 = .ok (.iload 4, 2) := by decide +kernel
theorem dX12_countHoles_104 : decode cX12_countHoles 104 = .ok (.invokevirtual 35, 3) := by decide +kernel
theorem dX12_countHoles_107 : decode cX12_countHoles 107 = .ok (.ifCond .eq 52, 3) := by decide +kernel
theorem dX12_countHoles_159 : decode cX12_countHoles 159 = .ok (.iconst 0, 1) := by decide +kernel
theorem dX12_countHoles_160 : decode cX12_countHoles 160 = .ok (.isub, 1) := by decide +kernel
theorem dX12_countHoles_161 : decode cX12_countHoles 161 = .ok (.istore_n 3, 1) := by decide +kernel
theorem dX12_countHoles_162 : decode cX12_countHoles 162 = .ok (.iinc 6 1, 3) := by decide +kernel
theorem dX12_countHoles_165 : decode cX12_countHoles 165 = .ok (.goto (-72), 3) := by decide +kernel
theorem dX12_countHoles_168 : decode cX12_countHoles 168 = .ok (.iinc 5 1, 3) := by decide +kernel
theorem dX12_countHoles_171 : decode cX12_countHoles 171 = .ok (.goto (-109), 3) := by decide +kernel
theorem dX12_countHoles_174 : decode cX12_countHoles 174 = .ok (.iinc 4 1, 3) := by decide +kernel
theorem dX12_countHoles_177 : decode cX12_countHoles 177 = .ok (.goto (-128), 3) := by decide +kernel
theorem dX12_countHoles_180 : decode cX12_countHoles 180 = .ok (.iload_n 3, 1) := by decide +kernel
theorem dX12_countHoles_181 : decode cX12_countHoles 181 = .ok (.ireturn, 1) := by decide +kernel
theorem dX12_addWall_0 : decode cX12_addWall 0 = .ok (.iload_n 1, 1) := by decide +kernel
theorem dX12_addWall_1 : decode cX12_addWall 1 = .ok (.iload_n 2, 1) := by decide +kernel
theorem dX12_addWall_2 : decode cX12_addWall 2 = .ok (.bipush 100, 2) := by decide +kernel
theorem dX12_addWall_4 : decode cX12_addWall 4 = .ok (.invokestatic 64, 3) := by decide +kernel
theorem dX12_addWall_7 : decode cX12_addWall 7 = .ok (.ifCond .eq 29, 3) := by decide +kernel
theorem dX12_addWall_10 : decode cX12_addWall 10 = .ok (.iload_n 3, 1) := by decide +kernel
theorem dX12_addWall_11 : decode cX12_addWall 11 = .ok (.iload 4, 2) := by decide +kernel
theorem dX12_addWall_13 : decode cX12_addWall 13 = .ok (.bipush 100, 2) := by decide +kernel
theorem dX12_addWall_15 : decode cX12_addWall 15 = .ok (.invokestatic 64, 3) := by decide +kernel
theorem dX12_addWall_18 : decode cX12_addWall 18 = .ok (.ifCond .eq 18, 3) := by decide +kernel
theorem dX12_addWall_21 : decode cX12_addWall 21 = .ok (.iload_n 1, 1) := by decide +kernel
theorem dX12_addWall_22 : decode cX12_addWall 22 = .ok (.iload_n 3, 1) := by decide +kernel
theorem dX12_addWall_23 : decode cX12_addWall 23 = .ok (.if_icmp .ne 9, 3) := by decide +kernel
theorem dX12_addWall_26 : decode cX12_addWall 26 = .ok (.iload_n 2, 1) := by decide +kernel
theorem dX12_addWall_27 : decode cX12_addWall 27 = .ok (.iload 4, 2) := by decide +kernel
theorem dX12_addWall_29 : decode cX12_addWall 29 = .ok (.if_icmp .eq 7, 3) := by decide +kernel
theorem dX12_addWall_32 : decode cX12_addWall 32 = .ok (.iconst 1, 1) := by decide +kernel
theorem dX12_addWall_33 : decode cX12_addWall 33 = .ok (.goto 4, 3) := by decide +kernel
theorem dX12_addWall_36 : decode cX12_addWall 36 = .ok (.iconst 0, 1) := by decide +kernel
theorem dX12_addWall_37 : decode cX12_addWall 37 = .ok (.istore 5, 2) := by decide +kernel
theorem dX12_addWall_39 : decode cX12_addWall 39 = .ok (.aload_n 0, 1) := by decide +kernel
theorem dX12_addWall_40 : decode cX12_addWall 40 = .ok (.iload 5, 2) := by decide +kernel
theorem dX12_addWall_42 : decode cX12_addWall 42 = .ok (.ifCond .ne 7, 3) := by decide +kernel
theorem dX12_addWall_45 : decode cX12_addWall 45 = .ok (.iconst 1, 1) := by decide +kernel
theorem dX12_addWall_46 : decode cX12_addWall 46 = .ok (.goto 22, 3) := by decide +kernel
theorem dX12_addWall_49 : decode cX12_addWall 49 = .ok (.aload_n 0, 1) := by decide +kernel
theorem dX12_addWall_50 : decode cX12_addWall 50 = .ok (.getfield 22, 3) := by decide +kernel
theorem dX12_addWall_53 : decode cX12_addWall 53 = .ok (.invokeinterface 56 1, 5) := by decide +kernel
theorem dX12_addWall_58 : decode cX12_addWall 58 = .ok (.bipush 10, 2) := by decide +kernel
theorem dX12_addWall_60 : decode cX12_addWall 60 = .ok (.if_icmp .ne 7, 3) := by decide +kernel
theorem dX12_addWall_67 : decode cX12_addWall 67 = .ok (.iconst 0, 1) := by decide +kernel
theorem dX12_addWall_68 : decode cX12_addWall 68 = .ok (.invokevirtual 39, 3) := by decide +kernel
theorem dX12_addWall_71 : decode cX12_addWall 71 = .ok (.ifCond .eq 5, 3) := by decide +kernel
theorem dX12_addWall_74 : decode cX12_addWall 74 = .ok (.iconst 0, 1) := by decide +kernel
theorem dX12_addWall_75 : decode cX12_addWall 75 = .ok (.ireturn, 1) := by decide +kernel
theorem dX12_addWall_76 : decode cX12_addWall 76 = .ok (.aload_n 0, 1) := by decide +kernel
theorem dX12_addWall_77 : decode cX12_addWall 77 = .ok (.getfield 22, 3) := by decide +kernel
theorem dX12_addWall_80 : decode cX12_addWall 80 = .ok (.iconst 4, 1) := by decide +kernel
theorem dX12_addWall_81 : decode cX12_addWall 81 = .ok (.newarray .int, 2) := by decide +kernel
theorem dX12_addWall_83 : decode cX12_addWall 83 = .ok (.dup, 1) := by decide +kernel
theorem dX12_addWall_84 : decode cX12_addWall 84 = .ok (.iconst 0, 1) := by decide +kernel
theorem dX12_addWall_85 : decode cX12_addWall 85 = .ok (.iload_n 1, 1) := by decide +kernel
theorem dX12_addWall_86 : decode cX12_addWall 86 = .ok (.iastore, 1) := by decide +kernel
theorem dX12_addWall_87 : decode cX12_addWall 87 = .ok (.dup, 1) := by decide +kernel
theorem dX12_addWall_88 : decode cX12_addWall 88 = .ok (.iconst 1, 1) := by decide +kernel
theorem dX12_addWall_89 : decode cX12_addWall 89 = .ok (.iload_n 2, 1) := by decide +kernel
theorem dX12_addWall_90 : decode cX12_addWall 90 = .ok (.iastore, 1) := by decide +kernel
theorem dX12_addWall_91 : decode cX12_addWall 91 = .ok (.dup, 1) := by decide +kernel
theorem dX12_addWall_92 : decode cX12_addWall 92 = .ok (.iconst 2, 1) := by decide +kernel
theorem dX12_addWall_93 : decode cX12_addWall 93 = .ok (.iload_n 3, 1) := by decide +kernel
theorem dX12_addWall_94 : decode cX12_addWall 94 = .ok (.iastore, 1) := by decide +kernel
theorem dX12_addWall_95 : decode cX12_addWall 95 = .ok (.dup, 1) := by decide +kernel
theorem dX12_addWall_96 : decode cX12_addWall 96 = .ok (.iconst 3, 1) := by decide +kernel
theorem dX12_addWall_97 : decode cX12_addWall 97 = .ok (.iload 4, 2) := by decide +kernel
theorem dX12_addWall_99 : decode cX12_addWall 99 = .ok (.iastore, 1) := by decide +kernel
theorem dX12_addWall_100 : decode cX12_addWall 100 = .ok (.invokeinterface 50 2, 5) := by decide +kernel
theorem dX12_addWall_105 : decode cX12_addWall 105 = .ok (.pop, 1) := by decide +kernel
theorem dX12_addWall_106 : decode cX12_addWall 106 = .ok (.aload_n 0, 1) := by decide +kernel
theorem dX12_addWall_107 : decode cX12_addWall 107 = .ok (.getfield 22, 3) := by decide +kernel
theorem dX12_addWall_110 : decode cX12_addWall 110 = .ok (.invokeinterface 56 1, 5) := by decide +kernel
theorem dX12_addWall_115 : decode cX12_addWall 115 = .ok (.iconst 1, 1) := by decide +kernel
theorem dX12_addWall_116 : decode cX12_addWall 116 = .ok (.isub, 1) := by decide +kernel
theorem dX12_addWall_117 : decode cX12_addWall 117 = .ok (.ireturn, 1) := by decide +kernel
theorem dX12_dropWall_0 : decode cX12_dropWall 0 = .ok (.aload_n 0, 1) := by decide +kernel
theorem dX12_dropWall_1 : decode cX12_dropWall 1 = .ok (.aload_n 0, 1) := by decide +kernel
theorem dX12_dropWall_2 : decode cX12_dropWall 2 = .ok (.getfield 22, 3) := by decide +kernel
theorem dX12_dropWall_5 : decode cX12_dropWall 5 = .ok (.invokeinterface 87 1, 5) := by decide +kernel
theorem dX12_dropWall_10 : decode cX12_dropWall 10 = .ok (.ifCond .eq 7, 3) := by decide +kernel
theorem dX12_dropWall_13 : decode cX12_dropWall 13 = .ok (.iconst 1, 1) := by decide +kernel
theorem dX12_dropWall_14 : decode cX12_dropWall 14 = .ok (.goto 4, 3) := by decide +kernel
theorem dX12_dropWall_18 : decode cX12_dropWall 18 = .ok (.invokevirtual 39, 3) := by decide +kernel
theorem dX12_dropWall_21 : decode cX12_dropWall 21 = .ok (.ifCond .eq 5, 3) := by decide +kernel
theorem dX12_dropWall_24 : decode cX12_dropWall 24 = .ok (.iconst 0, 1) := by decide +kernel
theorem dX12_dropWall_25 : decode cX12_dropWall 25 = .ok (.ireturn, 1) := by decide +kernel
theorem dX12_sees_0 : decode cX12_sees 0 = .ok (.aload_n 0, 1) := by decide +kernel
theorem dX12_sees_1 : decode cX12_sees 1 = .ok (.iload_n 3, 1) := by decide +kernel
theorem dX12_sees_2 : decode cX12_sees 2 = .ok (.invokevirtual 78, 3) := by decide +kernel
theorem dX12_sees_5 : decode cX12_sees 5 = .ok (.ifCond .ne 39, 3) := by decide +kernel
theorem dX12_sees_44 : decode cX12_sees 44 = .ok (.iconst 0, 1) := by decide +kernel
theorem dX12_sees_45 : decode cX12_sees 45 = .ok (.ireturn, 1) := by decide +kernel
theorem dX12_countSeen_0 : decode cX12_countSeen 0 = .ok (.aload_n 0, 1) := by decide +kernel
theorem dX12_countSeen_1 : decode cX12_countSeen 1 = .ok (.iload_n 1, 1) := by decide +kernel
theorem dX12_countSeen_2 : decode cX12_countSeen 2 = .ok (.invokevirtual 78, 3) := by decide +kernel
theorem dX12_countSeen_5 : decode cX12_countSeen 5 = .ok (.ifCond .eq 7, 3) := by decide +kernel
theorem dX12_countSeen_8 : decode cX12_countSeen 8 = .ok (.iconst 0, 1) := by decide +kernel
theorem dX12_countSeen_9 : decode cX12_countSeen 9 = .ok (.goto 13, 3) := by decide +kernel
theorem dX12_countSeen_22 : decode cX12_countSeen 22 = .ok (.ireturn, 1) := by decide +kernel
theorem dX12_fewest_0 : decode cX12_fewest 0 = .ok (.aload_n 0, 1) := by decide +kernel
theorem dX12_fewest_1 : decode cX12_fewest 1 = .ok (.invokevirtual 72, 3) := by decide +kernel
theorem dX12_fewest_4 : decode cX12_fewest 4 = .ok (.istore_n 2, 1) := by decide +kernel
theorem dX12_fewest_5 : decode cX12_fewest 5 = .ok (.iconst 0, 1) := by decide +kernel
theorem dX12_fewest_6 : decode cX12_fewest 6 = .ok (.istore_n 3, 1) := by decide +kernel
theorem dX12_fewest_7 : decode cX12_fewest 7 = .ok (.iload_n 3, 1) := by decide +kernel
theorem dX12_fewest_8 : decode cX12_fewest 8 = .ok (.sipush 4096, 3) := by decide +kernel
theorem dX12_fewest_11 : decode cX12_fewest 11 = .ok (.if_icmp .ge 80, 3) := by decide +kernel
theorem dX12_fewest_14 : decode cX12_fewest 14 = .ok (.iload_n 3, 1) := by decide +kernel
theorem dX12_fewest_15 : decode cX12_fewest 15 = .ok (.invokestatic 254, 3) := by decide +kernel
theorem dX12_fewest_18 : decode cX12_fewest 18 = .ok (.iload_n 2, 1) := by decide +kernel
theorem dX12_fewest_19 : decode cX12_fewest 19 = .ok (.if_icmp .lt 6, 3) := by decide +kernel
theorem dX12_fewest_22 : decode cX12_fewest 22 = .ok (.goto 63, 3) := by decide +kernel
theorem dX12_fewest_85 : decode cX12_fewest 85 = .ok (.iinc 3 1, 3) := by decide +kernel
theorem dX12_fewest_88 : decode cX12_fewest 88 = .ok (.goto (-81), 3) := by decide +kernel
theorem dX12_fewest_91 : decode cX12_fewest 91 = .ok (.iload_n 2, 1) := by decide +kernel
theorem dX12_fewest_92 : decode cX12_fewest 92 = .ok (.ireturn, 1) := by decide +kernel
theorem dX12_leastGuards_0 : decode cX12_leastGuards 0 = .ok (.aload_n 0, 1) := by decide +kernel
theorem dX12_leastGuards_1 : decode cX12_leastGuards 1 = .ok (.iconst 0, 1) := by decide +kernel
theorem dX12_leastGuards_2 : decode cX12_leastGuards 2 = .ok (.putfield 25, 3) := by decide +kernel
theorem dX12_leastGuards_5 : decode cX12_leastGuards 5 = .ok (.bipush 12, 2) := by decide +kernel
theorem dX12_leastGuards_7 : decode cX12_leastGuards 7 = .ok (.newarray .int, 2) := by decide +kernel
theorem dX12_leastGuards_9 : decode cX12_leastGuards 9 = .ok (.astore_n 1, 1) := by decide +kernel
theorem dX12_leastGuards_10 : decode cX12_leastGuards 10 = .ok (.iconst 0, 1) := by decide +kernel
theorem dX12_leastGuards_11 : decode cX12_leastGuards 11 = .ok (.istore_n 2, 1) := by decide +kernel
theorem dX12_leastGuards_12 : decode cX12_leastGuards 12 = .ok (.iload_n 2, 1) := by decide +kernel
theorem dX12_leastGuards_13 : decode cX12_leastGuards 13 = .ok (.bipush 12, 2) := by decide +kernel
theorem dX12_leastGuards_15 : decode cX12_leastGuards 15 = .ok (.if_icmp .ge 30, 3) := by decide +kernel
theorem dX12_leastGuards_18 : decode cX12_leastGuards 18 = .ok (.aload_n 1, 1) := by decide +kernel
theorem dX12_leastGuards_19 : decode cX12_leastGuards 19 = .ok (.iload_n 2, 1) := by decide +kernel
theorem dX12_leastGuards_20 : decode cX12_leastGuards 20 = .ok (.aload_n 0, 1) := by decide +kernel
theorem dX12_leastGuards_21 : decode cX12_leastGuards 21 = .ok (.getfield 11, 3) := by decide +kernel
theorem dX12_leastGuards_24 : decode cX12_leastGuards 24 = .ok (.iload_n 2, 1) := by decide +kernel
theorem dX12_leastGuards_25 : decode cX12_leastGuards 25 = .ok (.aaload, 1) := by decide +kernel
theorem dX12_leastGuards_26 : decode cX12_leastGuards 26 = .ok (.ifnonnull 7, 3) := by decide +kernel
theorem dX12_leastGuards_29 : decode cX12_leastGuards 29 = .ok (.iconst 0, 1) := by decide +kernel
theorem dX12_leastGuards_30 : decode cX12_leastGuards 30 = .ok (.goto 8, 3) := by decide +kernel
theorem dX12_leastGuards_38 : decode cX12_leastGuards 38 = .ok (.iastore, 1) := by decide +kernel
theorem dX12_leastGuards_39 : decode cX12_leastGuards 39 = .ok (.iinc 2 1, 3) := by decide +kernel
theorem dX12_leastGuards_42 : decode cX12_leastGuards 42 = .ok (.goto (-30), 3) := by decide +kernel
theorem dX12_leastGuards_45 : decode cX12_leastGuards 45 = .ok (.aload_n 0, 1) := by decide +kernel
theorem dX12_leastGuards_46 : decode cX12_leastGuards 46 = .ok (.aload_n 1, 1) := by decide +kernel
theorem dX12_leastGuards_47 : decode cX12_leastGuards 47 = .ok (.invokevirtual 257, 3) := by decide +kernel
theorem dX12_leastGuards_50 : decode cX12_leastGuards 50 = .ok (.ireturn, 1) := by decide +kernel
theorem dX12_setSpeed_0 : decode cX12_setSpeed 0 = .ok (.aload_n 0, 1) := by decide +kernel
theorem dX12_setSpeed_1 : decode cX12_setSpeed 1 = .ok (.iload_n 1, 1) := by decide +kernel
theorem dX12_setSpeed_2 : decode cX12_setSpeed 2 = .ok (.invokevirtual 78, 3) := by decide +kernel
theorem dX12_setSpeed_5 : decode cX12_setSpeed 5 = .ok (.ifCond .ne 25, 3) := by decide +kernel
theorem dX12_setSpeed_30 : decode cX12_setSpeed 30 = .ok (.iconst 0, 1) := by decide +kernel
theorem dX12_setSpeed_31 : decode cX12_setSpeed 31 = .ok (.ireturn, 1) := by decide +kernel
theorem dX12_behind_0 : decode cX12_behind 0 = .ok (.aload_n 0, 1) := by decide +kernel
theorem dX12_behind_1 : decode cX12_behind 1 = .ok (.getfield 11, 3) := by decide +kernel
theorem dX12_behind_4 : decode cX12_behind 4 = .ok (.invokestatic 46, 3) := by decide +kernel
theorem dX12_behind_7 : decode cX12_behind 7 = .ok (.astore_n 2, 1) := by decide +kernel
theorem dX12_behind_8 : decode cX12_behind 8 = .ok (.aload_n 2, 1) := by decide +kernel
theorem dX12_behind_9 : decode cX12_behind 9 = .ok (.astore_n 3, 1) := by decide +kernel
theorem dX12_behind_10 : decode cX12_behind 10 = .ok (.aload_n 3, 1) := by decide +kernel
theorem dX12_behind_11 : decode cX12_behind 11 = .ok (.arraylength, 1) := by decide +kernel
theorem dX12_behind_12 : decode cX12_behind 12 = .ok (.istore 4, 2) := by decide +kernel
theorem dX12_behind_14 : decode cX12_behind 14 = .ok (.iconst 0, 1) := by decide +kernel
theorem dX12_behind_15 : decode cX12_behind 15 = .ok (.istore 5, 2) := by decide +kernel
theorem dX12_behind_17 : decode cX12_behind 17 = .ok (.iload 5, 2) := by decide +kernel
theorem dX12_behind_19 : decode cX12_behind 19 = .ok (.iload 4, 2) := by decide +kernel
theorem dX12_behind_21 : decode cX12_behind 21 = .ok (.if_icmp .ge 49, 3) := by decide +kernel
theorem dX12_behind_24 : decode cX12_behind 24 = .ok (.aload_n 3, 1) := by decide +kernel
theorem dX12_behind_25 : decode cX12_behind 25 = .ok (.iload 5, 2) := by decide +kernel
theorem dX12_behind_27 : decode cX12_behind 27 = .ok (.aaload, 1) := by decide +kernel
theorem dX12_behind_28 : decode cX12_behind 28 = .ok (.astore 6, 2) := by decide +kernel
theorem dX12_behind_30 : decode cX12_behind 30 = .ok (.aload 6, 2) := by decide +kernel
theorem dX12_behind_32 : decode cX12_behind 32 = .ok (.ifnonnull 6, 3) := by decide +kernel
theorem dX12_behind_35 : decode cX12_behind 35 = .ok (.goto 29, 3) := by decide +kernel
theorem dX12_behind_64 : decode cX12_behind 64 = .ok (.iinc 5 1, 3) := by decide +kernel
theorem dX12_behind_67 : decode cX12_behind 67 = .ok (.goto (-50), 3) := by decide +kernel
theorem dX12_behind_70 : decode cX12_behind 70 = .ok (.aload_n 2, 1) := by decide +kernel
theorem dX12_behind_71 : decode cX12_behind 71 = .ok (.areturn, 1) := by decide +kernel
theorem dX12_pass_0 : decode cX12_pass 0 = .ok (.aload_n 0, 1) := by decide +kernel
theorem dX12_pass_1 : decode cX12_pass 1 = .ok (.iload_n 1, 1) := by decide +kernel
theorem dX12_pass_2 : decode cX12_pass 2 = .ok (.i2l, 1) := by decide +kernel
theorem dX12_pass_3 : decode cX12_pass 3 = .ok (.lconst 1, 1) := by decide +kernel
theorem dX12_pass_4 : decode cX12_pass 4 = .ok (.ldc2_w 261, 3) := by decide +kernel
theorem dX12_pass_7 : decode cX12_pass 7 = .ok (.invokestatic 29, 3) := by decide +kernel
theorem dX12_pass_10 : decode cX12_pass 10 = .ok (.ifCond .eq 7, 3) := by decide +kernel
theorem dX12_pass_13 : decode cX12_pass 13 = .ok (.iconst 0, 1) := by decide +kernel
theorem dX12_pass_14 : decode cX12_pass 14 = .ok (.goto 4, 3) := by decide +kernel
theorem dX12_pass_17 : decode cX12_pass 17 = .ok (.iconst 1, 1) := by decide +kernel
theorem dX12_pass_18 : decode cX12_pass 18 = .ok (.invokevirtual 39, 3) := by decide +kernel
theorem dX12_pass_21 : decode cX12_pass 21 = .ok (.ifCond .eq 5, 3) := by decide +kernel
theorem dX12_pass_24 : decode cX12_pass 24 = .ok (.iconst 0, 1) := by decide +kernel
theorem dX12_pass_25 : decode cX12_pass 25 = .ok (.ireturn, 1) := by decide +kernel
theorem dX12_pass_26 : decode cX12_pass 26 = .ok (.aload_n 0, 1) := by decide +kernel
theorem dX12_pass_27 : decode cX12_pass 27 = .ok (.iload_n 1, 1) := by decide +kernel
theorem dX12_pass_28 : decode cX12_pass 28 = .ok (.invokevirtual 263, 3) := by decide +kernel
theorem dX12_pass_31 : decode cX12_pass 31 = .ok (.astore_n 2, 1) := by decide +kernel
theorem dX12_pass_32 : decode cX12_pass 32 = .ok (.iconst 1, 1) := by decide +kernel
theorem dX12_pass_33 : decode cX12_pass 33 = .ok (.istore_n 3, 1) := by decide +kernel
theorem dX12_pass_34 : decode cX12_pass 34 = .ok (.iconst 0, 1) := by decide +kernel
theorem dX12_pass_35 : decode cX12_pass 35 = .ok (.istore 4, 2) := by decide +kernel
theorem dX12_pass_37 : decode cX12_pass 37 = .ok (.iconst 0, 1) := by decide +kernel
theorem dX12_pass_38 : decode cX12_pass 38 = .ok (.istore 5, 2) := by decide +kernel
theorem dX12_pass_40 : decode cX12_pass 40 = .ok (.iload 5, 2) := by decide +kernel
theorem dX12_pass_42 : decode cX12_pass 42 = .ok (.bipush 12, 2) := by decide +kernel
theorem dX12_pass_44 : decode cX12_pass 44 = .ok (.if_icmp .ge 128, 3) := by decide +kernel
theorem dX12_pass_47 : decode cX12_pass 47 = .ok (.aload_n 2, 1) := by decide +kernel
theorem dX12_pass_48 : decode cX12_pass 48 = .ok (.iload 5, 2) := by decide +kernel
theorem dX12_pass_50 : decode cX12_pass 50 = .ok (.aaload, 1) := by decide +kernel
theorem dX12_pass_51 : decode cX12_pass 51 = .ok (.ifnonnull 6, 3) := by decide +kernel
theorem dX12_pass_54 : decode cX12_pass 54 = .ok (.goto 112, 3) := by decide +kernel
theorem dX12_pass_166 : decode cX12_pass 166 = .ok (.iinc 5 1, 3) := by decide +kernel
theorem dX12_pass_169 : decode cX12_pass 169 = .ok (.goto (-129), 3) := by decide +kernel
theorem dX12_pass_172 : decode cX12_pass 172 = .ok (.aload_n 0, 1) := by decide +kernel
theorem dX12_pass_173 : decode cX12_pass 173 = .ok (.iload_n 3, 1) := by decide +kernel
theorem dX12_pass_174 : decode cX12_pass 174 = .ok (.ifCond .eq 7, 3) := by decide +kernel
theorem dX12_pass_177 : decode cX12_pass 177 = .ok (.iconst 0, 1) := by decide +kernel
theorem dX12_pass_178 : decode cX12_pass 178 = .ok (.goto 4, 3) := by decide +kernel
theorem dX12_pass_182 : decode cX12_pass 182 = .ok (.invokevirtual 39, 3) := by decide +kernel
theorem dX12_pass_185 : decode cX12_pass 185 = .ok (.ifCond .eq 5, 3) := by decide +kernel
theorem dX12_pass_190 : decode cX12_pass 190 = .ok (.aload_n 0, 1) := by decide +kernel
theorem dX12_pass_191 : decode cX12_pass 191 = .ok (.aload_n 2, 1) := by decide +kernel
theorem dX12_pass_192 : decode cX12_pass 192 = .ok (.putfield 11, 3) := by decide +kernel
theorem dX12_pass_195 : decode cX12_pass 195 = .ok (.iload 4, 2) := by decide +kernel
theorem dX12_pass_197 : decode cX12_pass 197 = .ok (.ireturn, 1) := by decide +kernel
theorem dX12_isNoChange_0 : decode cX12_isNoChange 0 = .ok (.aload_n 0, 1) := by decide +kernel
theorem dX12_isNoChange_1 : decode cX12_isNoChange 1 = .ok (.iload_n 1, 1) := by decide +kernel
theorem dX12_isNoChange_2 : decode cX12_isNoChange 2 = .ok (.iload_n 2, 1) := by decide +kernel
theorem dX12_isNoChange_3 : decode cX12_isNoChange 3 = .ok (.bipush 100, 2) := by decide +kernel
theorem dX12_isNoChange_5 : decode cX12_isNoChange 5 = .ok (.invokestatic 64, 3) := by decide +kernel
theorem dX12_isNoChange_8 : decode cX12_isNoChange 8 = .ok (.ifCond .ne 7, 3) := by decide +kernel
theorem dX12_isNoChange_11 : decode cX12_isNoChange 11 = .ok (.iconst 1, 1) := by decide +kernel
theorem dX12_isNoChange_12 : decode cX12_isNoChange 12 = .ok (.goto 25, 3) := by decide +kernel
theorem dX12_isNoChange_15 : decode cX12_isNoChange 15 = .ok (.aload_n 0, 1) := by decide +kernel
theorem dX12_isNoChange_16 : decode cX12_isNoChange 16 = .ok (.invokevirtual 72, 3) := by decide +kernel
theorem dX12_isNoChange_19 : decode cX12_isNoChange 19 = .ok (.ifCond .eq 13, 3) := by decide +kernel
theorem dX12_isNoChange_32 : decode cX12_isNoChange 32 = .ok (.iconst 2, 1) := by decide +kernel
theorem dX12_isNoChange_33 : decode cX12_isNoChange 33 = .ok (.goto 4, 3) := by decide +kernel
theorem dX12_isNoChange_37 : decode cX12_isNoChange 37 = .ok (.invokevirtual 39, 3) := by decide +kernel
theorem dX12_isNoChange_40 : decode cX12_isNoChange 40 = .ok (.ireturn, 1) := by decide +kernel
theorem dX12_nextNearest_0 : decode cX12_nextNearest 0 = .ok (.aload_n 0, 1) := by decide +kernel
theorem dX12_nextNearest_1 : decode cX12_nextNearest 1 = .ok (.iload_n 1, 1) := by decide +kernel
theorem dX12_nextNearest_2 : decode cX12_nextNearest 2 = .ok (.iload_n 2, 1) := by decide +kernel
theorem dX12_nextNearest_3 : decode cX12_nextNearest 3 = .ok (.invokevirtual 274, 3) := by decide +kernel
theorem dX12_nextNearest_6 : decode cX12_nextNearest 6 = .ok (.ifCond .eq 7, 3) := by decide +kernel
theorem dX12_nextNearest_9 : decode cX12_nextNearest 9 = .ok (.iconst 0, 1) := by decide +kernel
theorem dX12_nextNearest_10 : decode cX12_nextNearest 10 = .ok (.goto 18, 3) := by decide +kernel
theorem dX12_nextNearest_28 : decode cX12_nextNearest 28 = .ok (.ireturn, 1) := by decide +kernel
theorem dX12_nextTime_0 : decode cX12_nextTime 0 = .ok (.aload_n 0, 1) := by decide +kernel
theorem dX12_nextTime_1 : decode cX12_nextTime 1 = .ok (.iload_n 1, 1) := by decide +kernel
theorem dX12_nextTime_2 : decode cX12_nextTime 2 = .ok (.iload_n 2, 1) := by decide +kernel
theorem dX12_nextTime_3 : decode cX12_nextTime 3 = .ok (.invokevirtual 274, 3) := by decide +kernel
theorem dX12_nextTime_6 : decode cX12_nextTime 6 = .ok (.ifCond .eq 7, 3) := by decide +kernel
theorem dX12_nextTime_9 : decode cX12_nextTime 9 = .ok (.iconst 0, 1) := by decide +kernel
theorem dX12_nextTime_10 : decode cX12_nextTime 10 = .ok (.goto 9, 3) := by decide +kernel
theorem dX12_nextTime_19 : decode cX12_nextTime 19 = .ok (.ireturn, 1) := by decide +kernel
theorem dX12_isNoCut_0 : decode cX12_isNoCut 0 = .ok (.iload_n 1, 1) := by decide +kernel
theorem dX12_isNoCut_1 : decode cX12_isNoCut 1 = .ok (.bipush 97, 2) := by decide +kernel
theorem dX12_isNoCut_3 : decode cX12_isNoCut 3 = .ok (.if_icmp .eq 9, 3) := by decide +kernel
theorem dX12_isNoCut_6 : decode cX12_isNoCut 6 = .ok (.iload_n 1, 1) := by decide +kernel
theorem dX12_isNoCut_7 : decode cX12_isNoCut 7 = .ok (.bipush 122, 2) := by decide +kernel
theorem dX12_isNoCut_9 : decode cX12_isNoCut 9 = .ok (.if_icmp .ne 14, 3) := by decide +kernel
theorem dX12_isNoCut_12 : decode cX12_isNoCut 12 = .ok (.iload_n 2, 1) := by decide +kernel
theorem dX12_isNoCut_13 : decode cX12_isNoCut 13 = .ok (.i2l, 1) := by decide +kernel
theorem dX12_isNoCut_14 : decode cX12_isNoCut 14 = .ok (.lconst 1, 1) := by decide +kernel
theorem dX12_isNoCut_15 : decode cX12_isNoCut 15 = .ok (.iload_n 3, 1) := by decide +kernel
theorem dX12_isNoCut_16 : decode cX12_isNoCut 16 = .ok (.i2l, 1) := by decide +kernel
theorem dX12_isNoCut_17 : decode cX12_isNoCut 17 = .ok (.invokestatic 29, 3) := by decide +kernel
theorem dX12_isNoCut_20 : decode cX12_isNoCut 20 = .ok (.ifCond .ne 7, 3) := by decide +kernel
theorem dX12_isNoCut_23 : decode cX12_isNoCut 23 = .ok (.iconst 1, 1) := by decide +kernel
theorem dX12_isNoCut_24 : decode cX12_isNoCut 24 = .ok (.goto 4, 3) := by decide +kernel
theorem dX12_isNoCut_28 : decode cX12_isNoCut 28 = .ok (.ireturn, 1) := by decide +kernel
theorem dX12_cluster_0 : decode cX12_cluster 0 = .ok (.aload_n 0, 1) := by decide +kernel
theorem dX12_cluster_1 : decode cX12_cluster 1 = .ok (.iload_n 3, 1) := by decide +kernel
theorem dX12_cluster_2 : decode cX12_cluster 2 = .ok (.invokevirtual 78, 3) := by decide +kernel
theorem dX12_cluster_5 : decode cX12_cluster 5 = .ok (.ifCond .ne 28, 3) := by decide +kernel
theorem dX12_cluster_33 : decode cX12_cluster 33 = .ok (.iconst 0, 1) := by decide +kernel
theorem dX12_cluster_34 : decode cX12_cluster 34 = .ok (.goto 11, 3) := by decide +kernel
theorem dX12_cluster_45 : decode cX12_cluster 45 = .ok (.ireturn, 1) := by decide +kernel
theorem dX12_joinedAt_0 : decode cX12_joinedAt 0 = .ok (.aload_n 0, 1) := by decide +kernel
theorem dX12_joinedAt_1 : decode cX12_joinedAt 1 = .ok (.aload_n 0, 1) := by decide +kernel
theorem dX12_joinedAt_2 : decode cX12_joinedAt 2 = .ok (.iload_n 1, 1) := by decide +kernel
theorem dX12_joinedAt_3 : decode cX12_joinedAt 3 = .ok (.iload_n 2, 1) := by decide +kernel
theorem dX12_joinedAt_4 : decode cX12_joinedAt 4 = .ok (.aload_n 0, 1) := by decide +kernel
theorem dX12_joinedAt_5 : decode cX12_joinedAt 5 = .ok (.invokevirtual 72, 3) := by decide +kernel
theorem dX12_joinedAt_8 : decode cX12_joinedAt 8 = .ok (.iconst 1, 1) := by decide +kernel
theorem dX12_joinedAt_9 : decode cX12_joinedAt 9 = .ok (.isub, 1) := by decide +kernel
theorem dX12_joinedAt_10 : decode cX12_joinedAt 10 = .ok (.invokevirtual 288, 3) := by decide +kernel
theorem dX12_joinedAt_13 : decode cX12_joinedAt 13 = .ok (.ifCond .eq 7, 3) := by decide +kernel
theorem dX12_joinedAt_16 : decode cX12_joinedAt 16 = .ok (.iconst 1, 1) := by decide +kernel
theorem dX12_joinedAt_17 : decode cX12_joinedAt 17 = .ok (.goto 4, 3) := by decide +kernel
theorem dX12_joinedAt_21 : decode cX12_joinedAt 21 = .ok (.invokevirtual 39, 3) := by decide +kernel
theorem dX12_joinedAt_24 : decode cX12_joinedAt 24 = .ok (.ifCond .eq 5, 3) := by decide +kernel
theorem dX12_joinedAt_27 : decode cX12_joinedAt 27 = .ok (.iconst 0, 1) := by decide +kernel
theorem dX12_joinedAt_28 : decode cX12_joinedAt 28 = .ok (.ireturn, 1) := by decide +kernel
theorem dX12_centreDistance_0 : decode cX12_centreDistance 0 = .ok (.aload_n 0, 1) := by decide +kernel
theorem dX12_centreDistance_1 : decode cX12_centreDistance 1 = .ok (.iload_n 1, 1) := by decide +kernel
theorem dX12_centreDistance_2 : decode cX12_centreDistance 2 = .ok (.i2l, 1) := by decide +kernel
theorem dX12_centreDistance_3 : decode cX12_centreDistance 3 = .ok (.lconst 1, 1) := by decide +kernel
theorem dX12_centreDistance_4 : decode cX12_centreDistance 4 = .ok (.ldc2_w 212, 3) := by decide +kernel
theorem dX12_centreDistance_7 : decode cX12_centreDistance 7 = .ok (.invokestatic 29, 3) := by decide +kernel
theorem dX12_centreDistance_10 : decode cX12_centreDistance 10 = .ok (.ifCond .ne 7, 3) := by decide +kernel
theorem dX12_centreDistance_13 : decode cX12_centreDistance 13 = .ok (.iconst 1, 1) := by decide +kernel
theorem dX12_centreDistance_14 : decode cX12_centreDistance 14 = .ok (.goto 16, 3) := by decide +kernel
theorem dX12_centreDistance_17 : decode cX12_centreDistance 17 = .ok (.aload_n 0, 1) := by decide +kernel
theorem dX12_centreDistance_18 : decode cX12_centreDistance 18 = .ok (.invokevirtual 72, 3) := by decide +kernel
theorem dX12_centreDistance_21 : decode cX12_centreDistance 21 = .ok (.iload_n 1, 1) := by decide +kernel
theorem dX12_centreDistance_22 : decode cX12_centreDistance 22 = .ok (.if_icmp .ge 7, 3) := by decide +kernel
theorem dX12_centreDistance_25 : decode cX12_centreDistance 25 = .ok (.iconst 2, 1) := by decide +kernel
theorem dX12_centreDistance_26 : decode cX12_centreDistance 26 = .ok (.goto 4, 3) := by decide +kernel
theorem dX12_centreDistance_30 : decode cX12_centreDistance 30 = .ok (.invokevirtual 39, 3) := by decide +kernel
theorem dX12_centreDistance_33 : decode cX12_centreDistance 33 = .ok (.ifCond .eq 7, 3) := by decide +kernel
theorem dX12_centreDistance_36 : decode cX12_centreDistance 36 = .ok (.iconst 0, 1) := by decide +kernel
theorem dX12_centreDistance_37 : decode cX12_centreDistance 37 = .ok (.goto 13, 3) := by decide +kernel
theorem dX12_centreDistance_50 : decode cX12_centreDistance 50 = .ok (.ireturn, 1) := by decide +kernel
theorem dX12_centre_0 : decode cX12_centre 0 = .ok (.aload_n 0, 1) := by decide +kernel
theorem dX12_centre_1 : decode cX12_centre 1 = .ok (.iload_n 1, 1) := by decide +kernel
theorem dX12_centre_2 : decode cX12_centre 2 = .ok (.i2l, 1) := by decide +kernel
theorem dX12_centre_3 : decode cX12_centre 3 = .ok (.lconst 1, 1) := by decide +kernel
theorem dX12_centre_4 : decode cX12_centre 4 = .ok (.ldc2_w 212, 3) := by decide +kernel
theorem dX12_centre_7 : decode cX12_centre 7 = .ok (.invokestatic 29, 3) := by decide +kernel
theorem dX12_centre_10 : decode cX12_centre 10 = .ok (.ifCond .eq 16, 3) := by decide +kernel
theorem dX12_centre_13 : decode cX12_centre 13 = .ok (.iload_n 2, 1) := by decide +kernel
theorem dX12_centre_14 : decode cX12_centre 14 = .ok (.i2l, 1) := by decide +kernel
theorem dX12_centre_15 : decode cX12_centre 15 = .ok (.lconst 0, 1) := by decide +kernel
theorem dX12_centre_16 : decode cX12_centre 16 = .ok (.iload_n 1, 1) := by decide +kernel
theorem dX12_centre_17 : decode cX12_centre 17 = .ok (.iconst 1, 1) := by decide +kernel
theorem dX12_centre_18 : decode cX12_centre 18 = .ok (.isub, 1) := by decide +kernel
theorem dX12_centre_19 : decode cX12_centre 19 = .ok (.i2l, 1) := by decide +kernel
theorem dX12_centre_20 : decode cX12_centre 20 = .ok (.invokestatic 29, 3) := by decide +kernel
theorem dX12_centre_23 : decode cX12_centre 23 = .ok (.ifCond .ne 7, 3) := by decide +kernel
theorem dX12_centre_26 : decode cX12_centre 26 = .ok (.iconst 1, 1) := by decide +kernel
theorem dX12_centre_27 : decode cX12_centre 27 = .ok (.goto 16, 3) := by decide +kernel
theorem dX12_centre_30 : decode cX12_centre 30 = .ok (.aload_n 0, 1) := by decide +kernel
theorem dX12_centre_31 : decode cX12_centre 31 = .ok (.invokevirtual 72, 3) := by decide +kernel
theorem dX12_centre_34 : decode cX12_centre 34 = .ok (.iload_n 1, 1) := by decide +kernel
theorem dX12_centre_35 : decode cX12_centre 35 = .ok (.if_icmp .ge 7, 3) := by decide +kernel
theorem dX12_centre_38 : decode cX12_centre 38 = .ok (.iconst 2, 1) := by decide +kernel
theorem dX12_centre_39 : decode cX12_centre 39 = .ok (.goto 4, 3) := by decide +kernel
theorem dX12_centre_43 : decode cX12_centre 43 = .ok (.invokevirtual 39, 3) := by decide +kernel
theorem dX12_centre_46 : decode cX12_centre 46 = .ok (.ifCond .eq 5, 3) := by decide +kernel
theorem dX12_centre_49 : decode cX12_centre 49 = .ok (.iconst 0, 1) := by decide +kernel
theorem dX12_centre_50 : decode cX12_centre 50 = .ok (.ireturn, 1) := by decide +kernel
theorem dX12_countDiscs_0 : decode cX12_countDiscs 0 = .ok (.aload_n 0, 1) := by decide +kernel
theorem dX12_countDiscs_1 : decode cX12_countDiscs 1 = .ok (.iload_n 1, 1) := by decide +kernel
theorem dX12_countDiscs_2 : decode cX12_countDiscs 2 = .ok (.i2l, 1) := by decide +kernel
theorem dX12_countDiscs_3 : decode cX12_countDiscs 3 = .ok (.lconst 0, 1) := by decide +kernel
theorem dX12_countDiscs_4 : decode cX12_countDiscs 4 = .ok (.ldc2_w 214, 3) := by decide +kernel
theorem dX12_countDiscs_7 : decode cX12_countDiscs 7 = .ok (.invokestatic 29, 3) := by decide +kernel
theorem dX12_countDiscs_10 : decode cX12_countDiscs 10 = .ok (.ifCond .eq 7, 3) := by decide +kernel
theorem dX12_countDiscs_13 : decode cX12_countDiscs 13 = .ok (.iconst 0, 1) := by decide +kernel
theorem dX12_countDiscs_14 : decode cX12_countDiscs 14 = .ok (.goto 4, 3) := by decide +kernel
theorem dX12_countDiscs_17 : decode cX12_countDiscs 17 = .ok (.iconst 1, 1) := by decide +kernel
theorem dX12_countDiscs_18 : decode cX12_countDiscs 18 = .ok (.invokevirtual 39, 3) := by decide +kernel
theorem dX12_countDiscs_21 : decode cX12_countDiscs 21 = .ok (.ifCond .eq 5, 3) := by decide +kernel
theorem dX12_countDiscs_24 : decode cX12_countDiscs 24 = .ok (.iconst 0, 1) := by decide +kernel
theorem dX12_countDiscs_25 : decode cX12_countDiscs 25 = .ok (.ireturn, 1) := by decide +kernel
theorem dX12_countDiscs_26 : decode cX12_countDiscs 26 = .ok (.bipush 12, 2) := by decide +kernel
theorem dX12_countDiscs_28 : decode cX12_countDiscs 28 = .ok (.newarray .int, 2) := by decide +kernel
theorem dX12_countDiscs_30 : decode cX12_countDiscs 30 = .ok (.astore_n 2, 1) := by decide +kernel
theorem dX12_countDiscs_31 : decode cX12_countDiscs 31 = .ok (.iconst 0, 1) := by decide +kernel
theorem dX12_countDiscs_32 : decode cX12_countDiscs 32 = .ok (.istore_n 3, 1) := by decide +kernel
theorem dX12_countDiscs_33 : decode cX12_countDiscs 33 = .ok (.iload_n 3, 1) := by decide +kernel
theorem dX12_countDiscs_34 : decode cX12_countDiscs 34 = .ok (.bipush 12, 2) := by decide +kernel
theorem dX12_countDiscs_36 : decode cX12_countDiscs 36 = .ok (.if_icmp .ge 69, 3) := by decide +kernel
theorem dX12_countDiscs_39 : decode cX12_countDiscs 39 = .ok (.iconst 0, 1) := by decide +kernel
theorem dX12_countDiscs_40 : decode cX12_countDiscs 40 = .ok (.istore 4, 2) := by decide +kernel
theorem dX12_countDiscs_42 : decode cX12_countDiscs 42 = .ok (.iload 4, 2) := by decide +kernel
theorem dX12_countDiscs_44 : decode cX12_countDiscs 44 = .ok (.bipush 12, 2) := by decide +kernel
theorem dX12_countDiscs_46 : decode cX12_countDiscs 46 = .ok (.if_icmp .ge 53, 3) := by decide +kernel
theorem dX12_countDiscs_49 : decode cX12_countDiscs 49 = .ok (.aload_n 2, 1) := by decide +kernel
theorem dX12_countDiscs_50 : decode cX12_countDiscs 50 = .ok (.iload_n 3, 1) := by decide +kernel
theorem dX12_countDiscs_51 : decode cX12_countDiscs 51 = .ok (.dup2, 1) := by decide +kernel
theorem dX12_countDiscs_52 : decode cX12_countDiscs 52 = .ok (.iaload, 1) := by decide +kernel
theorem dX12_countDiscs_53 : decode cX12_countDiscs 53 = .ok (.aload_n 0, 1) := by decide +kernel
theorem dX12_countDiscs_54 : decode cX12_countDiscs 54 = .ok (.iload_n 3, 1) := by decide +kernel
theorem dX12_countDiscs_55 : decode cX12_countDiscs 55 = .ok (.invokevirtual 35, 3) := by decide +kernel
theorem dX12_countDiscs_58 : decode cX12_countDiscs 58 = .ok (.ifCond .eq 32, 3) := by decide +kernel
theorem dX12_countDiscs_90 : decode cX12_countDiscs 90 = .ok (.iconst 0, 1) := by decide +kernel
theorem dX12_countDiscs_91 : decode cX12_countDiscs 91 = .ok (.ior, 1) := by decide +kernel
theorem dX12_countDiscs_92 : decode cX12_countDiscs 92 = .ok (.iastore, 1) := by decide +kernel
theorem dX12_countDiscs_93 : decode cX12_countDiscs 93 = .ok (.iinc 4 1, 3) := by decide +kernel
theorem dX12_countDiscs_96 : decode cX12_countDiscs 96 = .ok (.goto (-54), 3) := by decide +kernel
theorem dX12_countDiscs_99 : decode cX12_countDiscs 99 = .ok (.iinc 3 1, 3) := by decide +kernel
theorem dX12_countDiscs_102 : decode cX12_countDiscs 102 = .ok (.goto (-69), 3) := by decide +kernel
theorem dX12_countDiscs_105 : decode cX12_countDiscs 105 = .ok (.aload_n 0, 1) := by decide +kernel
theorem dX12_countDiscs_106 : decode cX12_countDiscs 106 = .ok (.aload_n 2, 1) := by decide +kernel
theorem dX12_countDiscs_107 : decode cX12_countDiscs 107 = .ok (.invokevirtual 257, 3) := by decide +kernel
theorem dX12_countDiscs_110 : decode cX12_countDiscs 110 = .ok (.ireturn, 1) := by decide +kernel
theorem dX12_getHullShare_0 : decode cX12_getHullShare 0 = .ok (.aload_n 0, 1) := by decide +kernel
theorem dX12_getHullShare_1 : decode cX12_getHullShare 1 = .ok (.aload_n 0, 1) := by decide +kernel
theorem dX12_getHullShare_2 : decode cX12_getHullShare 2 = .ok (.invokevirtual 72, 3) := by decide +kernel
theorem dX12_getHullShare_5 : decode cX12_getHullShare 5 = .ok (.ifCond .ne 7, 3) := by decide +kernel
theorem dX12_getHullShare_8 : decode cX12_getHullShare 8 = .ok (.iconst 1, 1) := by decide +kernel
theorem dX12_getHullShare_9 : decode cX12_getHullShare 9 = .ok (.goto 4, 3) := by decide +kernel
theorem dX12_getHullShare_13 : decode cX12_getHullShare 13 = .ok (.invokevirtual 39, 3) := by decide +kernel
theorem dX12_getHullShare_16 : decode cX12_getHullShare 16 = .ok (.ifCond .eq 7, 3) := by decide +kernel
theorem dX12_getHullShare_19 : decode cX12_getHullShare 19 = .ok (.fconst 0, 1) := by decide +kernel
theorem dX12_getHullShare_20 : decode cX12_getHullShare 20 = .ok (.goto 23, 3) := by decide +kernel
theorem dX12_getHullShare_43 : decode cX12_getHullShare 43 = .ok (.freturn, 1) := by decide +kernel
theorem dX12_getMeanNeighbours_0 : decode cX12_getMeanNeighbours 0 = .ok (.iconst 0, 1) := by decide +kernel
theorem dX12_getMeanNeighbours_1 : decode cX12_getMeanNeighbours 1 = .ok (.istore_n 1, 1) := by decide +kernel
theorem dX12_getMeanNeighbours_2 : decode cX12_getMeanNeighbours 2 = .ok (.iconst 0, 1) := by decide +kernel
theorem dX12_getMeanNeighbours_3 : decode cX12_getMeanNeighbours 3 = .ok (.istore_n 2, 1) := by decide +kernel
theorem dX12_getMeanNeighbours_4 : decode cX12_getMeanNeighbours 4 = .ok (.iload_n 2, 1) := by decide +kernel
theorem dX12_getMeanNeighbours_5 : decode cX12_getMeanNeighbours 5 = .ok (.bipush 12, 2) := by decide +kernel
theorem dX12_getMeanNeighbours_7 : decode cX12_getMeanNeighbours 7 = .ok (.if_icmp .ge 17, 3) := by decide +kernel
theorem dX12_getMeanNeighbours_10 : decode cX12_getMeanNeighbours 10 = .ok (.iload_n 1, 1) := by decide +kernel
theorem dX12_getMeanNeighbours_11 : decode cX12_getMeanNeighbours 11 = .ok (.aload_n 0, 1) := by decide +kernel
theorem dX12_getMeanNeighbours_12 : decode cX12_getMeanNeighbours 12 = .ok (.iload_n 2, 1) := by decide +kernel
theorem dX12_getMeanNeighbours_13 : decode cX12_getMeanNeighbours 13 = .ok (.invokevirtual 157, 3) := by decide +kernel
theorem dX12_getMeanNeighbours_16 : decode cX12_getMeanNeighbours 16 = .ok (.iadd, 1) := by decide +kernel
theorem dX12_getMeanNeighbours_17 : decode cX12_getMeanNeighbours 17 = .ok (.istore_n 1, 1) := by decide +kernel
theorem dX12_getMeanNeighbours_18 : decode cX12_getMeanNeighbours 18 = .ok (.iinc 2 1, 3) := by decide +kernel
theorem dX12_getMeanNeighbours_21 : decode cX12_getMeanNeighbours 21 = .ok (.goto (-17), 3) := by decide +kernel
theorem dX12_getMeanNeighbours_24 : decode cX12_getMeanNeighbours 24 = .ok (.aload_n 0, 1) := by decide +kernel
theorem dX12_getMeanNeighbours_25 : decode cX12_getMeanNeighbours 25 = .ok (.aload_n 0, 1) := by decide +kernel
theorem dX12_getMeanNeighbours_26 : decode cX12_getMeanNeighbours 26 = .ok (.invokevirtual 72, 3) := by decide +kernel
theorem dX12_getMeanNeighbours_29 : decode cX12_getMeanNeighbours 29 = .ok (.ifCond .ne 7, 3) := by decide +kernel
theorem dX12_getMeanNeighbours_32 : decode cX12_getMeanNeighbours 32 = .ok (.iconst 1, 1) := by decide +kernel
theorem dX12_getMeanNeighbours_33 : decode cX12_getMeanNeighbours 33 = .ok (.goto 4, 3) := by decide +kernel
theorem dX12_getMeanNeighbours_37 : decode cX12_getMeanNeighbours 37 = .ok (.invokevirtual 39, 3) := by decide +kernel
theorem dX12_getMeanNeighbours_40 : decode cX12_getMeanNeighbours 40 = .ok (.ifCond .eq 7, 3) := by decide +kernel
theorem dX12_getMeanNeighbours_43 : decode cX12_getMeanNeighbours 43 = .ok (.dconst 0, 1) := by decide +kernel
theorem dX12_getMeanNeighbours_44 : decode cX12_getMeanNeighbours 44 = .ok (.goto 11, 3) := by decide +kernel
theorem dX12_getMeanNeighbours_55 : decode cX12_getMeanNeighbours 55 = .ok (.dreturn, 1) := by decide +kernel
theorem dX12_checksum_0 : decode cX12_checksum 0 = .ok (.ldc2_w 311, 3) := by decide +kernel
theorem dX12_checksum_3 : decode cX12_checksum 3 = .ok (.lstore_n 1, 1) := by decide +kernel
theorem dX12_checksum_4 : decode cX12_checksum 4 = .ok (.iconst 0, 1) := by decide +kernel
theorem dX12_checksum_5 : decode cX12_checksum 5 = .ok (.istore_n 3, 1) := by decide +kernel
theorem dX12_checksum_6 : decode cX12_checksum 6 = .ok (.iload_n 3, 1) := by decide +kernel
theorem dX12_checksum_7 : decode cX12_checksum 7 = .ok (.bipush 12, 2) := by decide +kernel
theorem dX12_checksum_9 : decode cX12_checksum 9 = .ok (.if_icmp .ge 69, 3) := by decide +kernel
theorem dX12_checksum_12 : decode cX12_checksum 12 = .ok (.aload_n 0, 1) := by decide +kernel
theorem dX12_checksum_13 : decode cX12_checksum 13 = .ok (.getfield 11, 3) := by decide +kernel
theorem dX12_checksum_16 : decode cX12_checksum 16 = .ok (.iload_n 3, 1) := by decide +kernel
theorem dX12_checksum_17 : decode cX12_checksum 17 = .ok (.aaload, 1) := by decide +kernel
theorem dX12_checksum_18 : decode cX12_checksum 18 = .ok (.ifnull 54, 3) := by decide +kernel
theorem dX12_checksum_72 : decode cX12_checksum 72 = .ok (.iinc 3 1, 3) := by decide +kernel
theorem dX12_checksum_75 : decode cX12_checksum 75 = .ok (.goto (-69), 3) := by decide +kernel
theorem dX12_checksum_78 : decode cX12_checksum 78 = .ok (.ldc2_w 313, 3) := by decide +kernel
theorem dX12_checksum_81 : decode cX12_checksum 81 = .ok (.ldc2_w 313, 3) := by decide +kernel
theorem dX12_checksum_84 : decode cX12_checksum 84 = .ok (.lload_n 1, 1) := by decide +kernel
theorem dX12_checksum_85 : decode cX12_checksum 85 = .ok (.lmul, 1) := by decide +kernel
theorem dX12_checksum_86 : decode cX12_checksum 86 = .ok (.aload_n 0, 1) := by decide +kernel
theorem dX12_checksum_87 : decode cX12_checksum 87 = .ok (.getfield 22, 3) := by decide +kernel
theorem dX12_checksum_90 : decode cX12_checksum 90 = .ok (.invokeinterface 56 1, 5) := by decide +kernel
theorem dX12_checksum_95 : decode cX12_checksum 95 = .ok (.i2l, 1) := by decide +kernel
theorem dX12_checksum_96 : decode cX12_checksum 96 = .ok (.ladd, 1) := by decide +kernel
theorem dX12_checksum_97 : decode cX12_checksum 97 = .ok (.lmul, 1) := by decide +kernel
theorem dX12_checksum_98 : decode cX12_checksum 98 = .ok (.aload_n 0, 1) := by decide +kernel
theorem dX12_checksum_99 : decode cX12_checksum 99 = .ok (.invokevirtual 315, 3) := by decide +kernel
theorem dX12_checksum_102 : decode cX12_checksum 102 = .ok (.i2l, 1) := by decide +kernel
theorem dX12_checksum_103 : decode cX12_checksum 103 = .ok (.ladd, 1) := by decide +kernel
theorem dX12_checksum_104 : decode cX12_checksum 104 = .ok (.lreturn, 1) := by decide +kernel
theorem dX12_isSound_0 : decode cX12_isSound 0 = .ok (.aload_n 0, 1) := by decide +kernel
theorem dX12_isSound_1 : decode cX12_isSound 1 = .ok (.iconst 0, 1) := by decide +kernel
theorem dX12_isSound_2 : decode cX12_isSound 2 = .ok (.putfield 25, 3) := by decide +kernel
theorem dX12_isSound_5 : decode cX12_isSound 5 = .ok (.iconst 1, 1) := by decide +kernel
theorem dX12_isSound_6 : decode cX12_isSound 6 = .ok (.ireturn, 1) := by decide +kernel
theorem dJ6_bitCount_0f7a4_0 : decode cJ6_bitCount_0f7a4 0 = .ok (.iload_n 0, 1) := by decide +kernel
theorem dJ6_bitCount_0f7a4_1 : decode cJ6_bitCount_0f7a4 1 = .ok (.iload_n 0, 1) := by decide +kernel
theorem dJ6_bitCount_0f7a4_2 : decode cJ6_bitCount_0f7a4 2 = .ok (.iconst 1, 1) := by decide +kernel
theorem dJ6_bitCount_0f7a4_3 : decode cJ6_bitCount_0f7a4 3 = .ok (.iushr, 1) := by decide +kernel
theorem dJ6_bitCount_0f7a4_4 : decode cJ6_bitCount_0f7a4 4 = .ok (.ldc_w 265, 3) := by decide +kernel
theorem dJ6_bitCount_0f7a4_7 : decode cJ6_bitCount_0f7a4 7 = .ok (.iand, 1) := by decide +kernel
theorem dJ6_bitCount_0f7a4_8 : decode cJ6_bitCount_0f7a4 8 = .ok (.isub, 1) := by decide +kernel
theorem dJ6_bitCount_0f7a4_9 : decode cJ6_bitCount_0f7a4 9 = .ok (.istore_n 0, 1) := by decide +kernel
theorem dJ6_bitCount_0f7a4_10 : decode cJ6_bitCount_0f7a4 10 = .ok (.iload_n 0, 1) := by decide +kernel
theorem dJ6_bitCount_0f7a4_11 : decode cJ6_bitCount_0f7a4 11 = .ok (.ldc_w 266, 3) := by decide +kernel
theorem dJ6_bitCount_0f7a4_14 : decode cJ6_bitCount_0f7a4 14 = .ok (.iand, 1) := by decide +kernel
theorem dJ6_bitCount_0f7a4_15 : decode cJ6_bitCount_0f7a4 15 = .ok (.iload_n 0, 1) := by decide +kernel
theorem dJ6_bitCount_0f7a4_16 : decode cJ6_bitCount_0f7a4 16 = .ok (.iconst 2, 1) := by decide +kernel
theorem dJ6_bitCount_0f7a4_17 : decode cJ6_bitCount_0f7a4 17 = .ok (.iushr, 1) := by decide +kernel
theorem dJ6_bitCount_0f7a4_18 : decode cJ6_bitCount_0f7a4 18 = .ok (.ldc_w 266, 3) := by decide +kernel
theorem dJ6_bitCount_0f7a4_21 : decode cJ6_bitCount_0f7a4 21 = .ok (.iand, 1) := by decide +kernel
theorem dJ6_bitCount_0f7a4_22 : decode cJ6_bitCount_0f7a4 22 = .ok (.iadd, 1) := by decide +kernel
theorem dJ6_bitCount_0f7a4_23 : decode cJ6_bitCount_0f7a4 23 = .ok (.istore_n 0, 1) := by decide +kernel
theorem dJ6_bitCount_0f7a4_24 : decode cJ6_bitCount_0f7a4 24 = .ok (.iload_n 0, 1) := by decide +kernel
theorem dJ6_bitCount_0f7a4_25 : decode cJ6_bitCount_0f7a4 25 = .ok (.iload_n 0, 1) := by decide +kernel
theorem dJ6_bitCount_0f7a4_26 : decode cJ6_bitCount_0f7a4 26 = .ok (.iconst 4, 1) := by decide +kernel
theorem dJ6_bitCount_0f7a4_27 : decode cJ6_bitCount_0f7a4 27 = .ok (.iushr, 1) := by decide +kernel
theorem dJ6_bitCount_0f7a4_28 : decode cJ6_bitCount_0f7a4 28 = .ok (.iadd, 1) := by decide +kernel
theorem dJ6_bitCount_0f7a4_29 : decode cJ6_bitCount_0f7a4 29 = .ok (.ldc_w 267, 3) := by decide +kernel
theorem dJ6_bitCount_0f7a4_32 : decode cJ6_bitCount_0f7a4 32 = .ok (.iand, 1) := by decide +kernel
theorem dJ6_bitCount_0f7a4_33 : decode cJ6_bitCount_0f7a4 33 = .ok (.istore_n 0, 1) := by decide +kernel
theorem dJ6_bitCount_0f7a4_34 : decode cJ6_bitCount_0f7a4 34 = .ok (.iload_n 0, 1) := by decide +kernel
theorem dJ6_bitCount_0f7a4_35 : decode cJ6_bitCount_0f7a4 35 = .ok (.iload_n 0, 1) := by decide +kernel
theorem dJ6_bitCount_0f7a4_36 : decode cJ6_bitCount_0f7a4 36 = .ok (.bipush 8, 2) := by decide +kernel
theorem dJ6_bitCount_0f7a4_38 : decode cJ6_bitCount_0f7a4 38 = .ok (.iushr, 1) := by decide +kernel
theorem dJ6_bitCount_0f7a4_39 : decode cJ6_bitCount_0f7a4 39 = .ok (.iadd, 1) := by decide +kernel
theorem dJ6_bitCount_0f7a4_40 : decode cJ6_bitCount_0f7a4 40 = .ok (.istore_n 0, 1) := by decide +kernel
theorem dJ6_bitCount_0f7a4_41 : decode cJ6_bitCount_0f7a4 41 = .ok (.iload_n 0, 1) := by decide +kernel
theorem dJ6_bitCount_0f7a4_42 : decode cJ6_bitCount_0f7a4 42 = .ok (.iload_n 0, 1) := by decide +kernel
theorem dJ6_bitCount_0f7a4_43 : decode cJ6_bitCount_0f7a4 43 = .ok (.bipush 16, 2) := by decide +kernel
theorem dJ6_bitCount_0f7a4_45 : decode cJ6_bitCount_0f7a4 45 = .ok (.iushr, 1) := by decide +kernel
theorem dJ6_bitCount_0f7a4_46 : decode cJ6_bitCount_0f7a4 46 = .ok (.iadd, 1) := by decide +kernel
theorem dJ6_bitCount_0f7a4_47 : decode cJ6_bitCount_0f7a4 47 = .ok (.istore_n 0, 1) := by decide +kernel
theorem dJ6_bitCount_0f7a4_48 : decode cJ6_bitCount_0f7a4 48 = .ok (.iload_n 0, 1) := by decide +kernel
theorem dJ6_bitCount_0f7a4_49 : decode cJ6_bitCount_0f7a4 49 = .ok (.bipush 63, 2) := by decide +kernel
theorem dJ6_bitCount_0f7a4_51 : decode cJ6_bitCount_0f7a4 51 = .ok (.iand, 1) := by decide +kernel
theorem dJ6_bitCount_0f7a4_52 : decode cJ6_bitCount_0f7a4 52 = .ok (.ireturn, 1) := by decide +kernel
theorem dJxa1e45_init_da8c8_0 : decode cJxa1e45_init_da8c8 0 = .ok (.aload_n 0, 1) := by decide +kernel
theorem dJxa1e45_init_da8c8_1 : decode cJxa1e45_init_da8c8 1 = .ok (.invokespecial 1, 3) := by decide +kernel
theorem dJxa1e45_init_da8c8_4 : decode cJxa1e45_init_da8c8 4 = .ok (.return_, 1) := by decide +kernel
theorem dJxc12de_init_da8c8_0 : decode cJxc12de_init_da8c8 0 = .ok (.aload_n 0, 1) := by decide +kernel
theorem dJxc12de_init_da8c8_1 : decode cJxc12de_init_da8c8 1 = .ok (.invokespecial 1, 3) := by decide +kernel
theorem dJxc12de_init_da8c8_4 : decode cJxc12de_init_da8c8 4 = .ok (.aload_n 0, 1) := by decide +kernel
theorem dJxc12de_init_da8c8_5 : decode cJxc12de_init_da8c8 5 = .ok (.iconst 0, 1) := by decide +kernel
theorem dJxc12de_init_da8c8_6 : decode cJxc12de_init_da8c8 6 = .ok (.putfield 7, 3) := by decide +kernel
theorem dJxc12de_init_da8c8_9 : decode cJxc12de_init_da8c8 9 = .ok (.return_, 1) := by decide +kernel
theorem dJx4a65c_init_da8c8_0 : decode cJx4a65c_init_da8c8 0 = .ok (.aload_n 0, 1) := by decide +kernel
theorem dJx4a65c_init_da8c8_1 : decode cJx4a65c_init_da8c8 1 = .ok (.invokespecial 1, 3) := by decide +kernel
theorem dJx4a65c_init_da8c8_4 : decode cJx4a65c_init_da8c8 4 = .ok (.aload_n 0, 1) := by decide +kernel
theorem dJx4a65c_init_da8c8_5 : decode cJx4a65c_init_da8c8 5 = .ok (.getstatic 39, 3) := by decide +kernel
theorem dJx4a65c_init_da8c8_8 : decode cJx4a65c_init_da8c8 8 = .ok (.putfield 9, 3) := by decide +kernel
theorem dJx4a65c_init_da8c8_11 : decode cJx4a65c_init_da8c8 11 = .ok (.return_, 1) := by decide +kernel
theorem dJx4a65c_grow_92f84_0 : decode cJx4a65c_grow_92f84 0 = .ok (.aload_n 0, 1) := by decide +kernel
theorem dJx4a65c_grow_92f84_1 : decode cJx4a65c_grow_92f84 1 = .ok (.getfield 9, 3) := by decide +kernel
theorem dJx4a65c_grow_92f84_4 : decode cJx4a65c_grow_92f84 4 = .ok (.arraylength, 1) := by decide +kernel
theorem dJx4a65c_grow_92f84_5 : decode cJx4a65c_grow_92f84 5 = .ok (.istore_n 2, 1) := by decide +kernel
theorem dJx4a65c_grow_92f84_6 : decode cJx4a65c_grow_92f84 6 = .ok (.iload_n 2, 1) := by decide +kernel
theorem dJx4a65c_grow_92f84_7 : decode cJx4a65c_grow_92f84 7 = .ok (.ifCond .gt 13, 3) := by decide +kernel
theorem dJx4a65c_grow_92f84_10 : decode cJx4a65c_grow_92f84 10 = .ok (.aload_n 0, 1) := by decide +kernel
theorem dJx4a65c_grow_92f84_11 : decode cJx4a65c_grow_92f84 11 = .ok (.getfield 9, 3) := by decide +kernel
theorem dJx4a65c_grow_92f84_14 : decode cJx4a65c_grow_92f84 14 = .ok (.getstatic 39, 3) := by decide +kernel
theorem dJx4a65c_grow_92f84_17 : decode cJx4a65c_grow_92f84 17 = .ok (.if_acmp .eq 28, 3) := by decide +kernel
theorem dJx4a65c_grow_92f84_45 : decode cJx4a65c_grow_92f84 45 = .ok (.aload_n 0, 1) := by decide +kernel
theorem dJx4a65c_grow_92f84_46 : decode cJx4a65c_grow_92f84 46 = .ok (.bipush 10, 2) := by decide +kernel
theorem dJx4a65c_grow_92f84_48 : decode cJx4a65c_grow_92f84 48 = .ok (.iload_n 1, 1) := by decide +kernel
theorem dJx4a65c_grow_92f84_49 : decode cJx4a65c_grow_92f84 49 = .ok (.invokestatic 79, 3) := by decide +kernel
theorem dJx4a65c_grow_92f84_52 : decode cJx4a65c_grow_92f84 52 = .ok (.anewarray 7, 3) := by decide +kernel
theorem dJx4a65c_grow_92f84_55 : decode cJx4a65c_grow_92f84 55 = .ok (.dup_x1, 1) := by decide +kernel
theorem dJx4a65c_grow_92f84_56 : decode cJx4a65c_grow_92f84 56 = .ok (.putfield 9, 3) := by decide +kernel
theorem dJx4a65c_grow_92f84_59 : decode cJx4a65c_grow_92f84 59 = .ok (.areturn, 1) := by decide +kernel
theorem dJx4a65c_grow_d5877_0 : decode cJx4a65c_grow_d5877 0 = .ok (.aload_n 0, 1) := by decide +kernel
theorem dJx4a65c_grow_d5877_1 : decode cJx4a65c_grow_d5877 1 = .ok (.aload_n 0, 1) := by decide +kernel
theorem dJx4a65c_grow_d5877_2 : decode cJx4a65c_grow_d5877 2 = .ok (.getfield 48, 3) := by decide +kernel
theorem dJx4a65c_grow_d5877_5 : decode cJx4a65c_grow_d5877 5 = .ok (.iconst 1, 1) := by decide +kernel
theorem dJx4a65c_grow_d5877_6 : decode cJx4a65c_grow_d5877 6 = .ok (.iadd, 1) := by decide +kernel
theorem dJx4a65c_grow_d5877_7 : decode cJx4a65c_grow_d5877 7 = .ok (.invokevirtual 69, 3) := by decide +kernel
theorem dJx4a65c_grow_d5877_10 : decode cJx4a65c_grow_d5877 10 = .ok (.areturn, 1) := by decide +kernel
theorem dJx4a65c_size_8abf5_0 : decode cJx4a65c_size_8abf5 0 = .ok (.aload_n 0, 1) := by decide +kernel
theorem dJx4a65c_size_8abf5_1 : decode cJx4a65c_size_8abf5 1 = .ok (.getfield 48, 3) := by decide +kernel
theorem dJx4a65c_size_8abf5_4 : decode cJx4a65c_size_8abf5 4 = .ok (.ireturn, 1) := by decide +kernel
theorem dJx4a65c_isEmpty_aae02_0 : decode cJx4a65c_isEmpty_aae02 0 = .ok (.aload_n 0, 1) := by decide +kernel
theorem dJx4a65c_isEmpty_aae02_1 : decode cJx4a65c_isEmpty_aae02 1 = .ok (.getfield 48, 3) := by decide +kernel
theorem dJx4a65c_isEmpty_aae02_4 : decode cJx4a65c_isEmpty_aae02 4 = .ok (.ifCond .ne 7, 3) := by decide +kernel
theorem dJx4a65c_isEmpty_aae02_7 : decode cJx4a65c_isEmpty_aae02 7 = .ok (.iconst 1, 1) := by decide +kernel
theorem dJx4a65c_isEmpty_aae02_8 : decode cJx4a65c_isEmpty_aae02 8 = .ok (.goto 4, 3) := by decide +kernel
theorem dJx4a65c_isEmpty_aae02_12 : decode cJx4a65c_isEmpty_aae02 12 = .ok (.ireturn, 1) := by decide +kernel
theorem dJx4a65c_add_72be8_0 : decode cJx4a65c_add_72be8 0 = .ok (.iload_n 3, 1) := by decide +kernel
theorem dJx4a65c_add_72be8_1 : decode cJx4a65c_add_72be8 1 = .ok (.aload_n 2, 1) := by decide +kernel
theorem dJx4a65c_add_72be8_2 : decode cJx4a65c_add_72be8 2 = .ok (.arraylength, 1) := by decide +kernel
theorem dJx4a65c_add_72be8_3 : decode cJx4a65c_add_72be8 3 = .ok (.if_icmp .ne 8, 3) := by decide +kernel
theorem dJx4a65c_add_72be8_6 : decode cJx4a65c_add_72be8 6 = .ok (.aload_n 0, 1) := by decide +kernel
theorem dJx4a65c_add_72be8_7 : decode cJx4a65c_add_72be8 7 = .ok (.invokevirtual 129, 3) := by decide +kernel
theorem dJx4a65c_add_72be8_10 : decode cJx4a65c_add_72be8 10 = .ok (.astore_n 2, 1) := by decide +kernel
theorem dJx4a65c_add_72be8_11 : decode cJx4a65c_add_72be8 11 = .ok (.aload_n 2, 1) := by decide +kernel
theorem dJx4a65c_add_72be8_12 : decode cJx4a65c_add_72be8 12 = .ok (.iload_n 3, 1) := by decide +kernel
theorem dJx4a65c_add_72be8_13 : decode cJx4a65c_add_72be8 13 = .ok (.aload_n 1, 1) := by decide +kernel
theorem dJx4a65c_add_72be8_14 : decode cJx4a65c_add_72be8 14 = .ok (.aastore, 1) := by decide +kernel
theorem dJx4a65c_add_72be8_15 : decode cJx4a65c_add_72be8 15 = .ok (.aload_n 0, 1) := by decide +kernel
theorem dJx4a65c_add_72be8_16 : decode cJx4a65c_add_72be8 16 = .ok (.iload_n 3, 1) := by decide +kernel
theorem dJx4a65c_add_72be8_17 : decode cJx4a65c_add_72be8 17 = .ok (.iconst 1, 1) := by decide +kernel
theorem dJx4a65c_add_72be8_18 : decode cJx4a65c_add_72be8 18 = .ok (.iadd, 1) := by decide +kernel
theorem dJx4a65c_add_72be8_19 : decode cJx4a65c_add_72be8 19 = .ok (.putfield 48, 3) := by decide +kernel
theorem dJx4a65c_add_72be8_22 : decode cJx4a65c_add_72be8 22 = .ok (.return_, 1) := by decide +kernel
theorem dJx4a65c_add_9ea2d_0 : decode cJx4a65c_add_9ea2d 0 = .ok (.aload_n 0, 1) := by decide +kernel
theorem dJx4a65c_add_9ea2d_1 : decode cJx4a65c_add_9ea2d 1 = .ok (.dup, 1) := by decide +kernel
theorem dJx4a65c_add_9ea2d_2 : decode cJx4a65c_add_9ea2d 2 = .ok (.getfield 63, 3) := by decide +kernel
theorem dJx4a65c_add_9ea2d_5 : decode cJx4a65c_add_9ea2d 5 = .ok (.iconst 1, 1) := by decide +kernel
theorem dJx4a65c_add_9ea2d_6 : decode cJx4a65c_add_9ea2d 6 = .ok (.iadd, 1) := by decide +kernel
theorem dJx4a65c_add_9ea2d_7 : decode cJx4a65c_add_9ea2d 7 = .ok (.putfield 63, 3) := by decide +kernel
theorem dJx4a65c_add_9ea2d_10 : decode cJx4a65c_add_9ea2d 10 = .ok (.aload_n 0, 1) := by decide +kernel
theorem dJx4a65c_add_9ea2d_11 : decode cJx4a65c_add_9ea2d 11 = .ok (.aload_n 1, 1) := by decide +kernel
theorem dJx4a65c_add_9ea2d_12 : decode cJx4a65c_add_9ea2d 12 = .ok (.aload_n 0, 1) := by decide +kernel
theorem dJx4a65c_add_9ea2d_13 : decode cJx4a65c_add_9ea2d 13 = .ok (.getfield 9, 3) := by decide +kernel
theorem dJx4a65c_add_9ea2d_16 : decode cJx4a65c_add_9ea2d 16 = .ok (.aload_n 0, 1) := by decide +kernel
theorem dJx4a65c_add_9ea2d_17 : decode cJx4a65c_add_9ea2d 17 = .ok (.getfield 48, 3) := by decide +kernel
theorem dJx4a65c_add_9ea2d_20 : decode cJx4a65c_add_9ea2d 20 = .ok (.invokevirtual 131, 3) := by decide +kernel
theorem dJx4a65c_add_9ea2d_23 : decode cJx4a65c_add_9ea2d 23 = .ok (.iconst 1, 1) := by decide +kernel
theorem dJx4a65c_add_9ea2d_24 : decode cJx4a65c_add_9ea2d 24 = .ok (.ireturn, 1) := by decide +kernel
theorem dL_addPoint_0 : decode cL_addPoint 0 = .ok (.aload_n 3, 1) := by decide +kernel
theorem dL_addPoint_1 : decode cL_addPoint 1 = .ok (.iconst 0, 1) := by decide +kernel
theorem dL_addPoint_2 : decode cL_addPoint 2 = .ok (.aload_n 0, 1) := by decide +kernel
theorem dL_addPoint_3 : decode cL_addPoint 3 = .ok (.iload_n 1, 1) := by decide +kernel
theorem dL_addPoint_4 : decode cL_addPoint 4 = .ok (.iload_n 2, 1) := by decide +kernel
theorem dL_addPoint_5 : decode cL_addPoint 5 = .ok (.invokevirtual 7, 3) := by decide +kernel
theorem dL_addPoint_8 : decode cL_addPoint 8 = .ok (.i2l, 1) := by decide +kernel
theorem dL_addPoint_9 : decode cL_addPoint 9 = .ok (.lastore, 1) := by decide +kernel
theorem dL_addPoint_10 : decode cL_addPoint 10 = .ok (.goto 15, 3) := by decide +kernel
theorem dL_addPoint_13 : decode cL_addPoint 13 = .ok (.astore 4, 2) := by decide +kernel
theorem dL_addPoint_15 : decode cL_addPoint 15 = .ok (.iconst 1, 1) := by decide +kernel
theorem dL_addPoint_16 : decode cL_addPoint 16 = .ok (.ireturn, 1) := by decide +kernel
theorem dL_addPoint_25 : decode cL_addPoint 25 = .ok (.iconst 0, 1) := by decide +kernel
theorem dL_addPoint_26 : decode cL_addPoint 26 = .ok (.ireturn, 1) := by decide +kernel
theorem dL_remove_0 : decode cL_remove 0 = .ok (.aload_n 2, 1) := by decide +kernel
theorem dL_remove_1 : decode cL_remove 1 = .ok (.iconst 0, 1) := by decide +kernel
theorem dL_remove_2 : decode cL_remove 2 = .ok (.aload_n 0, 1) := by decide +kernel
theorem dL_remove_3 : decode cL_remove 3 = .ok (.iload_n 1, 1) := by decide +kernel
theorem dL_remove_4 : decode cL_remove 4 = .ok (.invokevirtual 19, 3) := by decide +kernel
theorem dL_remove_12 : decode cL_remove 12 = .ok (.astore_n 3, 1) := by decide +kernel
theorem dL_remove_13 : decode cL_remove 13 = .ok (.iconst 1, 1) := by decide +kernel
theorem dL_remove_14 : decode cL_remove 14 = .ok (.ireturn, 1) := by decide +kernel
theorem dL_move_0 : decode cL_move 0 = .ok (.aload 4, 2) := by decide +kernel
theorem dL_move_2 : decode cL_move 2 = .ok (.iconst 0, 1) := by decide +kernel
theorem dL_move_3 : decode cL_move 3 = .ok (.aload_n 0, 1) := by decide +kernel
theorem dL_move_4 : decode cL_move 4 = .ok (.iload_n 1, 1) := by decide +kernel
theorem dL_move_5 : decode cL_move 5 = .ok (.iload_n 2, 1) := by decide +kernel
theorem dL_move_6 : decode cL_move 6 = .ok (.iload_n 3, 1) := by decide +kernel
theorem dL_move_7 : decode cL_move 7 = .ok (.invokevirtual 25, 3) := by decide +kernel
theorem dL_move_15 : decode cL_move 15 = .ok (.astore 5, 2) := by decide +kernel
theorem dL_move_17 : decode cL_move 17 = .ok (.iconst 1, 1) := by decide +kernel
theorem dL_move_18 : decode cL_move 18 = .ok (.ireturn, 1) := by decide +kernel
theorem dL_setWeight_0 : decode cL_setWeight 0 = .ok (.aload_n 3, 1) := by decide +kernel
theorem dL_setWeight_1 : decode cL_setWeight 1 = .ok (.iconst 0, 1) := by decide +kernel
theorem dL_setWeight_2 : decode cL_setWeight 2 = .ok (.aload_n 0, 1) := by decide +kernel
theorem dL_setWeight_3 : decode cL_setWeight 3 = .ok (.iload_n 1, 1) := by decide +kernel
theorem dL_setWeight_4 : decode cL_setWeight 4 = .ok (.iload_n 2, 1) := by decide +kernel
theorem dL_setWeight_5 : decode cL_setWeight 5 = .ok (.invokevirtual 29, 3) := by decide +kernel
theorem dL_setWeight_13 : decode cL_setWeight 13 = .ok (.astore 4, 2) := by decide +kernel
theorem dL_setWeight_15 : decode cL_setWeight 15 = .ok (.iconst 1, 1) := by decide +kernel
theorem dL_setWeight_16 : decode cL_setWeight 16 = .ok (.ireturn, 1) := by decide +kernel
theorem dL_pointAt_0 : decode cL_pointAt 0 = .ok (.aload_n 3, 1) := by decide +kernel
theorem dL_pointAt_1 : decode cL_pointAt 1 = .ok (.iconst 0, 1) := by decide +kernel
theorem dL_pointAt_2 : decode cL_pointAt 2 = .ok (.aload_n 0, 1) := by decide +kernel
theorem dL_pointAt_3 : decode cL_pointAt 3 = .ok (.iload_n 1, 1) := by decide +kernel
theorem dL_pointAt_4 : decode cL_pointAt 4 = .ok (.iload_n 2, 1) := by decide +kernel
theorem dL_pointAt_5 : decode cL_pointAt 5 = .ok (.invokevirtual 32, 3) := by decide +kernel
theorem dL_pointAt_13 : decode cL_pointAt 13 = .ok (.astore 4, 2) := by decide +kernel
theorem dL_pointAt_15 : decode cL_pointAt 15 = .ok (.iconst 1, 1) := by decide +kernel
theorem dL_pointAt_16 : decode cL_pointAt 16 = .ok (.ireturn, 1) := by decide +kernel
theorem dL_undo_0 : decode cL_undo 0 = .ok (.aload_n 1, 1) := by decide +kernel
theorem dL_undo_1 : decode cL_undo 1 = .ok (.iconst 0, 1) := by decide +kernel
theorem dL_undo_2 : decode cL_undo 2 = .ok (.aload_n 0, 1) := by decide +kernel
theorem dL_undo_3 : decode cL_undo 3 = .ok (.invokevirtual 37, 3) := by decide +kernel
theorem dL_undo_11 : decode cL_undo 11 = .ok (.astore_n 2, 1) := by decide +kernel
theorem dL_undo_12 : decode cL_undo 12 = .ok (.iconst 1, 1) := by decide +kernel
theorem dL_undo_13 : decode cL_undo 13 = .ok (.ireturn, 1) := by decide +kernel
theorem dL_nearest_0 : decode cL_nearest 0 = .ok (.aload 4, 2) := by decide +kernel
theorem dL_nearest_2 : decode cL_nearest 2 = .ok (.iconst 0, 1) := by decide +kernel
theorem dL_nearest_3 : decode cL_nearest 3 = .ok (.aload_n 0, 1) := by decide +kernel
theorem dL_nearest_4 : decode cL_nearest 4 = .ok (.iload_n 1, 1) := by decide +kernel
theorem dL_nearest_5 : decode cL_nearest 5 = .ok (.iload_n 2, 1) := by decide +kernel
theorem dL_nearest_6 : decode cL_nearest 6 = .ok (.iload_n 3, 1) := by decide +kernel
theorem dL_nearest_7 : decode cL_nearest 7 = .ok (.invokevirtual 41, 3) := by decide +kernel
theorem dL_nearest_15 : decode cL_nearest 15 = .ok (.astore 5, 2) := by decide +kernel
theorem dL_nearest_17 : decode cL_nearest 17 = .ok (.iconst 1, 1) := by decide +kernel
theorem dL_nearest_18 : decode cL_nearest 18 = .ok (.ireturn, 1) := by decide +kernel
theorem dL_nearest_19 : decode cL_nearest 19 = .ok (.astore 5, 2) := by decide +kernel
theorem dL_nearest_21 : decode cL_nearest 21 = .ok (.iconst 2, 1) := by decide +kernel
theorem dL_nearest_22 : decode cL_nearest 22 = .ok (.ireturn, 1) := by decide +kernel
theorem dL_nearness_0 : decode cL_nearness 0 = .ok (.aload 4, 2) := by decide +kernel
theorem dL_nearness_2 : decode cL_nearness 2 = .ok (.iconst 0, 1) := by decide +kernel
theorem dL_nearness_3 : decode cL_nearness 3 = .ok (.aload_n 0, 1) := by decide +kernel
theorem dL_nearness_4 : decode cL_nearness 4 = .ok (.iload_n 1, 1) := by decide +kernel
theorem dL_nearness_5 : decode cL_nearness 5 = .ok (.iload_n 2, 1) := by decide +kernel
theorem dL_nearness_6 : decode cL_nearness 6 = .ok (.iload_n 3, 1) := by decide +kernel
theorem dL_nearness_7 : decode cL_nearness 7 = .ok (.invokevirtual 45, 3) := by decide +kernel
theorem dL_nearness_15 : decode cL_nearness 15 = .ok (.astore 5, 2) := by decide +kernel
theorem dL_nearness_17 : decode cL_nearness 17 = .ok (.iconst 1, 1) := by decide +kernel
theorem dL_nearness_18 : decode cL_nearness 18 = .ok (.ireturn, 1) := by decide +kernel
theorem dL_nearness_19 : decode cL_nearness 19 = .ok (.astore 5, 2) := by decide +kernel
theorem dL_nearness_21 : decode cL_nearness 21 = .ok (.iconst 2, 1) := by decide +kernel
theorem dL_nearness_22 : decode cL_nearness 22 = .ok (.ireturn, 1) := by decide +kernel
theorem dL_farthest_0 : decode cL_farthest 0 = .ok (.aload 4, 2) := by decide +kernel
theorem dL_farthest_2 : decode cL_farthest 2 = .ok (.iconst 0, 1) := by decide +kernel
theorem dL_farthest_3 : decode cL_farthest 3 = .ok (.aload_n 0, 1) := by decide +kernel
theorem dL_farthest_4 : decode cL_farthest 4 = .ok (.iload_n 1, 1) := by decide +kernel
theorem dL_farthest_5 : decode cL_farthest 5 = .ok (.iload_n 2, 1) := by decide +kernel
theorem dL_farthest_6 : decode cL_farthest 6 = .ok (.iload_n 3, 1) := by decide +kernel
theorem dL_farthest_7 : decode cL_farthest 7 = .ok (.invokevirtual 48, 3) := by decide +kernel
theorem dL_farthest_15 : decode cL_farthest 15 = .ok (.astore 5, 2) := by decide +kernel
theorem dL_farthest_17 : decode cL_farthest 17 = .ok (.iconst 1, 1) := by decide +kernel
theorem dL_farthest_18 : decode cL_farthest 18 = .ok (.ireturn, 1) := by decide +kernel
theorem dL_farthest_19 : decode cL_farthest 19 = .ok (.astore 5, 2) := by decide +kernel
theorem dL_farthest_21 : decode cL_farthest 21 = .ok (.iconst 2, 1) := by decide +kernel
theorem dL_farthest_22 : decode cL_farthest 22 = .ok (.ireturn, 1) := by decide +kernel
theorem dL_nearestAt_0 : decode cL_nearestAt 0 = .ok (.aload 5, 2) := by decide +kernel
theorem dL_nearestAt_2 : decode cL_nearestAt 2 = .ok (.iconst 0, 1) := by decide +kernel
theorem dL_nearestAt_3 : decode cL_nearestAt 3 = .ok (.aload_n 0, 1) := by decide +kernel
theorem dL_nearestAt_4 : decode cL_nearestAt 4 = .ok (.iload_n 1, 1) := by decide +kernel
theorem dL_nearestAt_5 : decode cL_nearestAt 5 = .ok (.iload_n 2, 1) := by decide +kernel
theorem dL_nearestAt_6 : decode cL_nearestAt 6 = .ok (.iload_n 3, 1) := by decide +kernel
theorem dL_nearestAt_7 : decode cL_nearestAt 7 = .ok (.iload 4, 2) := by decide +kernel
theorem dL_nearestAt_9 : decode cL_nearestAt 9 = .ok (.invokevirtual 51, 3) := by decide +kernel
theorem dL_nearestAt_17 : decode cL_nearestAt 17 = .ok (.astore 6, 2) := by decide +kernel
theorem dL_nearestAt_19 : decode cL_nearestAt 19 = .ok (.iconst 1, 1) := by decide +kernel
theorem dL_nearestAt_20 : decode cL_nearestAt 20 = .ok (.ireturn, 1) := by decide +kernel
theorem dL_nearestAt_21 : decode cL_nearestAt 21 = .ok (.astore 6, 2) := by decide +kernel
theorem dL_nearestAt_23 : decode cL_nearestAt 23 = .ok (.iconst 2, 1) := by decide +kernel
theorem dL_nearestAt_24 : decode cL_nearestAt 24 = .ok (.ireturn, 1) := by decide +kernel
theorem dL_within_0 : decode cL_within 0 = .ok (.aload 4, 2) := by decide +kernel
theorem dL_within_2 : decode cL_within 2 = .ok (.iconst 0, 1) := by decide +kernel
theorem dL_within_3 : decode cL_within 3 = .ok (.aload_n 0, 1) := by decide +kernel
theorem dL_within_4 : decode cL_within 4 = .ok (.iload_n 1, 1) := by decide +kernel
theorem dL_within_5 : decode cL_within 5 = .ok (.iload_n 2, 1) := by decide +kernel
theorem dL_within_6 : decode cL_within 6 = .ok (.iload_n 3, 1) := by decide +kernel
theorem dL_within_7 : decode cL_within 7 = .ok (.invokevirtual 55, 3) := by decide +kernel
theorem dL_within_10 : decode cL_within 10 = .ok (.i2l, 1) := by decide +kernel
theorem dL_within_11 : decode cL_within 11 = .ok (.lastore, 1) := by decide +kernel
theorem dL_within_12 : decode cL_within 12 = .ok (.goto 7, 3) := by decide +kernel
theorem dL_within_15 : decode cL_within 15 = .ok (.astore 5, 2) := by decide +kernel
theorem dL_within_17 : decode cL_within 17 = .ok (.iconst 1, 1) := by decide +kernel
theorem dL_within_18 : decode cL_within 18 = .ok (.ireturn, 1) := by decide +kernel
theorem dL_within_19 : decode cL_within 19 = .ok (.iconst 0, 1) := by decide +kernel
theorem dL_within_20 : decode cL_within 20 = .ok (.ireturn, 1) := by decide +kernel
theorem dL_cell_0 : decode cL_cell 0 = .ok (.aload_n 3, 1) := by decide +kernel
theorem dL_cell_1 : decode cL_cell 1 = .ok (.iconst 0, 1) := by decide +kernel
theorem dL_cell_2 : decode cL_cell 2 = .ok (.aload_n 0, 1) := by decide +kernel
theorem dL_cell_3 : decode cL_cell 3 = .ok (.iload_n 1, 1) := by decide +kernel
theorem dL_cell_4 : decode cL_cell 4 = .ok (.iload_n 2, 1) := by decide +kernel
theorem dL_cell_5 : decode cL_cell 5 = .ok (.invokevirtual 58, 3) := by decide +kernel
theorem dL_cell_13 : decode cL_cell 13 = .ok (.astore 4, 2) := by decide +kernel
theorem dL_cell_15 : decode cL_cell 15 = .ok (.iconst 1, 1) := by decide +kernel
theorem dL_cell_16 : decode cL_cell 16 = .ok (.ireturn, 1) := by decide +kernel
theorem dL_turn_0 : decode cL_turn 0 = .ok (.aload 4, 2) := by decide +kernel
theorem dL_turn_2 : decode cL_turn 2 = .ok (.iconst 0, 1) := by decide +kernel
theorem dL_turn_3 : decode cL_turn 3 = .ok (.aload_n 0, 1) := by decide +kernel
theorem dL_turn_4 : decode cL_turn 4 = .ok (.iload_n 1, 1) := by decide +kernel
theorem dL_turn_5 : decode cL_turn 5 = .ok (.iload_n 2, 1) := by decide +kernel
theorem dL_turn_6 : decode cL_turn 6 = .ok (.iload_n 3, 1) := by decide +kernel
theorem dL_turn_7 : decode cL_turn 7 = .ok (.invokevirtual 62, 3) := by decide +kernel
theorem dL_turn_15 : decode cL_turn 15 = .ok (.astore 5, 2) := by decide +kernel
theorem dL_turn_17 : decode cL_turn 17 = .ok (.iconst 1, 1) := by decide +kernel
theorem dL_turn_18 : decode cL_turn 18 = .ok (.ireturn, 1) := by decide +kernel
theorem dL_inCircle_0 : decode cL_inCircle 0 = .ok (.aload 5, 2) := by decide +kernel
theorem dL_inCircle_2 : decode cL_inCircle 2 = .ok (.iconst 0, 1) := by decide +kernel
theorem dL_inCircle_3 : decode cL_inCircle 3 = .ok (.aload_n 0, 1) := by decide +kernel
theorem dL_inCircle_4 : decode cL_inCircle 4 = .ok (.iload_n 1, 1) := by decide +kernel
theorem dL_inCircle_5 : decode cL_inCircle 5 = .ok (.iload_n 2, 1) := by decide +kernel
theorem dL_inCircle_6 : decode cL_inCircle 6 = .ok (.iload_n 3, 1) := by decide +kernel
theorem dL_inCircle_7 : decode cL_inCircle 7 = .ok (.iload 4, 2) := by decide +kernel
theorem dL_inCircle_9 : decode cL_inCircle 9 = .ok (.invokevirtual 65, 3) := by decide +kernel
theorem dL_inCircle_17 : decode cL_inCircle 17 = .ok (.astore 6, 2) := by decide +kernel
theorem dL_inCircle_19 : decode cL_inCircle 19 = .ok (.iconst 1, 1) := by decide +kernel
theorem dL_inCircle_20 : decode cL_inCircle 20 = .ok (.ireturn, 1) := by decide +kernel
theorem dL_isTriangle_0 : decode cL_isTriangle 0 = .ok (.aload 4, 2) := by decide +kernel
theorem dL_isTriangle_2 : decode cL_isTriangle 2 = .ok (.iconst 0, 1) := by decide +kernel
theorem dL_isTriangle_3 : decode cL_isTriangle 3 = .ok (.aload_n 0, 1) := by decide +kernel
theorem dL_isTriangle_4 : decode cL_isTriangle 4 = .ok (.iload_n 1, 1) := by decide +kernel
theorem dL_isTriangle_5 : decode cL_isTriangle 5 = .ok (.iload_n 2, 1) := by decide +kernel
theorem dL_isTriangle_6 : decode cL_isTriangle 6 = .ok (.iload_n 3, 1) := by decide +kernel
theorem dL_isTriangle_7 : decode cL_isTriangle 7 = .ok (.invokevirtual 69, 3) := by decide +kernel
theorem dL_isTriangle_22 : decode cL_isTriangle 22 = .ok (.astore 5, 2) := by decide +kernel
theorem dL_isTriangle_24 : decode cL_isTriangle 24 = .ok (.iconst 1, 1) := by decide +kernel
theorem dL_isTriangle_25 : decode cL_isTriangle 25 = .ok (.ireturn, 1) := by decide +kernel
theorem dL_areNeighbours_0 : decode cL_areNeighbours 0 = .ok (.aload_n 3, 1) := by decide +kernel
theorem dL_areNeighbours_1 : decode cL_areNeighbours 1 = .ok (.iconst 0, 1) := by decide +kernel
theorem dL_areNeighbours_2 : decode cL_areNeighbours 2 = .ok (.aload_n 0, 1) := by decide +kernel
theorem dL_areNeighbours_3 : decode cL_areNeighbours 3 = .ok (.iload_n 1, 1) := by decide +kernel
theorem dL_areNeighbours_4 : decode cL_areNeighbours 4 = .ok (.iload_n 2, 1) := by decide +kernel
theorem dL_areNeighbours_5 : decode cL_areNeighbours 5 = .ok (.invokevirtual 73, 3) := by decide +kernel
theorem dL_areNeighbours_20 : decode cL_areNeighbours 20 = .ok (.astore 4, 2) := by decide +kernel
theorem dL_areNeighbours_22 : decode cL_areNeighbours 22 = .ok (.iconst 1, 1) := by decide +kernel
theorem dL_areNeighbours_23 : decode cL_areNeighbours 23 = .ok (.ireturn, 1) := by decide +kernel
theorem dL_countNeighbours_0 : decode cL_countNeighbours 0 = .ok (.aload_n 2, 1) := by decide +kernel
theorem dL_countNeighbours_1 : decode cL_countNeighbours 1 = .ok (.iconst 0, 1) := by decide +kernel
theorem dL_countNeighbours_2 : decode cL_countNeighbours 2 = .ok (.aload_n 0, 1) := by decide +kernel
theorem dL_countNeighbours_3 : decode cL_countNeighbours 3 = .ok (.iload_n 1, 1) := by decide +kernel
theorem dL_countNeighbours_4 : decode cL_countNeighbours 4 = .ok (.invokevirtual 77, 3) := by decide +kernel
theorem dL_countNeighbours_12 : decode cL_countNeighbours 12 = .ok (.astore_n 3, 1) := by decide +kernel
theorem dL_countNeighbours_13 : decode cL_countNeighbours 13 = .ok (.iconst 1, 1) := by decide +kernel
theorem dL_countNeighbours_14 : decode cL_countNeighbours 14 = .ok (.ireturn, 1) := by decide +kernel
theorem dL_isJoined_0 : decode cL_isJoined 0 = .ok (.aload 4, 2) := by decide +kernel
theorem dL_isJoined_2 : decode cL_isJoined 2 = .ok (.iconst 0, 1) := by decide +kernel
theorem dL_isJoined_3 : decode cL_isJoined 3 = .ok (.aload_n 0, 1) := by decide +kernel
theorem dL_isJoined_4 : decode cL_isJoined 4 = .ok (.iload_n 1, 1) := by decide +kernel
theorem dL_isJoined_5 : decode cL_isJoined 5 = .ok (.iload_n 2, 1) := by decide +kernel
theorem dL_isJoined_6 : decode cL_isJoined 6 = .ok (.iload_n 3, 1) := by decide +kernel
theorem dL_isJoined_7 : decode cL_isJoined 7 = .ok (.invokevirtual 80, 3) := by decide +kernel
theorem dL_isJoined_22 : decode cL_isJoined 22 = .ok (.astore 5, 2) := by decide +kernel
theorem dL_isJoined_24 : decode cL_isJoined 24 = .ok (.iconst 1, 1) := by decide +kernel
theorem dL_isJoined_25 : decode cL_isJoined 25 = .ok (.ireturn, 1) := by decide +kernel
theorem dL_countJoined_0 : decode cL_countJoined 0 = .ok (.aload_n 2, 1) := by decide +kernel
theorem dL_countJoined_1 : decode cL_countJoined 1 = .ok (.iconst 0, 1) := by decide +kernel
theorem dL_countJoined_2 : decode cL_countJoined 2 = .ok (.aload_n 0, 1) := by decide +kernel
theorem dL_countJoined_3 : decode cL_countJoined 3 = .ok (.iload_n 1, 1) := by decide +kernel
theorem dL_countJoined_4 : decode cL_countJoined 4 = .ok (.invokevirtual 84, 3) := by decide +kernel
theorem dL_countJoined_7 : decode cL_countJoined 7 = .ok (.i2l, 1) := by decide +kernel
theorem dL_countJoined_8 : decode cL_countJoined 8 = .ok (.lastore, 1) := by decide +kernel
theorem dL_countJoined_9 : decode cL_countJoined 9 = .ok (.goto 6, 3) := by decide +kernel
theorem dL_countJoined_12 : decode cL_countJoined 12 = .ok (.astore_n 3, 1) := by decide +kernel
theorem dL_countJoined_13 : decode cL_countJoined 13 = .ok (.iconst 1, 1) := by decide +kernel
theorem dL_countJoined_14 : decode cL_countJoined 14 = .ok (.ireturn, 1) := by decide +kernel
theorem dL_countJoined_15 : decode cL_countJoined 15 = .ok (.iconst 0, 1) := by decide +kernel
theorem dL_countJoined_16 : decode cL_countJoined 16 = .ok (.ireturn, 1) := by decide +kernel
theorem dL_steps_0 : decode cL_steps 0 = .ok (.aload_n 3, 1) := by decide +kernel
theorem dL_steps_1 : decode cL_steps 1 = .ok (.iconst 0, 1) := by decide +kernel
theorem dL_steps_2 : decode cL_steps 2 = .ok (.aload_n 0, 1) := by decide +kernel
theorem dL_steps_3 : decode cL_steps 3 = .ok (.iload_n 1, 1) := by decide +kernel
theorem dL_steps_4 : decode cL_steps 4 = .ok (.iload_n 2, 1) := by decide +kernel
theorem dL_steps_5 : decode cL_steps 5 = .ok (.invokevirtual 88, 3) := by decide +kernel
theorem dL_steps_13 : decode cL_steps 13 = .ok (.astore 4, 2) := by decide +kernel
theorem dL_steps_15 : decode cL_steps 15 = .ok (.iconst 1, 1) := by decide +kernel
theorem dL_steps_16 : decode cL_steps 16 = .ok (.ireturn, 1) := by decide +kernel
theorem dL_hullAt_0 : decode cL_hullAt 0 = .ok (.aload_n 2, 1) := by decide +kernel
theorem dL_hullAt_1 : decode cL_hullAt 1 = .ok (.iconst 0, 1) := by decide +kernel
theorem dL_hullAt_2 : decode cL_hullAt 2 = .ok (.aload_n 0, 1) := by decide +kernel
theorem dL_hullAt_3 : decode cL_hullAt 3 = .ok (.iload_n 1, 1) := by decide +kernel
theorem dL_hullAt_4 : decode cL_hullAt 4 = .ok (.invokevirtual 91, 3) := by decide +kernel
theorem dL_hullAt_12 : decode cL_hullAt 12 = .ok (.astore_n 3, 1) := by decide +kernel
theorem dL_hullAt_13 : decode cL_hullAt 13 = .ok (.iconst 1, 1) := by decide +kernel
theorem dL_hullAt_14 : decode cL_hullAt 14 = .ok (.ireturn, 1) := by decide +kernel
theorem dL_layer_0 : decode cL_layer 0 = .ok (.aload_n 2, 1) := by decide +kernel
theorem dL_layer_1 : decode cL_layer 1 = .ok (.iconst 0, 1) := by decide +kernel
theorem dL_layer_2 : decode cL_layer 2 = .ok (.aload_n 0, 1) := by decide +kernel
theorem dL_layer_3 : decode cL_layer 3 = .ok (.iload_n 1, 1) := by decide +kernel
theorem dL_layer_4 : decode cL_layer 4 = .ok (.invokevirtual 94, 3) := by decide +kernel
theorem dL_layer_12 : decode cL_layer 12 = .ok (.astore_n 3, 1) := by decide +kernel
theorem dL_layer_13 : decode cL_layer 13 = .ok (.iconst 1, 1) := by decide +kernel
theorem dL_layer_14 : decode cL_layer 14 = .ok (.ireturn, 1) := by decide +kernel
theorem dL_depth_0 : decode cL_depth 0 = .ok (.aload_n 2, 1) := by decide +kernel
theorem dL_depth_1 : decode cL_depth 1 = .ok (.iconst 0, 1) := by decide +kernel
theorem dL_depth_2 : decode cL_depth 2 = .ok (.aload_n 0, 1) := by decide +kernel
theorem dL_depth_3 : decode cL_depth 3 = .ok (.iload_n 1, 1) := by decide +kernel
theorem dL_depth_4 : decode cL_depth 4 = .ok (.invokevirtual 97, 3) := by decide +kernel
theorem dL_depth_12 : decode cL_depth 12 = .ok (.astore_n 3, 1) := by decide +kernel
theorem dL_depth_13 : decode cL_depth 13 = .ok (.iconst 1, 1) := by decide +kernel
theorem dL_depth_14 : decode cL_depth 14 = .ok (.ireturn, 1) := by decide +kernel
theorem dL_countParts_0 : decode cL_countParts 0 = .ok (.aload_n 2, 1) := by decide +kernel
theorem dL_countParts_1 : decode cL_countParts 1 = .ok (.iconst 0, 1) := by decide +kernel
theorem dL_countParts_2 : decode cL_countParts 2 = .ok (.aload_n 0, 1) := by decide +kernel
theorem dL_countParts_3 : decode cL_countParts 3 = .ok (.iload_n 1, 1) := by decide +kernel
theorem dL_countParts_4 : decode cL_countParts 4 = .ok (.invokevirtual 100, 3) := by decide +kernel
theorem dL_countParts_7 : decode cL_countParts 7 = .ok (.i2l, 1) := by decide +kernel
theorem dL_countParts_8 : decode cL_countParts 8 = .ok (.lastore, 1) := by decide +kernel
theorem dL_countParts_9 : decode cL_countParts 9 = .ok (.goto 6, 3) := by decide +kernel
theorem dL_countParts_12 : decode cL_countParts 12 = .ok (.astore_n 3, 1) := by decide +kernel
theorem dL_countParts_13 : decode cL_countParts 13 = .ok (.iconst 1, 1) := by decide +kernel
theorem dL_countParts_14 : decode cL_countParts 14 = .ok (.ireturn, 1) := by decide +kernel
theorem dL_countParts_15 : decode cL_countParts 15 = .ok (.iconst 0, 1) := by decide +kernel
theorem dL_countParts_16 : decode cL_countParts 16 = .ok (.ireturn, 1) := by decide +kernel
theorem dL_countHoles_0 : decode cL_countHoles 0 = .ok (.aload_n 2, 1) := by decide +kernel
theorem dL_countHoles_1 : decode cL_countHoles 1 = .ok (.iconst 0, 1) := by decide +kernel
theorem dL_countHoles_2 : decode cL_countHoles 2 = .ok (.aload_n 0, 1) := by decide +kernel
theorem dL_countHoles_3 : decode cL_countHoles 3 = .ok (.iload_n 1, 1) := by decide +kernel
theorem dL_countHoles_4 : decode cL_countHoles 4 = .ok (.invokevirtual 103, 3) := by decide +kernel
theorem dL_countHoles_7 : decode cL_countHoles 7 = .ok (.i2l, 1) := by decide +kernel
theorem dL_countHoles_8 : decode cL_countHoles 8 = .ok (.lastore, 1) := by decide +kernel
theorem dL_countHoles_9 : decode cL_countHoles 9 = .ok (.goto 6, 3) := by decide +kernel
theorem dL_countHoles_12 : decode cL_countHoles 12 = .ok (.astore_n 3, 1) := by decide +kernel
theorem dL_countHoles_13 : decode cL_countHoles 13 = .ok (.iconst 1, 1) := by decide +kernel
theorem dL_countHoles_14 : decode cL_countHoles 14 = .ok (.ireturn, 1) := by decide +kernel
theorem dL_countHoles_15 : decode cL_countHoles 15 = .ok (.iconst 0, 1) := by decide +kernel
theorem dL_countHoles_16 : decode cL_countHoles 16 = .ok (.ireturn, 1) := by decide +kernel
theorem dL_addWall_0 : decode cL_addWall 0 = .ok (.aload 5, 2) := by decide +kernel
theorem dL_addWall_2 : decode cL_addWall 2 = .ok (.iconst 0, 1) := by decide +kernel
theorem dL_addWall_3 : decode cL_addWall 3 = .ok (.aload_n 0, 1) := by decide +kernel
theorem dL_addWall_4 : decode cL_addWall 4 = .ok (.iload_n 1, 1) := by decide +kernel
theorem dL_addWall_5 : decode cL_addWall 5 = .ok (.iload_n 2, 1) := by decide +kernel
theorem dL_addWall_6 : decode cL_addWall 6 = .ok (.iload_n 3, 1) := by decide +kernel
theorem dL_addWall_7 : decode cL_addWall 7 = .ok (.iload 4, 2) := by decide +kernel
theorem dL_addWall_9 : decode cL_addWall 9 = .ok (.invokevirtual 106, 3) := by decide +kernel
theorem dL_addWall_12 : decode cL_addWall 12 = .ok (.i2l, 1) := by decide +kernel
theorem dL_addWall_13 : decode cL_addWall 13 = .ok (.lastore, 1) := by decide +kernel
theorem dL_addWall_14 : decode cL_addWall 14 = .ok (.goto 11, 3) := by decide +kernel
theorem dL_addWall_17 : decode cL_addWall 17 = .ok (.astore 6, 2) := by decide +kernel
theorem dL_addWall_19 : decode cL_addWall 19 = .ok (.iconst 1, 1) := by decide +kernel
theorem dL_addWall_20 : decode cL_addWall 20 = .ok (.ireturn, 1) := by decide +kernel
theorem dL_addWall_25 : decode cL_addWall 25 = .ok (.iconst 0, 1) := by decide +kernel
theorem dL_addWall_26 : decode cL_addWall 26 = .ok (.ireturn, 1) := by decide +kernel
theorem dL_dropWall_0 : decode cL_dropWall 0 = .ok (.aload_n 1, 1) := by decide +kernel
theorem dL_dropWall_1 : decode cL_dropWall 1 = .ok (.iconst 0, 1) := by decide +kernel
theorem dL_dropWall_2 : decode cL_dropWall 2 = .ok (.aload_n 0, 1) := by decide +kernel
theorem dL_dropWall_3 : decode cL_dropWall 3 = .ok (.invokevirtual 109, 3) := by decide +kernel
theorem dL_dropWall_11 : decode cL_dropWall 11 = .ok (.astore_n 2, 1) := by decide +kernel
theorem dL_dropWall_12 : decode cL_dropWall 12 = .ok (.iconst 1, 1) := by decide +kernel
theorem dL_dropWall_13 : decode cL_dropWall 13 = .ok (.ireturn, 1) := by decide +kernel
theorem dL_sees_0 : decode cL_sees 0 = .ok (.aload 4, 2) := by decide +kernel
theorem dL_sees_2 : decode cL_sees 2 = .ok (.iconst 0, 1) := by decide +kernel
theorem dL_sees_3 : decode cL_sees 3 = .ok (.aload_n 0, 1) := by decide +kernel
theorem dL_sees_4 : decode cL_sees 4 = .ok (.iload_n 1, 1) := by decide +kernel
theorem dL_sees_5 : decode cL_sees 5 = .ok (.iload_n 2, 1) := by decide +kernel
theorem dL_sees_6 : decode cL_sees 6 = .ok (.iload_n 3, 1) := by decide +kernel
theorem dL_sees_7 : decode cL_sees 7 = .ok (.invokevirtual 112, 3) := by decide +kernel
theorem dL_sees_22 : decode cL_sees 22 = .ok (.astore 5, 2) := by decide +kernel
theorem dL_sees_24 : decode cL_sees 24 = .ok (.iconst 1, 1) := by decide +kernel
theorem dL_sees_25 : decode cL_sees 25 = .ok (.ireturn, 1) := by decide +kernel
theorem dL_countSeen_0 : decode cL_countSeen 0 = .ok (.aload_n 2, 1) := by decide +kernel
theorem dL_countSeen_1 : decode cL_countSeen 1 = .ok (.iconst 0, 1) := by decide +kernel
theorem dL_countSeen_2 : decode cL_countSeen 2 = .ok (.aload_n 0, 1) := by decide +kernel
theorem dL_countSeen_3 : decode cL_countSeen 3 = .ok (.iload_n 1, 1) := by decide +kernel
theorem dL_countSeen_4 : decode cL_countSeen 4 = .ok (.invokevirtual 115, 3) := by decide +kernel
theorem dL_countSeen_12 : decode cL_countSeen 12 = .ok (.astore_n 3, 1) := by decide +kernel
theorem dL_countSeen_13 : decode cL_countSeen 13 = .ok (.iconst 1, 1) := by decide +kernel
theorem dL_countSeen_14 : decode cL_countSeen 14 = .ok (.ireturn, 1) := by decide +kernel
theorem dL_setSpeed_0 : decode cL_setSpeed 0 = .ok (.aload 4, 2) := by decide +kernel
theorem dL_setSpeed_2 : decode cL_setSpeed 2 = .ok (.iconst 0, 1) := by decide +kernel
theorem dL_setSpeed_3 : decode cL_setSpeed 3 = .ok (.aload_n 0, 1) := by decide +kernel
theorem dL_setSpeed_4 : decode cL_setSpeed 4 = .ok (.iload_n 1, 1) := by decide +kernel
theorem dL_setSpeed_5 : decode cL_setSpeed 5 = .ok (.iload_n 2, 1) := by decide +kernel
theorem dL_setSpeed_6 : decode cL_setSpeed 6 = .ok (.iload_n 3, 1) := by decide +kernel
theorem dL_setSpeed_7 : decode cL_setSpeed 7 = .ok (.invokevirtual 118, 3) := by decide +kernel
theorem dL_setSpeed_22 : decode cL_setSpeed 22 = .ok (.astore 5, 2) := by decide +kernel
theorem dL_setSpeed_24 : decode cL_setSpeed 24 = .ok (.iconst 1, 1) := by decide +kernel
theorem dL_setSpeed_25 : decode cL_setSpeed 25 = .ok (.ireturn, 1) := by decide +kernel
theorem dL_pass_0 : decode cL_pass 0 = .ok (.aload_n 2, 1) := by decide +kernel
theorem dL_pass_1 : decode cL_pass 1 = .ok (.iconst 0, 1) := by decide +kernel
theorem dL_pass_2 : decode cL_pass 2 = .ok (.aload_n 0, 1) := by decide +kernel
theorem dL_pass_3 : decode cL_pass 3 = .ok (.iload_n 1, 1) := by decide +kernel
theorem dL_pass_4 : decode cL_pass 4 = .ok (.invokevirtual 121, 3) := by decide +kernel
theorem dL_pass_7 : decode cL_pass 7 = .ok (.i2l, 1) := by decide +kernel
theorem dL_pass_8 : decode cL_pass 8 = .ok (.lastore, 1) := by decide +kernel
theorem dL_pass_9 : decode cL_pass 9 = .ok (.goto 9, 3) := by decide +kernel
theorem dL_pass_12 : decode cL_pass 12 = .ok (.astore_n 3, 1) := by decide +kernel
theorem dL_pass_13 : decode cL_pass 13 = .ok (.iconst 1, 1) := by decide +kernel
theorem dL_pass_14 : decode cL_pass 14 = .ok (.ireturn, 1) := by decide +kernel
theorem dL_pass_18 : decode cL_pass 18 = .ok (.iconst 0, 1) := by decide +kernel
theorem dL_pass_19 : decode cL_pass 19 = .ok (.ireturn, 1) := by decide +kernel
theorem dL_nextNearest_0 : decode cL_nextNearest 0 = .ok (.aload_n 3, 1) := by decide +kernel
theorem dL_nextNearest_1 : decode cL_nextNearest 1 = .ok (.iconst 0, 1) := by decide +kernel
theorem dL_nextNearest_2 : decode cL_nextNearest 2 = .ok (.aload_n 0, 1) := by decide +kernel
theorem dL_nextNearest_3 : decode cL_nextNearest 3 = .ok (.iload_n 1, 1) := by decide +kernel
theorem dL_nextNearest_4 : decode cL_nextNearest 4 = .ok (.iload_n 2, 1) := by decide +kernel
theorem dL_nextNearest_5 : decode cL_nextNearest 5 = .ok (.invokevirtual 124, 3) := by decide +kernel
theorem dL_nextNearest_13 : decode cL_nextNearest 13 = .ok (.astore 4, 2) := by decide +kernel
theorem dL_nextNearest_15 : decode cL_nextNearest 15 = .ok (.iconst 1, 1) := by decide +kernel
theorem dL_nextNearest_16 : decode cL_nextNearest 16 = .ok (.ireturn, 1) := by decide +kernel
theorem dL_nextNearest_17 : decode cL_nextNearest 17 = .ok (.astore 4, 2) := by decide +kernel
theorem dL_nextNearest_19 : decode cL_nextNearest 19 = .ok (.iconst 2, 1) := by decide +kernel
theorem dL_nextNearest_20 : decode cL_nextNearest 20 = .ok (.ireturn, 1) := by decide +kernel
theorem dL_nextTime_0 : decode cL_nextTime 0 = .ok (.aload_n 3, 1) := by decide +kernel
theorem dL_nextTime_1 : decode cL_nextTime 1 = .ok (.iconst 0, 1) := by decide +kernel
theorem dL_nextTime_2 : decode cL_nextTime 2 = .ok (.aload_n 0, 1) := by decide +kernel
theorem dL_nextTime_3 : decode cL_nextTime 3 = .ok (.iload_n 1, 1) := by decide +kernel
theorem dL_nextTime_4 : decode cL_nextTime 4 = .ok (.iload_n 2, 1) := by decide +kernel
theorem dL_nextTime_5 : decode cL_nextTime 5 = .ok (.invokevirtual 127, 3) := by decide +kernel
theorem dL_nextTime_13 : decode cL_nextTime 13 = .ok (.astore 4, 2) := by decide +kernel
theorem dL_nextTime_15 : decode cL_nextTime 15 = .ok (.iconst 1, 1) := by decide +kernel
theorem dL_nextTime_16 : decode cL_nextTime 16 = .ok (.ireturn, 1) := by decide +kernel
theorem dL_nextTime_17 : decode cL_nextTime 17 = .ok (.astore 4, 2) := by decide +kernel
theorem dL_nextTime_19 : decode cL_nextTime 19 = .ok (.iconst 2, 1) := by decide +kernel
theorem dL_nextTime_20 : decode cL_nextTime 20 = .ok (.ireturn, 1) := by decide +kernel
theorem dL_cluster_0 : decode cL_cluster 0 = .ok (.aload 4, 2) := by decide +kernel
theorem dL_cluster_2 : decode cL_cluster 2 = .ok (.iconst 0, 1) := by decide +kernel
theorem dL_cluster_3 : decode cL_cluster 3 = .ok (.aload_n 0, 1) := by decide +kernel
theorem dL_cluster_4 : decode cL_cluster 4 = .ok (.iload_n 1, 1) := by decide +kernel
theorem dL_cluster_5 : decode cL_cluster 5 = .ok (.iload_n 2, 1) := by decide +kernel
theorem dL_cluster_6 : decode cL_cluster 6 = .ok (.iload_n 3, 1) := by decide +kernel
theorem dL_cluster_7 : decode cL_cluster 7 = .ok (.invokevirtual 130, 3) := by decide +kernel
theorem dL_cluster_15 : decode cL_cluster 15 = .ok (.astore 5, 2) := by decide +kernel
theorem dL_cluster_17 : decode cL_cluster 17 = .ok (.iconst 1, 1) := by decide +kernel
theorem dL_cluster_18 : decode cL_cluster 18 = .ok (.ireturn, 1) := by decide +kernel
theorem dL_joinedAt_0 : decode cL_joinedAt 0 = .ok (.aload_n 3, 1) := by decide +kernel
theorem dL_joinedAt_1 : decode cL_joinedAt 1 = .ok (.iconst 0, 1) := by decide +kernel
theorem dL_joinedAt_2 : decode cL_joinedAt 2 = .ok (.aload_n 0, 1) := by decide +kernel
theorem dL_joinedAt_3 : decode cL_joinedAt 3 = .ok (.iload_n 1, 1) := by decide +kernel
theorem dL_joinedAt_4 : decode cL_joinedAt 4 = .ok (.iload_n 2, 1) := by decide +kernel
theorem dL_joinedAt_5 : decode cL_joinedAt 5 = .ok (.invokevirtual 133, 3) := by decide +kernel
theorem dL_joinedAt_13 : decode cL_joinedAt 13 = .ok (.astore 4, 2) := by decide +kernel
theorem dL_joinedAt_15 : decode cL_joinedAt 15 = .ok (.iconst 1, 1) := by decide +kernel
theorem dL_joinedAt_16 : decode cL_joinedAt 16 = .ok (.ireturn, 1) := by decide +kernel
theorem dL_centreDistance_0 : decode cL_centreDistance 0 = .ok (.aload_n 2, 1) := by decide +kernel
theorem dL_centreDistance_1 : decode cL_centreDistance 1 = .ok (.iconst 0, 1) := by decide +kernel
theorem dL_centreDistance_2 : decode cL_centreDistance 2 = .ok (.aload_n 0, 1) := by decide +kernel
theorem dL_centreDistance_3 : decode cL_centreDistance 3 = .ok (.iload_n 1, 1) := by decide +kernel
theorem dL_centreDistance_4 : decode cL_centreDistance 4 = .ok (.invokevirtual 136, 3) := by decide +kernel
theorem dL_centreDistance_12 : decode cL_centreDistance 12 = .ok (.astore_n 3, 1) := by decide +kernel
theorem dL_centreDistance_13 : decode cL_centreDistance 13 = .ok (.iconst 1, 1) := by decide +kernel
theorem dL_centreDistance_14 : decode cL_centreDistance 14 = .ok (.ireturn, 1) := by decide +kernel
theorem dL_centreDistance_15 : decode cL_centreDistance 15 = .ok (.astore_n 3, 1) := by decide +kernel
theorem dL_centreDistance_16 : decode cL_centreDistance 16 = .ok (.iconst 2, 1) := by decide +kernel
theorem dL_centreDistance_17 : decode cL_centreDistance 17 = .ok (.ireturn, 1) := by decide +kernel
theorem dL_centre_0 : decode cL_centre 0 = .ok (.aload_n 3, 1) := by decide +kernel
theorem dL_centre_1 : decode cL_centre 1 = .ok (.iconst 0, 1) := by decide +kernel
theorem dL_centre_2 : decode cL_centre 2 = .ok (.aload_n 0, 1) := by decide +kernel
theorem dL_centre_3 : decode cL_centre 3 = .ok (.iload_n 1, 1) := by decide +kernel
theorem dL_centre_4 : decode cL_centre 4 = .ok (.iload_n 2, 1) := by decide +kernel
theorem dL_centre_5 : decode cL_centre 5 = .ok (.invokevirtual 139, 3) := by decide +kernel
theorem dL_centre_13 : decode cL_centre 13 = .ok (.astore 4, 2) := by decide +kernel
theorem dL_centre_15 : decode cL_centre 15 = .ok (.iconst 1, 1) := by decide +kernel
theorem dL_centre_16 : decode cL_centre 16 = .ok (.ireturn, 1) := by decide +kernel
theorem dL_centre_17 : decode cL_centre 17 = .ok (.astore 4, 2) := by decide +kernel
theorem dL_centre_19 : decode cL_centre 19 = .ok (.iconst 2, 1) := by decide +kernel
theorem dL_centre_20 : decode cL_centre 20 = .ok (.ireturn, 1) := by decide +kernel
theorem dL_countDiscs_0 : decode cL_countDiscs 0 = .ok (.aload_n 2, 1) := by decide +kernel
theorem dL_countDiscs_1 : decode cL_countDiscs 1 = .ok (.iconst 0, 1) := by decide +kernel
theorem dL_countDiscs_2 : decode cL_countDiscs 2 = .ok (.aload_n 0, 1) := by decide +kernel
theorem dL_countDiscs_3 : decode cL_countDiscs 3 = .ok (.iload_n 1, 1) := by decide +kernel
theorem dL_countDiscs_4 : decode cL_countDiscs 4 = .ok (.invokevirtual 142, 3) := by decide +kernel
theorem dL_countDiscs_7 : decode cL_countDiscs 7 = .ok (.i2l, 1) := by decide +kernel
theorem dL_countDiscs_8 : decode cL_countDiscs 8 = .ok (.lastore, 1) := by decide +kernel
theorem dL_countDiscs_9 : decode cL_countDiscs 9 = .ok (.goto 6, 3) := by decide +kernel
theorem dL_countDiscs_12 : decode cL_countDiscs 12 = .ok (.astore_n 3, 1) := by decide +kernel
theorem dL_countDiscs_13 : decode cL_countDiscs 13 = .ok (.iconst 1, 1) := by decide +kernel
theorem dL_countDiscs_14 : decode cL_countDiscs 14 = .ok (.ireturn, 1) := by decide +kernel
theorem dL_countDiscs_15 : decode cL_countDiscs 15 = .ok (.iconst 0, 1) := by decide +kernel
theorem dL_countDiscs_16 : decode cL_countDiscs 16 = .ok (.ireturn, 1) := by decide +kernel
theorem dL_getHullShare_0 : decode cL_getHullShare 0 = .ok (.aload_n 1, 1) := by decide +kernel
theorem dL_getHullShare_1 : decode cL_getHullShare 1 = .ok (.iconst 0, 1) := by decide +kernel
theorem dL_getHullShare_2 : decode cL_getHullShare 2 = .ok (.aload_n 0, 1) := by decide +kernel
theorem dL_getHullShare_3 : decode cL_getHullShare 3 = .ok (.invokevirtual 145, 3) := by decide +kernel
theorem dL_getHullShare_11 : decode cL_getHullShare 11 = .ok (.astore_n 2, 1) := by decide +kernel
theorem dL_getHullShare_12 : decode cL_getHullShare 12 = .ok (.iconst 1, 1) := by decide +kernel
theorem dL_getHullShare_13 : decode cL_getHullShare 13 = .ok (.ireturn, 1) := by decide +kernel
theorem dL_getMeanNeighbours_0 : decode cL_getMeanNeighbours 0 = .ok (.aload_n 1, 1) := by decide +kernel
theorem dL_getMeanNeighbours_1 : decode cL_getMeanNeighbours 1 = .ok (.iconst 0, 1) := by decide +kernel
theorem dL_getMeanNeighbours_2 : decode cL_getMeanNeighbours 2 = .ok (.aload_n 0, 1) := by decide +kernel
theorem dL_getMeanNeighbours_3 : decode cL_getMeanNeighbours 3 = .ok (.invokevirtual 151, 3) := by decide +kernel
theorem dL_getMeanNeighbours_10 : decode cL_getMeanNeighbours 10 = .ok (.astore_n 2, 1) := by decide +kernel
theorem dL_getMeanNeighbours_11 : decode cL_getMeanNeighbours 11 = .ok (.iconst 1, 1) := by decide +kernel
theorem dL_getMeanNeighbours_12 : decode cL_getMeanNeighbours 12 = .ok (.ireturn, 1) := by decide +kernel

theorem dX0_init_0 : decode cX0_init 0 = .ok (.aload_n 0, 1) := by decide +kernel
theorem dX0_init_1 : decode cX0_init 1 = .ok (.invokespecial 3, 3) := by decide +kernel
theorem dX0_init_4 : decode cX0_init 4 = .ok (.return_, 1) := by decide +kernel
theorem dX1_init_0 : decode cX1_init 0 = .ok (.aload_n 0, 1) := by decide +kernel
theorem dX1_init_1 : decode cX1_init 1 = .ok (.invokespecial 3, 3) := by decide +kernel
theorem dX1_init_4 : decode cX1_init 4 = .ok (.aload_n 0, 1) := by decide +kernel
theorem dX1_init_5 : decode cX1_init 5 = .ok (.new 9, 3) := by decide +kernel
theorem dX1_init_8 : decode cX1_init 8 = .ok (.dup, 1) := by decide +kernel
theorem dX1_init_9 : decode cX1_init 9 = .ok (.invokespecial 11, 3) := by decide +kernel
theorem dX1_init_12 : decode cX1_init 12 = .ok (.putfield 12, 3) := by decide +kernel
theorem dX1_init_15 : decode cX1_init 15 = .ok (.aload_n 0, 1) := by decide +kernel
theorem dX1_init_16 : decode cX1_init 16 = .ok (.bipush 12, 2) := by decide +kernel
theorem dX1_init_18 : decode cX1_init 18 = .ok (.bipush 12, 2) := by decide +kernel
theorem dX1_init_20 : decode cX1_init 20 = .ok (.multianewarray 18 2, 4) := by decide +kernel
theorem dX1_init_24 : decode cX1_init 24 = .ok (.putfield 20, 3) := by decide +kernel
theorem dX1_init_27 : decode cX1_init 27 = .ok (.return_, 1) := by decide +kernel
theorem dX2_init_0 : decode cX2_init 0 = .ok (.aload_n 0, 1) := by decide +kernel
theorem dX2_init_1 : decode cX2_init 1 = .ok (.invokespecial 3, 3) := by decide +kernel
theorem dX2_init_4 : decode cX2_init 4 = .ok (.aload_n 0, 1) := by decide +kernel
theorem dX2_init_5 : decode cX2_init 5 = .ok (.bipush 12, 2) := by decide +kernel
theorem dX2_init_7 : decode cX2_init 7 = .ok (.newarray .int, 2) := by decide +kernel
theorem dX2_init_9 : decode cX2_init 9 = .ok (.putfield 9, 3) := by decide +kernel
theorem dX2_init_12 : decode cX2_init 12 = .ok (.return_, 1) := by decide +kernel
theorem dX2_fewestFor_0 : decode cX2_fewestFor 0 = .ok (.iload_n 1, 1) := by decide +kernel
theorem dX2_fewestFor_1 : decode cX2_fewestFor 1 = .ok (.invokestatic 15, 3) := by decide +kernel
theorem dX2_fewestFor_4 : decode cX2_fewestFor 4 = .ok (.istore_n 2, 1) := by decide +kernel
theorem dX2_fewestFor_5 : decode cX2_fewestFor 5 = .ok (.iconst 0, 1) := by decide +kernel
theorem dX2_fewestFor_6 : decode cX2_fewestFor 6 = .ok (.istore_n 3, 1) := by decide +kernel
theorem dX2_fewestFor_7 : decode cX2_fewestFor 7 = .ok (.iload_n 3, 1) := by decide +kernel
theorem dX2_fewestFor_8 : decode cX2_fewestFor 8 = .ok (.sipush 4096, 3) := by decide +kernel
theorem dX2_fewestFor_11 : decode cX2_fewestFor 11 = .ok (.if_icmp .ge 39, 3) := by decide +kernel
theorem dX2_fewestFor_14 : decode cX2_fewestFor 14 = .ok (.iload_n 3, 1) := by decide +kernel
theorem dX2_fewestFor_15 : decode cX2_fewestFor 15 = .ok (.iload_n 1, 1) := by decide +kernel
theorem dX2_fewestFor_16 : decode cX2_fewestFor 16 = .ok (.iconst (-1), 1) := by decide +kernel
theorem dX2_fewestFor_17 : decode cX2_fewestFor 17 = .ok (.ixor, 1) := by decide +kernel
theorem dX2_fewestFor_18 : decode cX2_fewestFor 18 = .ok (.iand, 1) := by decide +kernel
theorem dX2_fewestFor_19 : decode cX2_fewestFor 19 = .ok (.ifCond .ne 25, 3) := by decide +kernel
theorem dX2_fewestFor_22 : decode cX2_fewestFor 22 = .ok (.iload_n 3, 1) := by decide +kernel
theorem dX2_fewestFor_23 : decode cX2_fewestFor 23 = .ok (.invokestatic 15, 3) := by decide +kernel
theorem dX2_fewestFor_26 : decode cX2_fewestFor 26 = .ok (.iload_n 2, 1) := by decide +kernel
theorem dX2_fewestFor_27 : decode cX2_fewestFor 27 = .ok (.if_icmp .ge 17, 3) := by decide +kernel
theorem dX2_fewestFor_44 : decode cX2_fewestFor 44 = .ok (.iinc 3 1, 3) := by decide +kernel
theorem dX2_fewestFor_47 : decode cX2_fewestFor 47 = .ok (.goto (-40), 3) := by decide +kernel
theorem dX2_fewestFor_50 : decode cX2_fewestFor 50 = .ok (.iload_n 2, 1) := by decide +kernel
theorem dX2_fewestFor_51 : decode cX2_fewestFor 51 = .ok (.ireturn, 1) := by decide +kernel
theorem dX3_init_0 : decode cX3_init 0 = .ok (.aload_n 0, 1) := by decide +kernel
theorem dX3_init_1 : decode cX3_init 1 = .ok (.invokespecial 3, 3) := by decide +kernel
theorem dX3_init_4 : decode cX3_init 4 = .ok (.aload_n 0, 1) := by decide +kernel
theorem dX3_init_5 : decode cX3_init 5 = .ok (.bipush 72, 2) := by decide +kernel
theorem dX3_init_7 : decode cX3_init 7 = .ok (.newarray .int, 2) := by decide +kernel
theorem dX3_init_9 : decode cX3_init 9 = .ok (.putfield 11, 3) := by decide +kernel
theorem dX3_init_12 : decode cX3_init 12 = .ok (.aload_n 0, 1) := by decide +kernel
theorem dX3_init_13 : decode cX3_init 13 = .ok (.bipush 12, 2) := by decide +kernel
theorem dX3_init_15 : decode cX3_init 15 = .ok (.newarray .int, 2) := by decide +kernel
theorem dX3_init_17 : decode cX3_init 17 = .ok (.putfield 15, 3) := by decide +kernel
theorem dX3_init_20 : decode cX3_init 20 = .ok (.aload_n 0, 1) := by decide +kernel
theorem dX3_init_21 : decode cX3_init 21 = .ok (.iconst (-1), 1) := by decide +kernel
theorem dX3_init_22 : decode cX3_init 22 = .ok (.putfield 18, 3) := by decide +kernel
theorem dX3_init_25 : decode cX3_init 25 = .ok (.return_, 1) := by decide +kernel
theorem dX3_findIn_0 : decode cX3_findIn 0 = .ok (.aload_n 0, 1) := by decide +kernel
theorem dX3_findIn_1 : decode cX3_findIn 1 = .ok (.getfield 18, 3) := by decide +kernel
theorem dX3_findIn_4 : decode cX3_findIn 4 = .ok (.aload_n 1, 1) := by decide +kernel
theorem dX3_findIn_5 : decode cX3_findIn 5 = .ok (.getfield 22, 3) := by decide +kernel
theorem dX3_findIn_8 : decode cX3_findIn 8 = .ok (.if_icmp .ne 4, 3) := by decide +kernel
theorem dX3_findIn_12 : decode cX3_findIn 12 = .ok (.aload_n 0, 1) := by decide +kernel
theorem dX3_findIn_13 : decode cX3_findIn 13 = .ok (.aload_n 1, 1) := by decide +kernel
theorem dX3_findIn_14 : decode cX3_findIn 14 = .ok (.getfield 22, 3) := by decide +kernel
theorem dX3_findIn_17 : decode cX3_findIn 17 = .ok (.putfield 18, 3) := by decide +kernel
theorem dX3_findIn_20 : decode cX3_findIn 20 = .ok (.aload_n 0, 1) := by decide +kernel
theorem dX3_findIn_21 : decode cX3_findIn 21 = .ok (.iconst 0, 1) := by decide +kernel
theorem dX3_findIn_22 : decode cX3_findIn 22 = .ok (.putfield 27, 3) := by decide +kernel
theorem dX3_findIn_25 : decode cX3_findIn 25 = .ok (.iconst 0, 1) := by decide +kernel
theorem dX3_findIn_26 : decode cX3_findIn 26 = .ok (.istore_n 2, 1) := by decide +kernel
theorem dX3_findIn_27 : decode cX3_findIn 27 = .ok (.iload_n 2, 1) := by decide +kernel
theorem dX3_findIn_28 : decode cX3_findIn 28 = .ok (.bipush 12, 2) := by decide +kernel
theorem dX3_findIn_30 : decode cX3_findIn 30 = .ok (.if_icmp .ge 16, 3) := by decide +kernel
theorem dX3_findIn_33 : decode cX3_findIn 33 = .ok (.aload_n 0, 1) := by decide +kernel
theorem dX3_findIn_34 : decode cX3_findIn 34 = .ok (.getfield 15, 3) := by decide +kernel
theorem dX3_findIn_37 : decode cX3_findIn 37 = .ok (.iload_n 2, 1) := by decide +kernel
theorem dX3_findIn_38 : decode cX3_findIn 38 = .ok (.iconst 0, 1) := by decide +kernel
theorem dX3_findIn_39 : decode cX3_findIn 39 = .ok (.iastore, 1) := by decide +kernel
theorem dX3_findIn_40 : decode cX3_findIn 40 = .ok (.iinc 2 1, 3) := by decide +kernel
theorem dX3_findIn_43 : decode cX3_findIn 43 = .ok (.goto (-16), 3) := by decide +kernel
theorem dX3_findIn_46 : decode cX3_findIn 46 = .ok (.iconst 0, 1) := by decide +kernel
theorem dX3_findIn_47 : decode cX3_findIn 47 = .ok (.istore_n 2, 1) := by decide +kernel
theorem dX3_findIn_48 : decode cX3_findIn 48 = .ok (.iload_n 2, 1) := by decide +kernel
theorem dX3_findIn_49 : decode cX3_findIn 49 = .ok (.bipush 12, 2) := by decide +kernel
theorem dX3_findIn_51 : decode cX3_findIn 51 = .ok (.if_icmp .ge 48, 3) := by decide +kernel
theorem dX3_findIn_54 : decode cX3_findIn 54 = .ok (.iload_n 2, 1) := by decide +kernel
theorem dX3_findIn_55 : decode cX3_findIn 55 = .ok (.iconst 1, 1) := by decide +kernel
theorem dX3_findIn_56 : decode cX3_findIn 56 = .ok (.iadd, 1) := by decide +kernel
theorem dX3_findIn_57 : decode cX3_findIn 57 = .ok (.istore_n 3, 1) := by decide +kernel
theorem dX3_findIn_58 : decode cX3_findIn 58 = .ok (.iload_n 3, 1) := by decide +kernel
theorem dX3_findIn_59 : decode cX3_findIn 59 = .ok (.bipush 12, 2) := by decide +kernel
theorem dX3_findIn_61 : decode cX3_findIn 61 = .ok (.if_icmp .ge 32, 3) := by decide +kernel
theorem dX3_findIn_64 : decode cX3_findIn 64 = .ok (.aload_n 1, 1) := by decide +kernel
theorem dX3_findIn_65 : decode cX3_findIn 65 = .ok (.iload_n 2, 1) := by decide +kernel
theorem dX3_findIn_66 : decode cX3_findIn 66 = .ok (.invokevirtual 30, 3) := by decide +kernel
theorem dX3_findIn_69 : decode cX3_findIn 69 = .ok (.ifCond .eq 18, 3) := by decide +kernel
theorem dX3_findIn_87 : decode cX3_findIn 87 = .ok (.iinc 3 1, 3) := by decide +kernel
theorem dX3_findIn_90 : decode cX3_findIn 90 = .ok (.goto (-32), 3) := by decide +kernel
theorem dX3_findIn_93 : decode cX3_findIn 93 = .ok (.iinc 2 1, 3) := by decide +kernel
theorem dX3_findIn_96 : decode cX3_findIn 96 = .ok (.goto (-48), 3) := by decide +kernel
theorem dX3_findIn_99 : decode cX3_findIn 99 = .ok (.return_, 1) := by decide +kernel
theorem dX3_isEdge_0 : decode cX3_isEdge 0 = .ok (.aload_n 0, 1) := by decide +kernel
theorem dX3_isEdge_1 : decode cX3_isEdge 1 = .ok (.getfield 15, 3) := by decide +kernel
theorem dX3_isEdge_4 : decode cX3_isEdge 4 = .ok (.iload_n 1, 1) := by decide +kernel
theorem dX3_isEdge_5 : decode cX3_isEdge 5 = .ok (.iaload, 1) := by decide +kernel
theorem dX3_isEdge_6 : decode cX3_isEdge 6 = .ok (.iload_n 2, 1) := by decide +kernel
theorem dX3_isEdge_7 : decode cX3_isEdge 7 = .ok (.invokestatic 57, 3) := by decide +kernel
theorem dX3_isEdge_10 : decode cX3_isEdge 10 = .ok (.ireturn, 1) := by decide +kernel
theorem dX4_init_0 : decode cX4_init 0 = .ok (.aload_n 0, 1) := by decide +kernel
theorem dX4_init_1 : decode cX4_init 1 = .ok (.invokespecial 3, 3) := by decide +kernel
theorem dX4_init_4 : decode cX4_init 4 = .ok (.aload_n 0, 1) := by decide +kernel
theorem dX4_init_5 : decode cX4_init 5 = .ok (.new 9, 3) := by decide +kernel
theorem dX4_init_8 : decode cX4_init 8 = .ok (.dup, 1) := by decide +kernel
theorem dX4_init_9 : decode cX4_init 9 = .ok (.invokespecial 11, 3) := by decide +kernel
theorem dX4_init_12 : decode cX4_init 12 = .ok (.putfield 12, 3) := by decide +kernel
theorem dX4_init_15 : decode cX4_init 15 = .ok (.aload_n 0, 1) := by decide +kernel
theorem dX4_init_16 : decode cX4_init 16 = .ok (.bipush 12, 2) := by decide +kernel
theorem dX4_init_18 : decode cX4_init 18 = .ok (.newarray .int, 2) := by decide +kernel
theorem dX4_init_20 : decode cX4_init 20 = .ok (.putfield 18, 3) := by decide +kernel
theorem dX4_init_23 : decode cX4_init 23 = .ok (.aload_n 0, 1) := by decide +kernel
theorem dX4_init_24 : decode cX4_init 24 = .ok (.iconst (-1), 1) := by decide +kernel
theorem dX4_init_25 : decode cX4_init 25 = .ok (.putfield 22, 3) := by decide +kernel
theorem dX4_init_28 : decode cX4_init 28 = .ok (.return_, 1) := by decide +kernel
theorem dX4_countEdges_0 : decode cX4_countEdges 0 = .ok (.iconst 0, 1) := by decide +kernel
theorem dX4_countEdges_1 : decode cX4_countEdges 1 = .ok (.istore_n 3, 1) := by decide +kernel
theorem dX4_countEdges_2 : decode cX4_countEdges 2 = .ok (.iconst 0, 1) := by decide +kernel
theorem dX4_countEdges_3 : decode cX4_countEdges 3 = .ok (.istore 4, 2) := by decide +kernel
theorem dX4_countEdges_5 : decode cX4_countEdges 5 = .ok (.iload 4, 2) := by decide +kernel
theorem dX4_countEdges_7 : decode cX4_countEdges 7 = .ok (.bipush 12, 2) := by decide +kernel
theorem dX4_countEdges_9 : decode cX4_countEdges 9 = .ok (.if_icmp .ge 62, 3) := by decide +kernel
theorem dX4_countEdges_12 : decode cX4_countEdges 12 = .ok (.iload 4, 2) := by decide +kernel
theorem dX4_countEdges_14 : decode cX4_countEdges 14 = .ok (.iconst 1, 1) := by decide +kernel
theorem dX4_countEdges_15 : decode cX4_countEdges 15 = .ok (.iadd, 1) := by decide +kernel
theorem dX4_countEdges_16 : decode cX4_countEdges 16 = .ok (.istore 5, 2) := by decide +kernel
theorem dX4_countEdges_18 : decode cX4_countEdges 18 = .ok (.iload 5, 2) := by decide +kernel
theorem dX4_countEdges_20 : decode cX4_countEdges 20 = .ok (.bipush 12, 2) := by decide +kernel
theorem dX4_countEdges_22 : decode cX4_countEdges 22 = .ok (.if_icmp .ge 43, 3) := by decide +kernel
theorem dX4_countEdges_25 : decode cX4_countEdges 25 = .ok (.aload_n 1, 1) := by decide +kernel
theorem dX4_countEdges_26 : decode cX4_countEdges 26 = .ok (.iload 4, 2) := by decide +kernel
theorem dX4_countEdges_28 : decode cX4_countEdges 28 = .ok (.invokevirtual 34, 3) := by decide +kernel
theorem dX4_countEdges_31 : decode cX4_countEdges 31 = .ok (.ifCond .eq 28, 3) := by decide +kernel
theorem dX4_countEdges_59 : decode cX4_countEdges 59 = .ok (.iinc 5 1, 3) := by decide +kernel
theorem dX4_countEdges_62 : decode cX4_countEdges 62 = .ok (.goto (-44), 3) := by decide +kernel
theorem dX4_countEdges_65 : decode cX4_countEdges 65 = .ok (.iinc 4 1, 3) := by decide +kernel
theorem dX4_countEdges_68 : decode cX4_countEdges 68 = .ok (.goto (-63), 3) := by decide +kernel
theorem dX4_countEdges_71 : decode cX4_countEdges 71 = .ok (.iload_n 3, 1) := by decide +kernel
theorem dX4_countEdges_72 : decode cX4_countEdges 72 = .ok (.ireturn, 1) := by decide +kernel
theorem dX4_growTree_0 : decode cX4_growTree 0 = .ok (.aload_n 0, 1) := by decide +kernel
theorem dX4_growTree_1 : decode cX4_growTree 1 = .ok (.getfield 22, 3) := by decide +kernel
theorem dX4_growTree_4 : decode cX4_growTree 4 = .ok (.aload_n 1, 1) := by decide +kernel
theorem dX4_growTree_5 : decode cX4_growTree 5 = .ok (.getfield 52, 3) := by decide +kernel
theorem dX4_growTree_8 : decode cX4_growTree 8 = .ok (.if_icmp .ne 4, 3) := by decide +kernel
theorem dX4_growTree_12 : decode cX4_growTree 12 = .ok (.aload_n 0, 1) := by decide +kernel
theorem dX4_growTree_13 : decode cX4_growTree 13 = .ok (.aload_n 1, 1) := by decide +kernel
theorem dX4_growTree_14 : decode cX4_growTree 14 = .ok (.getfield 52, 3) := by decide +kernel
theorem dX4_growTree_17 : decode cX4_growTree 17 = .ok (.putfield 22, 3) := by decide +kernel
theorem dX4_growTree_20 : decode cX4_growTree 20 = .ok (.aload_n 0, 1) := by decide +kernel
theorem dX4_growTree_21 : decode cX4_growTree 21 = .ok (.getfield 12, 3) := by decide +kernel
theorem dX4_growTree_24 : decode cX4_growTree 24 = .ok (.aload_n 1, 1) := by decide +kernel
theorem dX4_growTree_25 : decode cX4_growTree 25 = .ok (.invokevirtual 55, 3) := by decide +kernel
theorem dX4_growTree_28 : decode cX4_growTree 28 = .ok (.aload_n 0, 1) := by decide +kernel
theorem dX4_growTree_29 : decode cX4_growTree 29 = .ok (.iconst 0, 1) := by decide +kernel
theorem dX4_growTree_30 : decode cX4_growTree 30 = .ok (.putfield 59, 3) := by decide +kernel
theorem dX4_growTree_33 : decode cX4_growTree 33 = .ok (.iconst 0, 1) := by decide +kernel
theorem dX4_growTree_34 : decode cX4_growTree 34 = .ok (.istore_n 2, 1) := by decide +kernel
theorem dX4_growTree_35 : decode cX4_growTree 35 = .ok (.iload_n 2, 1) := by decide +kernel
theorem dX4_growTree_36 : decode cX4_growTree 36 = .ok (.bipush 12, 2) := by decide +kernel
theorem dX4_growTree_38 : decode cX4_growTree 38 = .ok (.if_icmp .ge 16, 3) := by decide +kernel
theorem dX4_growTree_41 : decode cX4_growTree 41 = .ok (.aload_n 0, 1) := by decide +kernel
theorem dX4_growTree_42 : decode cX4_growTree 42 = .ok (.getfield 18, 3) := by decide +kernel
theorem dX4_growTree_45 : decode cX4_growTree 45 = .ok (.iload_n 2, 1) := by decide +kernel
theorem dX4_growTree_46 : decode cX4_growTree 46 = .ok (.iconst 0, 1) := by decide +kernel
theorem dX4_growTree_47 : decode cX4_growTree 47 = .ok (.iastore, 1) := by decide +kernel
theorem dX4_growTree_48 : decode cX4_growTree 48 = .ok (.iinc 2 1, 3) := by decide +kernel
theorem dX4_growTree_51 : decode cX4_growTree 51 = .ok (.goto (-16), 3) := by decide +kernel
theorem dX4_growTree_54 : decode cX4_growTree 54 = .ok (.aload_n 1, 1) := by decide +kernel
theorem dX4_growTree_55 : decode cX4_growTree 55 = .ok (.invokevirtual 62, 3) := by decide +kernel
theorem dX4_growTree_58 : decode cX4_growTree 58 = .ok (.istore_n 2, 1) := by decide +kernel
theorem dX4_growTree_59 : decode cX4_growTree 59 = .ok (.iload_n 2, 1) := by decide +kernel
theorem dX4_growTree_60 : decode cX4_growTree 60 = .ok (.iconst 1, 1) := by decide +kernel
theorem dX4_growTree_61 : decode cX4_growTree 61 = .ok (.if_icmp .le 14, 3) := by decide +kernel
theorem dX4_growTree_75 : decode cX4_growTree 75 = .ok (.return_, 1) := by decide +kernel
theorem dX5_init_0 : decode cX5_init 0 = .ok (.aload_n 0, 1) := by decide +kernel
theorem dX5_init_1 : decode cX5_init 1 = .ok (.invokespecial 3, 3) := by decide +kernel
theorem dX5_init_4 : decode cX5_init 4 = .ok (.aload_n 0, 1) := by decide +kernel
theorem dX5_init_5 : decode cX5_init 5 = .ok (.bipush 12, 2) := by decide +kernel
theorem dX5_init_7 : decode cX5_init 7 = .ok (.newarray .int, 2) := by decide +kernel
theorem dX5_init_9 : decode cX5_init 9 = .ok (.putfield 9, 3) := by decide +kernel
theorem dX5_init_12 : decode cX5_init 12 = .ok (.aload_n 0, 1) := by decide +kernel
theorem dX5_init_13 : decode cX5_init 13 = .ok (.bipush 12, 2) := by decide +kernel
theorem dX5_init_15 : decode cX5_init 15 = .ok (.newarray .int, 2) := by decide +kernel
theorem dX5_init_17 : decode cX5_init 17 = .ok (.putfield 15, 3) := by decide +kernel
theorem dX5_init_20 : decode cX5_init 20 = .ok (.aload_n 0, 1) := by decide +kernel
theorem dX5_init_21 : decode cX5_init 21 = .ok (.bipush 12, 2) := by decide +kernel
theorem dX5_init_23 : decode cX5_init 23 = .ok (.newarray .int, 2) := by decide +kernel
theorem dX5_init_25 : decode cX5_init 25 = .ok (.putfield 18, 3) := by decide +kernel
theorem dX5_init_28 : decode cX5_init 28 = .ok (.aload_n 0, 1) := by decide +kernel
theorem dX5_init_29 : decode cX5_init 29 = .ok (.bipush 12, 2) := by decide +kernel
theorem dX5_init_31 : decode cX5_init 31 = .ok (.newarray .int, 2) := by decide +kernel
theorem dX5_init_33 : decode cX5_init 33 = .ok (.putfield 21, 3) := by decide +kernel
theorem dX5_init_36 : decode cX5_init 36 = .ok (.aload_n 0, 1) := by decide +kernel
theorem dX5_init_37 : decode cX5_init 37 = .ok (.bipush 12, 2) := by decide +kernel
theorem dX5_init_39 : decode cX5_init 39 = .ok (.newarray .int, 2) := by decide +kernel
theorem dX5_init_41 : decode cX5_init 41 = .ok (.putfield 24, 3) := by decide +kernel
theorem dX5_init_44 : decode cX5_init 44 = .ok (.return_, 1) := by decide +kernel
theorem dX5_has_0 : decode cX5_has 0 = .ok (.iload_n 1, 1) := by decide +kernel
theorem dX5_has_1 : decode cX5_has 1 = .ok (.ifCond .lt 24, 3) := by decide +kernel
theorem dX5_has_4 : decode cX5_has 4 = .ok (.iload_n 1, 1) := by decide +kernel
theorem dX5_has_5 : decode cX5_has 5 = .ok (.bipush 12, 2) := by decide +kernel
theorem dX5_has_7 : decode cX5_has 7 = .ok (.if_icmp .ge 18, 3) := by decide +kernel
theorem dX5_has_10 : decode cX5_has 10 = .ok (.aload_n 0, 1) := by decide +kernel
theorem dX5_has_11 : decode cX5_has 11 = .ok (.getfield 27, 3) := by decide +kernel
theorem dX5_has_14 : decode cX5_has 14 = .ok (.iload_n 1, 1) := by decide +kernel
theorem dX5_has_15 : decode cX5_has 15 = .ok (.invokestatic 31, 3) := by decide +kernel
theorem dX5_has_18 : decode cX5_has 18 = .ok (.ifCond .eq 7, 3) := by decide +kernel
theorem dX5_has_25 : decode cX5_has 25 = .ok (.iconst 0, 1) := by decide +kernel
theorem dX5_has_26 : decode cX5_has 26 = .ok (.ireturn, 1) := by decide +kernel
theorem dX5_count_0 : decode cX5_count 0 = .ok (.aload_n 0, 1) := by decide +kernel
theorem dX5_count_1 : decode cX5_count 1 = .ok (.getfield 27, 3) := by decide +kernel
theorem dX5_count_4 : decode cX5_count 4 = .ok (.invokestatic 35, 3) := by decide +kernel
theorem dX5_count_7 : decode cX5_count 7 = .ok (.ireturn, 1) := by decide +kernel
theorem dX5_numberAt_0 : decode cX5_numberAt 0 = .ok (.iconst 0, 1) := by decide +kernel
theorem dX5_numberAt_1 : decode cX5_numberAt 1 = .ok (.istore_n 3, 1) := by decide +kernel
theorem dX5_numberAt_2 : decode cX5_numberAt 2 = .ok (.iload_n 3, 1) := by decide +kernel
theorem dX5_numberAt_3 : decode cX5_numberAt 3 = .ok (.bipush 12, 2) := by decide +kernel
theorem dX5_numberAt_5 : decode cX5_numberAt 5 = .ok (.if_icmp .ge 39, 3) := by decide +kernel
theorem dX5_numberAt_8 : decode cX5_numberAt 8 = .ok (.aload_n 0, 1) := by decide +kernel
theorem dX5_numberAt_9 : decode cX5_numberAt 9 = .ok (.iload_n 3, 1) := by decide +kernel
theorem dX5_numberAt_10 : decode cX5_numberAt 10 = .ok (.invokevirtual 41, 3) := by decide +kernel
theorem dX5_numberAt_13 : decode cX5_numberAt 13 = .ok (.ifCond .eq 25, 3) := by decide +kernel
theorem dX5_numberAt_38 : decode cX5_numberAt 38 = .ok (.iinc 3 1, 3) := by decide +kernel
theorem dX5_numberAt_41 : decode cX5_numberAt 41 = .ok (.goto (-39), 3) := by decide +kernel
theorem dX5_numberAt_44 : decode cX5_numberAt 44 = .ok (.iconst (-1), 1) := by decide +kernel
theorem dX5_numberAt_45 : decode cX5_numberAt 45 = .ok (.ireturn, 1) := by decide +kernel
theorem dX5_lowestFree_0 : decode cX5_lowestFree 0 = .ok (.iconst 0, 1) := by decide +kernel
theorem dX5_lowestFree_1 : decode cX5_lowestFree 1 = .ok (.istore_n 1, 1) := by decide +kernel
theorem dX5_lowestFree_2 : decode cX5_lowestFree 2 = .ok (.iload_n 1, 1) := by decide +kernel
theorem dX5_lowestFree_3 : decode cX5_lowestFree 3 = .ok (.bipush 12, 2) := by decide +kernel
theorem dX5_lowestFree_5 : decode cX5_lowestFree 5 = .ok (.if_icmp .ge 19, 3) := by decide +kernel
theorem dX5_lowestFree_8 : decode cX5_lowestFree 8 = .ok (.aload_n 0, 1) := by decide +kernel
theorem dX5_lowestFree_9 : decode cX5_lowestFree 9 = .ok (.iload_n 1, 1) := by decide +kernel
theorem dX5_lowestFree_10 : decode cX5_lowestFree 10 = .ok (.invokevirtual 41, 3) := by decide +kernel
theorem dX5_lowestFree_13 : decode cX5_lowestFree 13 = .ok (.ifCond .ne 5, 3) := by decide +kernel
theorem dX5_lowestFree_16 : decode cX5_lowestFree 16 = .ok (.iload_n 1, 1) := by decide +kernel
theorem dX5_lowestFree_17 : decode cX5_lowestFree 17 = .ok (.ireturn, 1) := by decide +kernel
theorem dX5_put_0 : decode cX5_put 0 = .ok (.aload_n 0, 1) := by decide +kernel
theorem dX5_put_1 : decode cX5_put 1 = .ok (.dup, 1) := by decide +kernel
theorem dX5_put_2 : decode cX5_put 2 = .ok (.getfield 27, 3) := by decide +kernel
theorem dX5_put_5 : decode cX5_put 5 = .ok (.iconst 1, 1) := by decide +kernel
theorem dX5_put_6 : decode cX5_put 6 = .ok (.iload_n 1, 1) := by decide +kernel
theorem dX5_put_7 : decode cX5_put 7 = .ok (.ishl, 1) := by decide +kernel
theorem dX5_put_8 : decode cX5_put 8 = .ok (.ior, 1) := by decide +kernel
theorem dX5_put_9 : decode cX5_put 9 = .ok (.putfield 27, 3) := by decide +kernel
theorem dX5_put_12 : decode cX5_put 12 = .ok (.aload_n 0, 1) := by decide +kernel
theorem dX5_put_13 : decode cX5_put 13 = .ok (.getfield 18, 3) := by decide +kernel
theorem dX5_put_16 : decode cX5_put 16 = .ok (.iload_n 1, 1) := by decide +kernel
theorem dX5_put_17 : decode cX5_put 17 = .ok (.iconst 0, 1) := by decide +kernel
theorem dX5_put_18 : decode cX5_put 18 = .ok (.iastore, 1) := by decide +kernel
theorem dX5_put_19 : decode cX5_put 19 = .ok (.aload_n 0, 1) := by decide +kernel
theorem dX5_put_20 : decode cX5_put 20 = .ok (.getfield 21, 3) := by decide +kernel
theorem dX5_put_23 : decode cX5_put 23 = .ok (.iload_n 1, 1) := by decide +kernel
theorem dX5_put_24 : decode cX5_put 24 = .ok (.iconst 0, 1) := by decide +kernel
theorem dX5_put_25 : decode cX5_put 25 = .ok (.iastore, 1) := by decide +kernel
theorem dX5_put_26 : decode cX5_put 26 = .ok (.aload_n 0, 1) := by decide +kernel
theorem dX5_put_27 : decode cX5_put 27 = .ok (.getfield 24, 3) := by decide +kernel
theorem dX5_put_30 : decode cX5_put 30 = .ok (.iload_n 1, 1) := by decide +kernel
theorem dX5_put_31 : decode cX5_put 31 = .ok (.iconst 0, 1) := by decide +kernel
theorem dX5_put_32 : decode cX5_put 32 = .ok (.iastore, 1) := by decide +kernel
theorem dX5_put_33 : decode cX5_put 33 = .ok (.aload_n 0, 1) := by decide +kernel
theorem dX5_put_34 : decode cX5_put 34 = .ok (.iload_n 1, 1) := by decide +kernel
theorem dX5_put_35 : decode cX5_put 35 = .ok (.iload_n 2, 1) := by decide +kernel
theorem dX5_put_36 : decode cX5_put 36 = .ok (.iload_n 3, 1) := by decide +kernel
theorem dX5_put_37 : decode cX5_put 37 = .ok (.invokevirtual 45, 3) := by decide +kernel
theorem dX5_put_40 : decode cX5_put 40 = .ok (.return_, 1) := by decide +kernel
theorem dX5_setPlace_0 : decode cX5_setPlace 0 = .ok (.aload_n 0, 1) := by decide +kernel
theorem dX5_setPlace_1 : decode cX5_setPlace 1 = .ok (.getfield 9, 3) := by decide +kernel
theorem dX5_setPlace_4 : decode cX5_setPlace 4 = .ok (.iload_n 1, 1) := by decide +kernel
theorem dX5_setPlace_5 : decode cX5_setPlace 5 = .ok (.iload_n 2, 1) := by decide +kernel
theorem dX5_setPlace_6 : decode cX5_setPlace 6 = .ok (.iastore, 1) := by decide +kernel
theorem dX5_setPlace_7 : decode cX5_setPlace 7 = .ok (.aload_n 0, 1) := by decide +kernel
theorem dX5_setPlace_8 : decode cX5_setPlace 8 = .ok (.getfield 15, 3) := by decide +kernel
theorem dX5_setPlace_11 : decode cX5_setPlace 11 = .ok (.iload_n 1, 1) := by decide +kernel
theorem dX5_setPlace_12 : decode cX5_setPlace 12 = .ok (.iload_n 3, 1) := by decide +kernel
theorem dX5_setPlace_13 : decode cX5_setPlace 13 = .ok (.iastore, 1) := by decide +kernel
theorem dX5_setPlace_14 : decode cX5_setPlace 14 = .ok (.aload_n 0, 1) := by decide +kernel
theorem dX5_setPlace_15 : decode cX5_setPlace 15 = .ok (.dup, 1) := by decide +kernel
theorem dX5_setPlace_16 : decode cX5_setPlace 16 = .ok (.getfield 49, 3) := by decide +kernel
theorem dX5_setPlace_19 : decode cX5_setPlace 19 = .ok (.iconst 1, 1) := by decide +kernel
theorem dX5_setPlace_20 : decode cX5_setPlace 20 = .ok (.iadd, 1) := by decide +kernel
theorem dX5_setPlace_21 : decode cX5_setPlace 21 = .ok (.putfield 49, 3) := by decide +kernel
theorem dX5_setPlace_24 : decode cX5_setPlace 24 = .ok (.return_, 1) := by decide +kernel
theorem dX5_someTurn_0 : decode cX5_someTurn 0 = .ok (.iconst (-1), 1) := by decide +kernel
theorem dX5_someTurn_1 : decode cX5_someTurn 1 = .ok (.istore_n 1, 1) := by decide +kernel
theorem dX5_someTurn_2 : decode cX5_someTurn 2 = .ok (.iconst (-1), 1) := by decide +kernel
theorem dX5_someTurn_3 : decode cX5_someTurn 3 = .ok (.istore_n 2, 1) := by decide +kernel
theorem dX5_someTurn_4 : decode cX5_someTurn 4 = .ok (.iconst 0, 1) := by decide +kernel
theorem dX5_someTurn_5 : decode cX5_someTurn 5 = .ok (.istore_n 3, 1) := by decide +kernel
theorem dX5_someTurn_6 : decode cX5_someTurn 6 = .ok (.iload_n 3, 1) := by decide +kernel
theorem dX5_someTurn_7 : decode cX5_someTurn 7 = .ok (.bipush 12, 2) := by decide +kernel
theorem dX5_someTurn_9 : decode cX5_someTurn 9 = .ok (.if_icmp .ge 52, 3) := by decide +kernel
theorem dX5_someTurn_12 : decode cX5_someTurn 12 = .ok (.aload_n 0, 1) := by decide +kernel
theorem dX5_someTurn_13 : decode cX5_someTurn 13 = .ok (.iload_n 3, 1) := by decide +kernel
theorem dX5_someTurn_14 : decode cX5_someTurn 14 = .ok (.invokevirtual 41, 3) := by decide +kernel
theorem dX5_someTurn_17 : decode cX5_someTurn 17 = .ok (.ifCond .ne 6, 3) := by decide +kernel
theorem dX5_someTurn_20 : decode cX5_someTurn 20 = .ok (.goto 35, 3) := by decide +kernel
theorem dX5_someTurn_55 : decode cX5_someTurn 55 = .ok (.iinc 3 1, 3) := by decide +kernel
theorem dX5_someTurn_58 : decode cX5_someTurn 58 = .ok (.goto (-52), 3) := by decide +kernel
theorem dX5_someTurn_61 : decode cX5_someTurn 61 = .ok (.iconst 0, 1) := by decide +kernel
theorem dX5_someTurn_62 : decode cX5_someTurn 62 = .ok (.ireturn, 1) := by decide +kernel
theorem dX5_hasRoomAfter_0 : decode cX5_hasRoomAfter 0 = .ok (.iconst 0, 1) := by decide +kernel
theorem dX5_hasRoomAfter_1 : decode cX5_hasRoomAfter 1 = .ok (.istore_n 2, 1) := by decide +kernel
theorem dX5_hasRoomAfter_2 : decode cX5_hasRoomAfter 2 = .ok (.iload_n 2, 1) := by decide +kernel
theorem dX5_hasRoomAfter_3 : decode cX5_hasRoomAfter 3 = .ok (.bipush 12, 2) := by decide +kernel
theorem dX5_hasRoomAfter_5 : decode cX5_hasRoomAfter 5 = .ok (.if_icmp .ge 37, 3) := by decide +kernel
theorem dX5_hasRoomAfter_8 : decode cX5_hasRoomAfter 8 = .ok (.aload_n 0, 1) := by decide +kernel
theorem dX5_hasRoomAfter_9 : decode cX5_hasRoomAfter 9 = .ok (.iload_n 2, 1) := by decide +kernel
theorem dX5_hasRoomAfter_10 : decode cX5_hasRoomAfter 10 = .ok (.invokevirtual 41, 3) := by decide +kernel
theorem dX5_hasRoomAfter_13 : decode cX5_hasRoomAfter 13 = .ok (.ifCond .eq 23, 3) := by decide +kernel
theorem dX5_hasRoomAfter_36 : decode cX5_hasRoomAfter 36 = .ok (.iinc 2 1, 3) := by decide +kernel
theorem dX5_hasRoomAfter_39 : decode cX5_hasRoomAfter 39 = .ok (.goto (-37), 3) := by decide +kernel
theorem dX5_hasRoomAfter_42 : decode cX5_hasRoomAfter 42 = .ok (.iconst 1, 1) := by decide +kernel
theorem dX5_hasRoomAfter_43 : decode cX5_hasRoomAfter 43 = .ok (.ireturn, 1) := by decide +kernel
theorem dX5_goOn_0 : decode cX5_goOn 0 = .ok (.iconst 0, 1) := by decide +kernel
theorem dX5_goOn_1 : decode cX5_goOn 1 = .ok (.istore_n 2, 1) := by decide +kernel
theorem dX5_goOn_2 : decode cX5_goOn 2 = .ok (.iconst 0, 1) := by decide +kernel
theorem dX5_goOn_3 : decode cX5_goOn 3 = .ok (.istore_n 3, 1) := by decide +kernel
theorem dX5_goOn_4 : decode cX5_goOn 4 = .ok (.iload_n 3, 1) := by decide +kernel
theorem dX5_goOn_5 : decode cX5_goOn 5 = .ok (.bipush 12, 2) := by decide +kernel
theorem dX5_goOn_7 : decode cX5_goOn 7 = .ok (.if_icmp .ge 63, 3) := by decide +kernel
theorem dX5_goOn_10 : decode cX5_goOn 10 = .ok (.aload_n 0, 1) := by decide +kernel
theorem dX5_goOn_11 : decode cX5_goOn 11 = .ok (.iload_n 3, 1) := by decide +kernel
theorem dX5_goOn_12 : decode cX5_goOn 12 = .ok (.invokevirtual 41, 3) := by decide +kernel
theorem dX5_goOn_15 : decode cX5_goOn 15 = .ok (.ifCond .eq 49, 3) := by decide +kernel
theorem dX5_goOn_64 : decode cX5_goOn 64 = .ok (.iinc 3 1, 3) := by decide +kernel
theorem dX5_goOn_67 : decode cX5_goOn 67 = .ok (.goto (-63), 3) := by decide +kernel
theorem dX5_goOn_70 : decode cX5_goOn 70 = .ok (.iload_n 2, 1) := by decide +kernel
theorem dX5_goOn_71 : decode cX5_goOn 71 = .ok (.ireturn, 1) := by decide +kernel
theorem dX5_writeTo_0 : decode cX5_writeTo 0 = .ok (.iconst 0, 1) := by decide +kernel
theorem dX5_writeTo_1 : decode cX5_writeTo 1 = .ok (.istore_n 2, 1) := by decide +kernel
theorem dX5_writeTo_2 : decode cX5_writeTo 2 = .ok (.iload_n 2, 1) := by decide +kernel
theorem dX5_writeTo_3 : decode cX5_writeTo 3 = .ok (.bipush 12, 2) := by decide +kernel
theorem dX5_writeTo_5 : decode cX5_writeTo 5 = .ok (.if_icmp .ge 94, 3) := by decide +kernel
theorem dX5_writeTo_8 : decode cX5_writeTo 8 = .ok (.iload_n 2, 1) := by decide +kernel
theorem dX5_writeTo_9 : decode cX5_writeTo 9 = .ok (.bipush 6, 2) := by decide +kernel
theorem dX5_writeTo_11 : decode cX5_writeTo 11 = .ok (.imul, 1) := by decide +kernel
theorem dX5_writeTo_12 : decode cX5_writeTo 12 = .ok (.istore_n 3, 1) := by decide +kernel
theorem dX5_writeTo_13 : decode cX5_writeTo 13 = .ok (.iload_n 3, 1) := by decide +kernel
theorem dX5_writeTo_14 : decode cX5_writeTo 14 = .ok (.bipush 6, 2) := by decide +kernel
theorem dX5_writeTo_16 : decode cX5_writeTo 16 = .ok (.iadd, 1) := by decide +kernel
theorem dX5_writeTo_17 : decode cX5_writeTo 17 = .ok (.aload_n 1, 1) := by decide +kernel
theorem dX5_writeTo_18 : decode cX5_writeTo 18 = .ok (.arraylength, 1) := by decide +kernel
theorem dX5_writeTo_19 : decode cX5_writeTo 19 = .ok (.if_icmp .gt 74, 3) := by decide +kernel
theorem dX5_writeTo_22 : decode cX5_writeTo 22 = .ok (.aload_n 1, 1) := by decide +kernel
theorem dX5_writeTo_23 : decode cX5_writeTo 23 = .ok (.iload_n 3, 1) := by decide +kernel
theorem dX5_writeTo_24 : decode cX5_writeTo 24 = .ok (.aload_n 0, 1) := by decide +kernel
theorem dX5_writeTo_25 : decode cX5_writeTo 25 = .ok (.iload_n 2, 1) := by decide +kernel
theorem dX5_writeTo_26 : decode cX5_writeTo 26 = .ok (.invokevirtual 41, 3) := by decide +kernel
theorem dX5_writeTo_29 : decode cX5_writeTo 29 = .ok (.ifCond .eq 7, 3) := by decide +kernel
theorem dX5_writeTo_36 : decode cX5_writeTo 36 = .ok (.iconst 0, 1) := by decide +kernel
theorem dX5_writeTo_37 : decode cX5_writeTo 37 = .ok (.iastore, 1) := by decide +kernel
theorem dX5_writeTo_38 : decode cX5_writeTo 38 = .ok (.aload_n 1, 1) := by decide +kernel
theorem dX5_writeTo_39 : decode cX5_writeTo 39 = .ok (.iload_n 3, 1) := by decide +kernel
theorem dX5_writeTo_40 : decode cX5_writeTo 40 = .ok (.iconst 1, 1) := by decide +kernel
theorem dX5_writeTo_41 : decode cX5_writeTo 41 = .ok (.iadd, 1) := by decide +kernel
theorem dX5_writeTo_42 : decode cX5_writeTo 42 = .ok (.aload_n 0, 1) := by decide +kernel
theorem dX5_writeTo_43 : decode cX5_writeTo 43 = .ok (.getfield 9, 3) := by decide +kernel
theorem dX5_writeTo_46 : decode cX5_writeTo 46 = .ok (.iload_n 2, 1) := by decide +kernel
theorem dX5_writeTo_47 : decode cX5_writeTo 47 = .ok (.iaload, 1) := by decide +kernel
theorem dX5_writeTo_48 : decode cX5_writeTo 48 = .ok (.iastore, 1) := by decide +kernel
theorem dX5_writeTo_49 : decode cX5_writeTo 49 = .ok (.aload_n 1, 1) := by decide +kernel
theorem dX5_writeTo_50 : decode cX5_writeTo 50 = .ok (.iload_n 3, 1) := by decide +kernel
theorem dX5_writeTo_51 : decode cX5_writeTo 51 = .ok (.iconst 2, 1) := by decide +kernel
theorem dX5_writeTo_52 : decode cX5_writeTo 52 = .ok (.iadd, 1) := by decide +kernel
theorem dX5_writeTo_53 : decode cX5_writeTo 53 = .ok (.aload_n 0, 1) := by decide +kernel
theorem dX5_writeTo_54 : decode cX5_writeTo 54 = .ok (.getfield 15, 3) := by decide +kernel
theorem dX5_writeTo_57 : decode cX5_writeTo 57 = .ok (.iload_n 2, 1) := by decide +kernel
theorem dX5_writeTo_58 : decode cX5_writeTo 58 = .ok (.iaload, 1) := by decide +kernel
theorem dX5_writeTo_59 : decode cX5_writeTo 59 = .ok (.iastore, 1) := by decide +kernel
theorem dX5_writeTo_60 : decode cX5_writeTo 60 = .ok (.aload_n 1, 1) := by decide +kernel
theorem dX5_writeTo_61 : decode cX5_writeTo 61 = .ok (.iload_n 3, 1) := by decide +kernel
theorem dX5_writeTo_62 : decode cX5_writeTo 62 = .ok (.iconst 3, 1) := by decide +kernel
theorem dX5_writeTo_63 : decode cX5_writeTo 63 = .ok (.iadd, 1) := by decide +kernel
theorem dX5_writeTo_64 : decode cX5_writeTo 64 = .ok (.aload_n 0, 1) := by decide +kernel
theorem dX5_writeTo_65 : decode cX5_writeTo 65 = .ok (.getfield 18, 3) := by decide +kernel
theorem dX5_writeTo_68 : decode cX5_writeTo 68 = .ok (.iload_n 2, 1) := by decide +kernel
theorem dX5_writeTo_69 : decode cX5_writeTo 69 = .ok (.iaload, 1) := by decide +kernel
theorem dX5_writeTo_70 : decode cX5_writeTo 70 = .ok (.iastore, 1) := by decide +kernel
theorem dX5_writeTo_71 : decode cX5_writeTo 71 = .ok (.aload_n 1, 1) := by decide +kernel
theorem dX5_writeTo_72 : decode cX5_writeTo 72 = .ok (.iload_n 3, 1) := by decide +kernel
theorem dX5_writeTo_73 : decode cX5_writeTo 73 = .ok (.iconst 4, 1) := by decide +kernel
theorem dX5_writeTo_74 : decode cX5_writeTo 74 = .ok (.iadd, 1) := by decide +kernel
theorem dX5_writeTo_75 : decode cX5_writeTo 75 = .ok (.aload_n 0, 1) := by decide +kernel
theorem dX5_writeTo_76 : decode cX5_writeTo 76 = .ok (.getfield 21, 3) := by decide +kernel
theorem dX5_writeTo_79 : decode cX5_writeTo 79 = .ok (.iload_n 2, 1) := by decide +kernel
theorem dX5_writeTo_80 : decode cX5_writeTo 80 = .ok (.iaload, 1) := by decide +kernel
theorem dX5_writeTo_81 : decode cX5_writeTo 81 = .ok (.iastore, 1) := by decide +kernel
theorem dX5_writeTo_82 : decode cX5_writeTo 82 = .ok (.aload_n 1, 1) := by decide +kernel
theorem dX5_writeTo_83 : decode cX5_writeTo 83 = .ok (.iload_n 3, 1) := by decide +kernel
theorem dX5_writeTo_84 : decode cX5_writeTo 84 = .ok (.iconst 5, 1) := by decide +kernel
theorem dX5_writeTo_85 : decode cX5_writeTo 85 = .ok (.iadd, 1) := by decide +kernel
theorem dX5_writeTo_86 : decode cX5_writeTo 86 = .ok (.aload_n 0, 1) := by decide +kernel
theorem dX5_writeTo_87 : decode cX5_writeTo 87 = .ok (.getfield 24, 3) := by decide +kernel
theorem dX5_writeTo_90 : decode cX5_writeTo 90 = .ok (.iload_n 2, 1) := by decide +kernel
theorem dX5_writeTo_91 : decode cX5_writeTo 91 = .ok (.iaload, 1) := by decide +kernel
theorem dX5_writeTo_92 : decode cX5_writeTo 92 = .ok (.iastore, 1) := by decide +kernel
theorem dX5_writeTo_93 : decode cX5_writeTo 93 = .ok (.iinc 2 1, 3) := by decide +kernel
theorem dX5_writeTo_96 : decode cX5_writeTo 96 = .ok (.goto (-94), 3) := by decide +kernel
theorem dX5_writeTo_99 : decode cX5_writeTo 99 = .ok (.return_, 1) := by decide +kernel
theorem dX6_init_0 : decode cX6_init 0 = .ok (.aload_n 0, 1) := by decide +kernel
theorem dX6_init_1 : decode cX6_init 1 = .ok (.invokespecial 3, 3) := by decide +kernel
theorem dX6_init_4 : decode cX6_init 4 = .ok (.aload_n 0, 1) := by decide +kernel
theorem dX6_init_5 : decode cX6_init 5 = .ok (.bipush 20, 2) := by decide +kernel
theorem dX6_init_7 : decode cX6_init 7 = .ok (.bipush 72, 2) := by decide +kernel
theorem dX6_init_9 : decode cX6_init 9 = .ok (.multianewarray 11 2, 4) := by decide +kernel
theorem dX6_init_13 : decode cX6_init 13 = .ok (.putfield 13, 3) := by decide +kernel
theorem dX6_init_16 : decode cX6_init 16 = .ok (.return_, 1) := by decide +kernel
theorem dX6_keep_0 : decode cX6_keep 0 = .ok (.aload_n 1, 1) := by decide +kernel
theorem dX6_keep_1 : decode cX6_keep 1 = .ok (.aload_n 0, 1) := by decide +kernel
theorem dX6_keep_2 : decode cX6_keep 2 = .ok (.getfield 13, 3) := by decide +kernel
theorem dX6_keep_5 : decode cX6_keep 5 = .ok (.aload_n 0, 1) := by decide +kernel
theorem dX6_keep_6 : decode cX6_keep 6 = .ok (.getfield 16, 3) := by decide +kernel
theorem dX6_keep_9 : decode cX6_keep 9 = .ok (.aaload, 1) := by decide +kernel
theorem dX6_keep_10 : decode cX6_keep 10 = .ok (.invokevirtual 20, 3) := by decide +kernel
theorem dX6_keep_13 : decode cX6_keep 13 = .ok (.aload_n 0, 1) := by decide +kernel
theorem dX6_keep_14 : decode cX6_keep 14 = .ok (.aload_n 0, 1) := by decide +kernel
theorem dX6_keep_15 : decode cX6_keep 15 = .ok (.getfield 16, 3) := by decide +kernel
theorem dX6_keep_18 : decode cX6_keep 18 = .ok (.iconst 1, 1) := by decide +kernel
theorem dX6_keep_19 : decode cX6_keep 19 = .ok (.iadd, 1) := by decide +kernel
theorem dX6_keep_20 : decode cX6_keep 20 = .ok (.bipush 20, 2) := by decide +kernel
theorem dX6_keep_22 : decode cX6_keep 22 = .ok (.if_icmp .ge 12, 3) := by decide +kernel
theorem dX6_keep_25 : decode cX6_keep 25 = .ok (.aload_n 0, 1) := by decide +kernel
theorem dX6_keep_26 : decode cX6_keep 26 = .ok (.getfield 16, 3) := by decide +kernel
theorem dX6_keep_29 : decode cX6_keep 29 = .ok (.iconst 1, 1) := by decide +kernel
theorem dX6_keep_30 : decode cX6_keep 30 = .ok (.iadd, 1) := by decide +kernel
theorem dX6_keep_31 : decode cX6_keep 31 = .ok (.goto 4, 3) := by decide +kernel
theorem dX6_keep_35 : decode cX6_keep 35 = .ok (.putfield 16, 3) := by decide +kernel
theorem dX6_keep_38 : decode cX6_keep 38 = .ok (.aload_n 0, 1) := by decide +kernel
theorem dX6_keep_39 : decode cX6_keep 39 = .ok (.aload_n 0, 1) := by decide +kernel
theorem dX6_keep_40 : decode cX6_keep 40 = .ok (.getfield 26, 3) := by decide +kernel
theorem dX6_keep_43 : decode cX6_keep 43 = .ok (.iconst 1, 1) := by decide +kernel
theorem dX6_keep_44 : decode cX6_keep 44 = .ok (.iadd, 1) := by decide +kernel
theorem dX6_keep_45 : decode cX6_keep 45 = .ok (.bipush 20, 2) := by decide +kernel
theorem dX6_keep_47 : decode cX6_keep 47 = .ok (.invokestatic 29, 3) := by decide +kernel
theorem dX6_keep_50 : decode cX6_keep 50 = .ok (.putfield 26, 3) := by decide +kernel
theorem dX6_keep_53 : decode cX6_keep 53 = .ok (.return_, 1) := by decide +kernel
theorem dX7_init_0 : decode cX7_init 0 = .ok (.aload_n 0, 1) := by decide +kernel
theorem dX7_init_1 : decode cX7_init 1 = .ok (.invokespecial 3, 3) := by decide +kernel
theorem dX7_init_4 : decode cX7_init 4 = .ok (.aload_n 0, 1) := by decide +kernel
theorem dX7_init_5 : decode cX7_init 5 = .ok (.bipush 12, 2) := by decide +kernel
theorem dX7_init_7 : decode cX7_init 7 = .ok (.newarray .int, 2) := by decide +kernel
theorem dX7_init_9 : decode cX7_init 9 = .ok (.putfield 9, 3) := by decide +kernel
theorem dX7_init_12 : decode cX7_init 12 = .ok (.return_, 1) := by decide +kernel
theorem dX7_findIn_0 : decode cX7_findIn 0 = .ok (.aload_n 0, 1) := by decide +kernel
theorem dX7_findIn_1 : decode cX7_findIn 1 = .ok (.iconst 0, 1) := by decide +kernel
theorem dX7_findIn_2 : decode cX7_findIn 2 = .ok (.putfield 15, 3) := by decide +kernel
theorem dX7_findIn_5 : decode cX7_findIn 5 = .ok (.aload_n 1, 1) := by decide +kernel
theorem dX7_findIn_6 : decode cX7_findIn 6 = .ok (.invokestatic 19, 3) := by decide +kernel
theorem dX7_findIn_9 : decode cX7_findIn 9 = .ok (.istore_n 2, 1) := by decide +kernel
theorem dX7_findIn_10 : decode cX7_findIn 10 = .ok (.iload_n 2, 1) := by decide +kernel
theorem dX7_findIn_11 : decode cX7_findIn 11 = .ok (.istore_n 3, 1) := by decide +kernel
theorem dX7_findIn_12 : decode cX7_findIn 12 = .ok (.iconst 0, 1) := by decide +kernel
theorem dX7_findIn_13 : decode cX7_findIn 13 = .ok (.istore 4, 2) := by decide +kernel
theorem dX7_findIn_15 : decode cX7_findIn 15 = .ok (.iload 4, 2) := by decide +kernel
theorem dX7_findIn_17 : decode cX7_findIn 17 = .ok (.bipush 12, 2) := by decide +kernel
theorem dX7_findIn_19 : decode cX7_findIn 19 = .ok (.if_icmp .ge 43, 3) := by decide +kernel
theorem dX7_findIn_22 : decode cX7_findIn 22 = .ok (.iload_n 3, 1) := by decide +kernel
theorem dX7_findIn_23 : decode cX7_findIn 23 = .ok (.iconst (-1), 1) := by decide +kernel
theorem dX7_findIn_24 : decode cX7_findIn 24 = .ok (.if_icmp .eq 38, 3) := by decide +kernel
theorem dX7_findIn_62 : decode cX7_findIn 62 = .ok (.return_, 1) := by decide +kernel
theorem dX7_lowestPlaced_0 : decode cX7_lowestPlaced 0 = .ok (.iconst (-1), 1) := by decide +kernel
theorem dX7_lowestPlaced_1 : decode cX7_lowestPlaced 1 = .ok (.istore_n 1, 1) := by decide +kernel
theorem dX7_lowestPlaced_2 : decode cX7_lowestPlaced 2 = .ok (.iconst 0, 1) := by decide +kernel
theorem dX7_lowestPlaced_3 : decode cX7_lowestPlaced 3 = .ok (.istore_n 2, 1) := by decide +kernel
theorem dX7_lowestPlaced_4 : decode cX7_lowestPlaced 4 = .ok (.iload_n 2, 1) := by decide +kernel
theorem dX7_lowestPlaced_5 : decode cX7_lowestPlaced 5 = .ok (.bipush 12, 2) := by decide +kernel
theorem dX7_lowestPlaced_7 : decode cX7_lowestPlaced 7 = .ok (.if_icmp .ge 33, 3) := by decide +kernel
theorem dX7_lowestPlaced_10 : decode cX7_lowestPlaced 10 = .ok (.aload_n 0, 1) := by decide +kernel
theorem dX7_lowestPlaced_11 : decode cX7_lowestPlaced 11 = .ok (.iload_n 2, 1) := by decide +kernel
theorem dX7_lowestPlaced_12 : decode cX7_lowestPlaced 12 = .ok (.invokevirtual 27, 3) := by decide +kernel
theorem dX7_lowestPlaced_15 : decode cX7_lowestPlaced 15 = .ok (.ifCond .eq 19, 3) := by decide +kernel
theorem dX7_lowestPlaced_34 : decode cX7_lowestPlaced 34 = .ok (.iinc 2 1, 3) := by decide +kernel
theorem dX7_lowestPlaced_37 : decode cX7_lowestPlaced 37 = .ok (.goto (-33), 3) := by decide +kernel
theorem dX7_lowestPlaced_40 : decode cX7_lowestPlaced 40 = .ok (.iload_n 1, 1) := by decide +kernel
theorem dX7_lowestPlaced_41 : decode cX7_lowestPlaced 41 = .ok (.ireturn, 1) := by decide +kernel
theorem dX7_doubleArea_0 : decode cX7_doubleArea 0 = .ok (.iconst 0, 1) := by decide +kernel
theorem dX7_doubleArea_1 : decode cX7_doubleArea 1 = .ok (.istore_n 2, 1) := by decide +kernel
theorem dX7_doubleArea_2 : decode cX7_doubleArea 2 = .ok (.iconst 1, 1) := by decide +kernel
theorem dX7_doubleArea_3 : decode cX7_doubleArea 3 = .ok (.istore_n 3, 1) := by decide +kernel
theorem dX7_doubleArea_4 : decode cX7_doubleArea 4 = .ok (.iload_n 3, 1) := by decide +kernel
theorem dX7_doubleArea_5 : decode cX7_doubleArea 5 = .ok (.iconst 1, 1) := by decide +kernel
theorem dX7_doubleArea_6 : decode cX7_doubleArea 6 = .ok (.iadd, 1) := by decide +kernel
theorem dX7_doubleArea_7 : decode cX7_doubleArea 7 = .ok (.aload_n 0, 1) := by decide +kernel
theorem dX7_doubleArea_8 : decode cX7_doubleArea 8 = .ok (.getfield 15, 3) := by decide +kernel
theorem dX7_doubleArea_11 : decode cX7_doubleArea 11 = .ok (.if_icmp .ge 44, 3) := by decide +kernel
theorem dX7_doubleArea_55 : decode cX7_doubleArea 55 = .ok (.iload_n 2, 1) := by decide +kernel
theorem dX7_doubleArea_56 : decode cX7_doubleArea 56 = .ok (.ireturn, 1) := by decide +kernel
theorem dX8_init_0 : decode cX8_init 0 = .ok (.aload_n 0, 1) := by decide +kernel
theorem dX8_init_1 : decode cX8_init 1 = .ok (.invokespecial 3, 3) := by decide +kernel
theorem dX8_init_4 : decode cX8_init 4 = .ok (.aload_n 0, 1) := by decide +kernel
theorem dX8_init_5 : decode cX8_init 5 = .ok (.bipush 12, 2) := by decide +kernel
theorem dX8_init_7 : decode cX8_init 7 = .ok (.newarray .int, 2) := by decide +kernel
theorem dX8_init_9 : decode cX8_init 9 = .ok (.putfield 9, 3) := by decide +kernel
theorem dX8_init_12 : decode cX8_init 12 = .ok (.return_, 1) := by decide +kernel
theorem dX8_startWith_0 : decode cX8_startWith 0 = .ok (.iconst 0, 1) := by decide +kernel
theorem dX8_startWith_1 : decode cX8_startWith 1 = .ok (.istore_n 2, 1) := by decide +kernel
theorem dX8_startWith_2 : decode cX8_startWith 2 = .ok (.iload_n 2, 1) := by decide +kernel
theorem dX8_startWith_3 : decode cX8_startWith 3 = .ok (.bipush 12, 2) := by decide +kernel
theorem dX8_startWith_5 : decode cX8_startWith 5 = .ok (.if_icmp .ge 28, 3) := by decide +kernel
theorem dX8_startWith_8 : decode cX8_startWith 8 = .ok (.aload_n 0, 1) := by decide +kernel
theorem dX8_startWith_9 : decode cX8_startWith 9 = .ok (.getfield 9, 3) := by decide +kernel
theorem dX8_startWith_12 : decode cX8_startWith 12 = .ok (.iload_n 2, 1) := by decide +kernel
theorem dX8_startWith_13 : decode cX8_startWith 13 = .ok (.aload_n 1, 1) := by decide +kernel
theorem dX8_startWith_14 : decode cX8_startWith 14 = .ok (.iload_n 2, 1) := by decide +kernel
theorem dX8_startWith_15 : decode cX8_startWith 15 = .ok (.invokevirtual 15, 3) := by decide +kernel
theorem dX8_startWith_18 : decode cX8_startWith 18 = .ok (.ifCond .eq 7, 3) := by decide +kernel
theorem dX8_startWith_25 : decode cX8_startWith 25 = .ok (.iconst (-1), 1) := by decide +kernel
theorem dX8_startWith_26 : decode cX8_startWith 26 = .ok (.iastore, 1) := by decide +kernel
theorem dX8_startWith_27 : decode cX8_startWith 27 = .ok (.iinc 2 1, 3) := by decide +kernel
theorem dX8_startWith_30 : decode cX8_startWith 30 = .ok (.goto (-28), 3) := by decide +kernel
theorem dX8_startWith_33 : decode cX8_startWith 33 = .ok (.aload_n 0, 1) := by decide +kernel
theorem dX8_startWith_34 : decode cX8_startWith 34 = .ok (.aload_n 1, 1) := by decide +kernel
theorem dX8_startWith_35 : decode cX8_startWith 35 = .ok (.invokevirtual 21, 3) := by decide +kernel
theorem dX8_startWith_38 : decode cX8_startWith 38 = .ok (.putfield 25, 3) := by decide +kernel
theorem dX8_startWith_41 : decode cX8_startWith 41 = .ok (.return_, 1) := by decide +kernel
theorem dX9_init_0 : decode cX9_init 0 = .ok (.aload_n 0, 1) := by decide +kernel
theorem dX9_init_1 : decode cX9_init 1 = .ok (.invokespecial 3, 3) := by decide +kernel
theorem dX9_init_4 : decode cX9_init 4 = .ok (.aload_n 0, 1) := by decide +kernel
theorem dX9_init_5 : decode cX9_init 5 = .ok (.new 9, 3) := by decide +kernel
theorem dX9_init_8 : decode cX9_init 8 = .ok (.dup, 1) := by decide +kernel
theorem dX9_init_9 : decode cX9_init 9 = .ok (.invokespecial 11, 3) := by decide +kernel
theorem dX9_init_12 : decode cX9_init 12 = .ok (.putfield 12, 3) := by decide +kernel
theorem dX9_init_15 : decode cX9_init 15 = .ok (.return_, 1) := by decide +kernel
theorem dX9_cutAt_0 : decode cX9_cutAt 0 = .ok (.aload_n 0, 1) := by decide +kernel
theorem dX9_cutAt_1 : decode cX9_cutAt 1 = .ok (.getfield 12, 3) := by decide +kernel
theorem dX9_cutAt_4 : decode cX9_cutAt 4 = .ok (.aload_n 1, 1) := by decide +kernel
theorem dX9_cutAt_5 : decode cX9_cutAt 5 = .ok (.invokevirtual 18, 3) := by decide +kernel
theorem dX9_cutAt_8 : decode cX9_cutAt 8 = .ok (.aload_n 0, 1) := by decide +kernel
theorem dX9_cutAt_9 : decode cX9_cutAt 9 = .ok (.iconst 0, 1) := by decide +kernel
theorem dX9_cutAt_10 : decode cX9_cutAt 10 = .ok (.putfield 22, 3) := by decide +kernel
theorem dX9_cutAt_13 : decode cX9_cutAt 13 = .ok (.iconst 0, 1) := by decide +kernel
theorem dX9_cutAt_14 : decode cX9_cutAt 14 = .ok (.istore 4, 2) := by decide +kernel
theorem dX9_cutAt_16 : decode cX9_cutAt 16 = .ok (.iload 4, 2) := by decide +kernel
theorem dX9_cutAt_18 : decode cX9_cutAt 18 = .ok (.bipush 12, 2) := by decide +kernel
theorem dX9_cutAt_20 : decode cX9_cutAt 20 = .ok (.if_icmp .ge 74, 3) := by decide +kernel
theorem dX9_cutAt_23 : decode cX9_cutAt 23 = .ok (.iload 4, 2) := by decide +kernel
theorem dX9_cutAt_25 : decode cX9_cutAt 25 = .ok (.iconst 1, 1) := by decide +kernel
theorem dX9_cutAt_26 : decode cX9_cutAt 26 = .ok (.iadd, 1) := by decide +kernel
theorem dX9_cutAt_27 : decode cX9_cutAt 27 = .ok (.istore 5, 2) := by decide +kernel
theorem dX9_cutAt_29 : decode cX9_cutAt 29 = .ok (.iload 5, 2) := by decide +kernel
theorem dX9_cutAt_31 : decode cX9_cutAt 31 = .ok (.bipush 12, 2) := by decide +kernel
theorem dX9_cutAt_33 : decode cX9_cutAt 33 = .ok (.if_icmp .ge 55, 3) := by decide +kernel
theorem dX9_cutAt_36 : decode cX9_cutAt 36 = .ok (.aload_n 2, 1) := by decide +kernel
theorem dX9_cutAt_37 : decode cX9_cutAt 37 = .ok (.iload 4, 2) := by decide +kernel
theorem dX9_cutAt_39 : decode cX9_cutAt 39 = .ok (.iload 5, 2) := by decide +kernel
theorem dX9_cutAt_41 : decode cX9_cutAt 41 = .ok (.invokevirtual 26, 3) := by decide +kernel
theorem dX9_cutAt_44 : decode cX9_cutAt 44 = .ok (.ifCond .eq 38, 3) := by decide +kernel
theorem dX9_cutAt_82 : decode cX9_cutAt 82 = .ok (.iinc 5 1, 3) := by decide +kernel
theorem dX9_cutAt_85 : decode cX9_cutAt 85 = .ok (.goto (-56), 3) := by decide +kernel
theorem dX9_cutAt_88 : decode cX9_cutAt 88 = .ok (.iinc 4 1, 3) := by decide +kernel
theorem dX9_cutAt_91 : decode cX9_cutAt 91 = .ok (.goto (-75), 3) := by decide +kernel
theorem dX9_cutAt_94 : decode cX9_cutAt 94 = .ok (.aload_n 0, 1) := by decide +kernel
theorem dX9_cutAt_95 : decode cX9_cutAt 95 = .ok (.iconst 0, 1) := by decide +kernel
theorem dX9_cutAt_96 : decode cX9_cutAt 96 = .ok (.putfield 42, 3) := by decide +kernel
theorem dX9_cutAt_99 : decode cX9_cutAt 99 = .ok (.iconst 0, 1) := by decide +kernel
theorem dX9_cutAt_100 : decode cX9_cutAt 100 = .ok (.istore 4, 2) := by decide +kernel
theorem dX9_cutAt_102 : decode cX9_cutAt 102 = .ok (.iload 4, 2) := by decide +kernel
theorem dX9_cutAt_104 : decode cX9_cutAt 104 = .ok (.aload_n 2, 1) := by decide +kernel
theorem dX9_cutAt_105 : decode cX9_cutAt 105 = .ok (.getfield 45, 3) := by decide +kernel
theorem dX9_cutAt_108 : decode cX9_cutAt 108 = .ok (.if_icmp .ge 30, 3) := by decide +kernel
theorem dX9_cutAt_138 : decode cX9_cutAt 138 = .ok (.return_, 1) := by decide +kernel
theorem dX10_init_0 : decode cX10_init 0 = .ok (.aload_n 0, 1) := by decide +kernel
theorem dX10_init_1 : decode cX10_init 1 = .ok (.invokespecial 3, 3) := by decide +kernel
theorem dX10_init_4 : decode cX10_init 4 = .ok (.aload_n 0, 1) := by decide +kernel
theorem dX10_init_5 : decode cX10_init 5 = .ok (.bipush 10, 2) := by decide +kernel
theorem dX10_init_7 : decode cX10_init 7 = .ok (.newarray .int, 2) := by decide +kernel
theorem dX10_init_9 : decode cX10_init 9 = .ok (.putfield 9, 3) := by decide +kernel
theorem dX10_init_12 : decode cX10_init 12 = .ok (.aload_n 0, 1) := by decide +kernel
theorem dX10_init_13 : decode cX10_init 13 = .ok (.bipush 10, 2) := by decide +kernel
theorem dX10_init_15 : decode cX10_init 15 = .ok (.newarray .int, 2) := by decide +kernel
theorem dX10_init_17 : decode cX10_init 17 = .ok (.putfield 15, 3) := by decide +kernel
theorem dX10_init_20 : decode cX10_init 20 = .ok (.aload_n 0, 1) := by decide +kernel
theorem dX10_init_21 : decode cX10_init 21 = .ok (.bipush 10, 2) := by decide +kernel
theorem dX10_init_23 : decode cX10_init 23 = .ok (.newarray .int, 2) := by decide +kernel
theorem dX10_init_25 : decode cX10_init 25 = .ok (.putfield 18, 3) := by decide +kernel
theorem dX10_init_28 : decode cX10_init 28 = .ok (.aload_n 0, 1) := by decide +kernel
theorem dX10_init_29 : decode cX10_init 29 = .ok (.bipush 10, 2) := by decide +kernel
theorem dX10_init_31 : decode cX10_init 31 = .ok (.newarray .int, 2) := by decide +kernel
theorem dX10_init_33 : decode cX10_init 33 = .ok (.putfield 21, 3) := by decide +kernel
theorem dX10_init_36 : decode cX10_init 36 = .ok (.return_, 1) := by decide +kernel
theorem dX10_append_0 : decode cX10_append 0 = .ok (.aload_n 0, 1) := by decide +kernel
theorem dX10_append_1 : decode cX10_append 1 = .ok (.getfield 24, 3) := by decide +kernel
theorem dX10_append_4 : decode cX10_append 4 = .ok (.ifCond .lt 12, 3) := by decide +kernel
theorem dX10_append_7 : decode cX10_append 7 = .ok (.aload_n 0, 1) := by decide +kernel
theorem dX10_append_8 : decode cX10_append 8 = .ok (.getfield 24, 3) := by decide +kernel
theorem dX10_append_11 : decode cX10_append 11 = .ok (.bipush 10, 2) := by decide +kernel
theorem dX10_append_13 : decode cX10_append 13 = .ok (.if_icmp .lt 4, 3) := by decide +kernel
theorem dX10_append_17 : decode cX10_append 17 = .ok (.aload_n 0, 1) := by decide +kernel
theorem dX10_append_18 : decode cX10_append 18 = .ok (.getfield 9, 3) := by decide +kernel
theorem dX10_append_21 : decode cX10_append 21 = .ok (.aload_n 0, 1) := by decide +kernel
theorem dX10_append_22 : decode cX10_append 22 = .ok (.getfield 24, 3) := by decide +kernel
theorem dX10_append_25 : decode cX10_append 25 = .ok (.iload_n 1, 1) := by decide +kernel
theorem dX10_append_26 : decode cX10_append 26 = .ok (.iastore, 1) := by decide +kernel
theorem dX10_append_27 : decode cX10_append 27 = .ok (.aload_n 0, 1) := by decide +kernel
theorem dX10_append_28 : decode cX10_append 28 = .ok (.getfield 15, 3) := by decide +kernel
theorem dX10_append_31 : decode cX10_append 31 = .ok (.aload_n 0, 1) := by decide +kernel
theorem dX10_append_32 : decode cX10_append 32 = .ok (.getfield 24, 3) := by decide +kernel
theorem dX10_append_35 : decode cX10_append 35 = .ok (.iload_n 2, 1) := by decide +kernel
theorem dX10_append_36 : decode cX10_append 36 = .ok (.iastore, 1) := by decide +kernel
theorem dX10_append_37 : decode cX10_append 37 = .ok (.aload_n 0, 1) := by decide +kernel
theorem dX10_append_38 : decode cX10_append 38 = .ok (.getfield 18, 3) := by decide +kernel
theorem dX10_append_41 : decode cX10_append 41 = .ok (.aload_n 0, 1) := by decide +kernel
theorem dX10_append_42 : decode cX10_append 42 = .ok (.getfield 24, 3) := by decide +kernel
theorem dX10_append_45 : decode cX10_append 45 = .ok (.iload_n 3, 1) := by decide +kernel
theorem dX10_append_46 : decode cX10_append 46 = .ok (.iastore, 1) := by decide +kernel
theorem dX10_append_47 : decode cX10_append 47 = .ok (.aload_n 0, 1) := by decide +kernel
theorem dX10_append_48 : decode cX10_append 48 = .ok (.getfield 21, 3) := by decide +kernel
theorem dX10_append_51 : decode cX10_append 51 = .ok (.aload_n 0, 1) := by decide +kernel
theorem dX10_append_52 : decode cX10_append 52 = .ok (.getfield 24, 3) := by decide +kernel
theorem dX10_append_55 : decode cX10_append 55 = .ok (.iload 4, 2) := by decide +kernel
theorem dX10_append_57 : decode cX10_append 57 = .ok (.iastore, 1) := by decide +kernel
theorem dX10_append_58 : decode cX10_append 58 = .ok (.aload_n 0, 1) := by decide +kernel
theorem dX10_append_59 : decode cX10_append 59 = .ok (.dup, 1) := by decide +kernel
theorem dX10_append_60 : decode cX10_append 60 = .ok (.getfield 24, 3) := by decide +kernel
theorem dX10_append_63 : decode cX10_append 63 = .ok (.iconst 1, 1) := by decide +kernel
theorem dX10_append_64 : decode cX10_append 64 = .ok (.iadd, 1) := by decide +kernel
theorem dX10_append_65 : decode cX10_append 65 = .ok (.putfield 24, 3) := by decide +kernel
theorem dX10_append_68 : decode cX10_append 68 = .ok (.return_, 1) := by decide +kernel
theorem dX11_init_0 : decode cX11_init 0 = .ok (.aload_n 0, 1) := by decide +kernel
theorem dX11_init_1 : decode cX11_init 1 = .ok (.invokespecial 3, 3) := by decide +kernel
theorem dX11_init_4 : decode cX11_init 4 = .ok (.aload_n 0, 1) := by decide +kernel
theorem dX11_init_5 : decode cX11_init 5 = .ok (.new 9, 3) := by decide +kernel
theorem dX11_init_8 : decode cX11_init 8 = .ok (.dup, 1) := by decide +kernel
theorem dX11_init_9 : decode cX11_init 9 = .ok (.invokespecial 11, 3) := by decide +kernel
theorem dX11_init_12 : decode cX11_init 12 = .ok (.putfield 12, 3) := by decide +kernel
theorem dX11_init_15 : decode cX11_init 15 = .ok (.aload_n 0, 1) := by decide +kernel
theorem dX11_init_16 : decode cX11_init 16 = .ok (.new 16, 3) := by decide +kernel
theorem dX11_init_19 : decode cX11_init 19 = .ok (.dup, 1) := by decide +kernel
theorem dX11_init_20 : decode cX11_init 20 = .ok (.invokespecial 18, 3) := by decide +kernel
theorem dX11_init_23 : decode cX11_init 23 = .ok (.putfield 19, 3) := by decide +kernel
theorem dX11_init_26 : decode cX11_init 26 = .ok (.aload_n 0, 1) := by decide +kernel
theorem dX11_init_27 : decode cX11_init 27 = .ok (.new 23, 3) := by decide +kernel
theorem dX11_init_30 : decode cX11_init 30 = .ok (.dup, 1) := by decide +kernel
theorem dX11_init_31 : decode cX11_init 31 = .ok (.invokespecial 25, 3) := by decide +kernel
theorem dX11_init_34 : decode cX11_init 34 = .ok (.putfield 26, 3) := by decide +kernel
theorem dX11_init_37 : decode cX11_init 37 = .ok (.aload_n 0, 1) := by decide +kernel
theorem dX11_init_38 : decode cX11_init 38 = .ok (.new 30, 3) := by decide +kernel
theorem dX11_init_41 : decode cX11_init 41 = .ok (.dup, 1) := by decide +kernel
theorem dX11_init_42 : decode cX11_init 42 = .ok (.invokespecial 32, 3) := by decide +kernel
theorem dX11_init_45 : decode cX11_init 45 = .ok (.putfield 33, 3) := by decide +kernel
theorem dX11_init_48 : decode cX11_init 48 = .ok (.aload_n 0, 1) := by decide +kernel
theorem dX11_init_49 : decode cX11_init 49 = .ok (.new 37, 3) := by decide +kernel
theorem dX11_init_52 : decode cX11_init 52 = .ok (.dup, 1) := by decide +kernel
theorem dX11_init_53 : decode cX11_init 53 = .ok (.invokespecial 39, 3) := by decide +kernel
theorem dX11_init_56 : decode cX11_init 56 = .ok (.putfield 40, 3) := by decide +kernel
theorem dX11_init_59 : decode cX11_init 59 = .ok (.aload_n 0, 1) := by decide +kernel
theorem dX11_init_60 : decode cX11_init 60 = .ok (.new 44, 3) := by decide +kernel
theorem dX11_init_63 : decode cX11_init 63 = .ok (.dup, 1) := by decide +kernel
theorem dX11_init_64 : decode cX11_init 64 = .ok (.invokespecial 46, 3) := by decide +kernel
theorem dX11_init_67 : decode cX11_init 67 = .ok (.putfield 47, 3) := by decide +kernel
theorem dX11_init_70 : decode cX11_init 70 = .ok (.aload_n 0, 1) := by decide +kernel
theorem dX11_init_71 : decode cX11_init 71 = .ok (.new 51, 3) := by decide +kernel
theorem dX11_init_74 : decode cX11_init 74 = .ok (.dup, 1) := by decide +kernel
theorem dX11_init_75 : decode cX11_init 75 = .ok (.invokespecial 53, 3) := by decide +kernel
theorem dX11_init_78 : decode cX11_init 78 = .ok (.putfield 54, 3) := by decide +kernel
theorem dX11_init_81 : decode cX11_init 81 = .ok (.aload_n 0, 1) := by decide +kernel
theorem dX11_init_82 : decode cX11_init 82 = .ok (.new 58, 3) := by decide +kernel
theorem dX11_init_85 : decode cX11_init 85 = .ok (.dup, 1) := by decide +kernel
theorem dX11_init_86 : decode cX11_init 86 = .ok (.invokespecial 60, 3) := by decide +kernel
theorem dX11_init_89 : decode cX11_init 89 = .ok (.putfield 61, 3) := by decide +kernel
theorem dX11_init_92 : decode cX11_init 92 = .ok (.aload_n 0, 1) := by decide +kernel
theorem dX11_init_93 : decode cX11_init 93 = .ok (.new 65, 3) := by decide +kernel
theorem dX11_init_96 : decode cX11_init 96 = .ok (.dup, 1) := by decide +kernel
theorem dX11_init_97 : decode cX11_init 97 = .ok (.invokespecial 67, 3) := by decide +kernel
theorem dX11_init_100 : decode cX11_init 100 = .ok (.putfield 68, 3) := by decide +kernel
theorem dX11_init_103 : decode cX11_init 103 = .ok (.aload_n 0, 1) := by decide +kernel
theorem dX11_init_104 : decode cX11_init 104 = .ok (.new 72, 3) := by decide +kernel
theorem dX11_init_107 : decode cX11_init 107 = .ok (.dup, 1) := by decide +kernel
theorem dX11_init_108 : decode cX11_init 108 = .ok (.invokespecial 74, 3) := by decide +kernel
theorem dX11_init_111 : decode cX11_init 111 = .ok (.putfield 75, 3) := by decide +kernel
theorem dX11_init_114 : decode cX11_init 114 = .ok (.return_, 1) := by decide +kernel
theorem dX11_addPoint_0 : decode cX11_addPoint 0 = .ok (.iload_n 1, 1) := by decide +kernel
theorem dX11_addPoint_1 : decode cX11_addPoint 1 = .ok (.iload_n 2, 1) := by decide +kernel
theorem dX11_addPoint_2 : decode cX11_addPoint 2 = .ok (.bipush 100, 2) := by decide +kernel
theorem dX11_addPoint_4 : decode cX11_addPoint 4 = .ok (.invokestatic 79, 3) := by decide +kernel
theorem dX11_addPoint_7 : decode cX11_addPoint 7 = .ok (.aload_n 0, 1) := by decide +kernel
theorem dX11_addPoint_8 : decode cX11_addPoint 8 = .ok (.getfield 12, 3) := by decide +kernel
theorem dX11_addPoint_11 : decode cX11_addPoint 11 = .ok (.iload_n 1, 1) := by decide +kernel
theorem dX11_addPoint_12 : decode cX11_addPoint 12 = .ok (.iload_n 2, 1) := by decide +kernel
theorem dX11_addPoint_13 : decode cX11_addPoint 13 = .ok (.invokevirtual 83, 3) := by decide +kernel
theorem dX11_addPoint_16 : decode cX11_addPoint 16 = .ok (.iconst (-1), 1) := by decide +kernel
theorem dX11_addPoint_17 : decode cX11_addPoint 17 = .ok (.if_icmp .eq 13, 3) := by decide +kernel
theorem dX11_addPoint_30 : decode cX11_addPoint 30 = .ok (.aload_n 0, 1) := by decide +kernel
theorem dX11_addPoint_31 : decode cX11_addPoint 31 = .ok (.getfield 12, 3) := by decide +kernel
theorem dX11_addPoint_34 : decode cX11_addPoint 34 = .ok (.invokevirtual 94, 3) := by decide +kernel
theorem dX11_addPoint_37 : decode cX11_addPoint 37 = .ok (.istore_n 3, 1) := by decide +kernel
theorem dX11_addPoint_38 : decode cX11_addPoint 38 = .ok (.iload_n 3, 1) := by decide +kernel
theorem dX11_addPoint_39 : decode cX11_addPoint 39 = .ok (.iconst (-1), 1) := by decide +kernel
theorem dX11_addPoint_40 : decode cX11_addPoint 40 = .ok (.if_icmp .ne 13, 3) := by decide +kernel
theorem dX11_addPoint_53 : decode cX11_addPoint 53 = .ok (.aload_n 0, 1) := by decide +kernel
theorem dX11_addPoint_54 : decode cX11_addPoint 54 = .ok (.getfield 19, 3) := by decide +kernel
theorem dX11_addPoint_57 : decode cX11_addPoint 57 = .ok (.aload_n 0, 1) := by decide +kernel
theorem dX11_addPoint_58 : decode cX11_addPoint 58 = .ok (.getfield 12, 3) := by decide +kernel
theorem dX11_addPoint_61 : decode cX11_addPoint 61 = .ok (.invokevirtual 103, 3) := by decide +kernel
theorem dX11_addPoint_64 : decode cX11_addPoint 64 = .ok (.aload_n 0, 1) := by decide +kernel
theorem dX11_addPoint_65 : decode cX11_addPoint 65 = .ok (.getfield 12, 3) := by decide +kernel
theorem dX11_addPoint_68 : decode cX11_addPoint 68 = .ok (.iload_n 3, 1) := by decide +kernel
theorem dX11_addPoint_69 : decode cX11_addPoint 69 = .ok (.iload_n 1, 1) := by decide +kernel
theorem dX11_addPoint_70 : decode cX11_addPoint 70 = .ok (.iload_n 2, 1) := by decide +kernel
theorem dX11_addPoint_71 : decode cX11_addPoint 71 = .ok (.invokevirtual 107, 3) := by decide +kernel
theorem dX11_addPoint_74 : decode cX11_addPoint 74 = .ok (.iload_n 3, 1) := by decide +kernel
theorem dX11_addPoint_75 : decode cX11_addPoint 75 = .ok (.ireturn, 1) := by decide +kernel
theorem dX11_remove_0 : decode cX11_remove 0 = .ok (.aload_n 0, 1) := by decide +kernel
theorem dX11_remove_1 : decode cX11_remove 1 = .ok (.iload_n 1, 1) := by decide +kernel
theorem dX11_remove_2 : decode cX11_remove 2 = .ok (.invokevirtual 110, 3) := by decide +kernel
theorem dX11_move_0 : decode cX11_move 0 = .ok (.aload_n 0, 1) := by decide +kernel
theorem dX11_move_1 : decode cX11_move 1 = .ok (.iload_n 1, 1) := by decide +kernel
theorem dX11_move_2 : decode cX11_move 2 = .ok (.invokevirtual 110, 3) := by decide +kernel
theorem dX11_setWeight_0 : decode cX11_setWeight 0 = .ok (.aload_n 0, 1) := by decide +kernel
theorem dX11_setWeight_1 : decode cX11_setWeight 1 = .ok (.iload_n 1, 1) := by decide +kernel
theorem dX11_setWeight_2 : decode cX11_setWeight 2 = .ok (.invokevirtual 110, 3) := by decide +kernel
theorem dX11_countPoints_0 : decode cX11_countPoints 0 = .ok (.aload_n 0, 1) := by decide +kernel
theorem dX11_countPoints_1 : decode cX11_countPoints 1 = .ok (.getfield 12, 3) := by decide +kernel
theorem dX11_countPoints_4 : decode cX11_countPoints 4 = .ok (.invokevirtual 117, 3) := by decide +kernel
theorem dX11_countPoints_7 : decode cX11_countPoints 7 = .ok (.ireturn, 1) := by decide +kernel
theorem dX11_pointAt_0 : decode cX11_pointAt 0 = .ok (.aload_n 0, 1) := by decide +kernel
theorem dX11_pointAt_1 : decode cX11_pointAt 1 = .ok (.getfield 12, 3) := by decide +kernel
theorem dX11_pointAt_4 : decode cX11_pointAt 4 = .ok (.iload_n 1, 1) := by decide +kernel
theorem dX11_pointAt_5 : decode cX11_pointAt 5 = .ok (.iload_n 2, 1) := by decide +kernel
theorem dX11_pointAt_6 : decode cX11_pointAt 6 = .ok (.invokevirtual 83, 3) := by decide +kernel
theorem dX11_pointAt_9 : decode cX11_pointAt 9 = .ok (.istore_n 3, 1) := by decide +kernel
theorem dX11_pointAt_10 : decode cX11_pointAt 10 = .ok (.iload_n 3, 1) := by decide +kernel
theorem dX11_pointAt_11 : decode cX11_pointAt 11 = .ok (.iconst (-1), 1) := by decide +kernel
theorem dX11_pointAt_12 : decode cX11_pointAt 12 = .ok (.if_icmp .ne 13, 3) := by decide +kernel
theorem dX11_pointAt_15 : decode cX11_pointAt 15 = .ok (.new 136, 3) := by decide +kernel
theorem dX11_pointAt_18 : decode cX11_pointAt 18 = .ok (.dup, 1) := by decide +kernel
theorem dX11_pointAt_19 : decode cX11_pointAt 19 = .ok (.ldc 138, 2) := by decide +kernel
theorem dX11_pointAt_21 : decode cX11_pointAt 21 = .ok (.invokespecial 140, 3) := by decide +kernel
theorem dX11_pointAt_24 : decode cX11_pointAt 24 = .ok (.athrow, 1) := by decide +kernel
theorem dX11_undo_0 : decode cX11_undo 0 = .ok (.aload_n 0, 1) := by decide +kernel
theorem dX11_undo_1 : decode cX11_undo 1 = .ok (.getfield 19, 3) := by decide +kernel
theorem dX11_undo_4 : decode cX11_undo 4 = .ok (.getfield 141, 3) := by decide +kernel
theorem dX11_undo_7 : decode cX11_undo 7 = .ok (.ifCond .ne 13, 3) := by decide +kernel
theorem dX11_undo_10 : decode cX11_undo 10 = .ok (.new 136, 3) := by decide +kernel
theorem dX11_undo_13 : decode cX11_undo 13 = .ok (.dup, 1) := by decide +kernel
theorem dX11_undo_14 : decode cX11_undo 14 = .ok (.ldc 144, 2) := by decide +kernel
theorem dX11_undo_16 : decode cX11_undo 16 = .ok (.invokespecial 140, 3) := by decide +kernel
theorem dX11_undo_19 : decode cX11_undo 19 = .ok (.athrow, 1) := by decide +kernel
theorem dX11_nearest_0 : decode cX11_nearest 0 = .ok (.iload_n 1, 1) := by decide +kernel
theorem dX11_nearest_1 : decode cX11_nearest 1 = .ok (.invokestatic 149, 3) := by decide +kernel
theorem dX11_nearest_4 : decode cX11_nearest 4 = .ok (.iload_n 2, 1) := by decide +kernel
theorem dX11_nearest_5 : decode cX11_nearest 5 = .ok (.iload_n 3, 1) := by decide +kernel
theorem dX11_nearest_6 : decode cX11_nearest 6 = .ok (.sipush 999, 3) := by decide +kernel
theorem dX11_nearest_9 : decode cX11_nearest 9 = .ok (.invokestatic 79, 3) := by decide +kernel
theorem dX11_nearest_12 : decode cX11_nearest 12 = .ok (.aload_n 0, 1) := by decide +kernel
theorem dX11_nearest_13 : decode cX11_nearest 13 = .ok (.invokevirtual 153, 3) := by decide +kernel
theorem dX11_nearness_0 : decode cX11_nearness 0 = .ok (.iload_n 1, 1) := by decide +kernel
theorem dX11_nearness_1 : decode cX11_nearness 1 = .ok (.invokestatic 149, 3) := by decide +kernel
theorem dX11_nearness_4 : decode cX11_nearness 4 = .ok (.iload_n 2, 1) := by decide +kernel
theorem dX11_nearness_5 : decode cX11_nearness 5 = .ok (.iload_n 3, 1) := by decide +kernel
theorem dX11_nearness_6 : decode cX11_nearness 6 = .ok (.sipush 999, 3) := by decide +kernel
theorem dX11_nearness_9 : decode cX11_nearness 9 = .ok (.invokestatic 79, 3) := by decide +kernel
theorem dX11_nearness_12 : decode cX11_nearness 12 = .ok (.aload_n 0, 1) := by decide +kernel
theorem dX11_nearness_13 : decode cX11_nearness 13 = .ok (.invokevirtual 153, 3) := by decide +kernel
theorem dX11_farthest_0 : decode cX11_farthest 0 = .ok (.iload_n 1, 1) := by decide +kernel
theorem dX11_farthest_1 : decode cX11_farthest 1 = .ok (.invokestatic 149, 3) := by decide +kernel
theorem dX11_farthest_4 : decode cX11_farthest 4 = .ok (.iload_n 2, 1) := by decide +kernel
theorem dX11_farthest_5 : decode cX11_farthest 5 = .ok (.iload_n 3, 1) := by decide +kernel
theorem dX11_farthest_6 : decode cX11_farthest 6 = .ok (.sipush 999, 3) := by decide +kernel
theorem dX11_farthest_9 : decode cX11_farthest 9 = .ok (.invokestatic 79, 3) := by decide +kernel
theorem dX11_farthest_12 : decode cX11_farthest 12 = .ok (.aload_n 0, 1) := by decide +kernel
theorem dX11_farthest_13 : decode cX11_farthest 13 = .ok (.invokevirtual 153, 3) := by decide +kernel

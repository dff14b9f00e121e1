theorem dX0_init_0 : decode cX0_init 0 = .ok (.aload_n 0, 1) := by decide +kernel
theorem dX0_init_1 : decode cX0_init 1 = .ok (.invokespecial 3, 3) := by decide +kernel
theorem dX0_init_4 : decode cX0_init 4 = .ok (.return_, 1) := by decide +kernel
theorem dX0_choose_0 : decode cX0_choose 0 = .ok (.aload_n 0, 1) := by decide +kernel
theorem dX0_choose_1 : decode cX0_choose 1 = .ok (.iconst 0, 1) := by decide +kernel
theorem dX0_choose_2 : decode cX0_choose 2 = .ok (.putfield 9, 3) := by decide +kernel
theorem dX0_choose_5 : decode cX0_choose 5 = .ok (.aload_n 0, 1) := by decide +kernel
theorem dX0_choose_6 : decode cX0_choose 6 = .ok (.iconst 0, 1) := by decide +kernel
theorem dX0_choose_7 : decode cX0_choose 7 = .ok (.putfield 15, 3) := by decide +kernel
theorem dX0_choose_10 : decode cX0_choose 10 = .ok (.iconst 1, 1) := by decide +kernel
theorem dX0_choose_11 : decode cX0_choose 11 = .ok (.istore_n 3, 1) := by decide +kernel
theorem dX0_choose_12 : decode cX0_choose 12 = .ok (.iload_n 3, 1) := by decide +kernel
theorem dX0_choose_13 : decode cX0_choose 13 = .ok (.sipush 4096, 3) := by decide +kernel
theorem dX0_choose_16 : decode cX0_choose 16 = .ok (.if_icmp .ge 82, 3) := by decide +kernel
theorem dX0_choose_19 : decode cX0_choose 19 = .ok (.iload_n 3, 1) := by decide +kernel
theorem dX0_choose_20 : decode cX0_choose 20 = .ok (.aload_n 1, 1) := by decide +kernel
theorem dX0_choose_21 : decode cX0_choose 21 = .ok (.getfield 18, 3) := by decide +kernel
theorem dX0_choose_24 : decode cX0_choose 24 = .ok (.iconst (-1), 1) := by decide +kernel
theorem dX0_choose_25 : decode cX0_choose 25 = .ok (.ixor, 1) := by decide +kernel
theorem dX0_choose_26 : decode cX0_choose 26 = .ok (.iand, 1) := by decide +kernel
theorem dX0_choose_27 : decode cX0_choose 27 = .ok (.ifCond .ne 65, 3) := by decide +kernel
theorem dX0_choose_30 : decode cX0_choose 30 = .ok (.iload_n 3, 1) := by decide +kernel
theorem dX0_choose_31 : decode cX0_choose 31 = .ok (.invokestatic 23, 3) := by decide +kernel
theorem dX0_choose_34 : decode cX0_choose 34 = .ok (.iload_n 2, 1) := by decide +kernel
theorem dX0_choose_35 : decode cX0_choose 35 = .ok (.if_icmp .ne 57, 3) := by decide +kernel
theorem dX0_choose_38 : decode cX0_choose 38 = .ok (.aload_n 1, 1) := by decide +kernel
theorem dX0_choose_39 : decode cX0_choose 39 = .ok (.iload_n 3, 1) := by decide +kernel
theorem dX0_choose_40 : decode cX0_choose 40 = .ok (.invokestatic 29, 3) := by decide +kernel
theorem dX0_choose_43 : decode cX0_choose 43 = .ok (.istore 4, 2) := by decide +kernel
theorem dX0_choose_45 : decode cX0_choose 45 = .ok (.aload_n 0, 1) := by decide +kernel
theorem dX0_choose_46 : decode cX0_choose 46 = .ok (.getfield 9, 3) := by decide +kernel
theorem dX0_choose_49 : decode cX0_choose 49 = .ok (.ifCond .eq 32, 3) := by decide +kernel
theorem dX0_choose_52 : decode cX0_choose 52 = .ok (.iload 4, 2) := by decide +kernel
theorem dX0_choose_54 : decode cX0_choose 54 = .ok (.aload_n 0, 1) := by decide +kernel
theorem dX0_choose_55 : decode cX0_choose 55 = .ok (.getfield 15, 3) := by decide +kernel
theorem dX0_choose_58 : decode cX0_choose 58 = .ok (.if_icmp .lt 23, 3) := by decide +kernel
theorem dX0_choose_61 : decode cX0_choose 61 = .ok (.iload 4, 2) := by decide +kernel
theorem dX0_choose_63 : decode cX0_choose 63 = .ok (.aload_n 0, 1) := by decide +kernel
theorem dX0_choose_64 : decode cX0_choose 64 = .ok (.getfield 15, 3) := by decide +kernel
theorem dX0_choose_67 : decode cX0_choose 67 = .ok (.if_icmp .ne 25, 3) := by decide +kernel
theorem dX0_choose_70 : decode cX0_choose 70 = .ok (.iload_n 3, 1) := by decide +kernel
theorem dX0_choose_71 : decode cX0_choose 71 = .ok (.aload_n 0, 1) := by decide +kernel
theorem dX0_choose_72 : decode cX0_choose 72 = .ok (.getfield 9, 3) := by decide +kernel
theorem dX0_choose_75 : decode cX0_choose 75 = .ok (.invokestatic 33, 3) := by decide +kernel
theorem dX0_choose_78 : decode cX0_choose 78 = .ok (.ifCond .eq 14, 3) := by decide +kernel
theorem dX0_choose_81 : decode cX0_choose 81 = .ok (.aload_n 0, 1) := by decide +kernel
theorem dX0_choose_82 : decode cX0_choose 82 = .ok (.iload_n 3, 1) := by decide +kernel
theorem dX0_choose_83 : decode cX0_choose 83 = .ok (.putfield 9, 3) := by decide +kernel
theorem dX0_choose_86 : decode cX0_choose 86 = .ok (.aload_n 0, 1) := by decide +kernel
theorem dX0_choose_87 : decode cX0_choose 87 = .ok (.iload 4, 2) := by decide +kernel
theorem dX0_choose_89 : decode cX0_choose 89 = .ok (.putfield 15, 3) := by decide +kernel
theorem dX0_choose_92 : decode cX0_choose 92 = .ok (.iinc 3 1, 3) := by decide +kernel
theorem dX0_choose_95 : decode cX0_choose 95 = .ok (.goto (-83), 3) := by decide +kernel
theorem dX0_choose_98 : decode cX0_choose 98 = .ok (.return_, 1) := by decide +kernel
theorem dX0_farthestFrom_0 : decode cX0_farthestFrom 0 = .ok (.iconst 0, 1) := by decide +kernel
theorem dX0_farthestFrom_1 : decode cX0_farthestFrom 1 = .ok (.istore_n 2, 1) := by decide +kernel
theorem dX0_farthestFrom_2 : decode cX0_farthestFrom 2 = .ok (.iconst 0, 1) := by decide +kernel
theorem dX0_farthestFrom_3 : decode cX0_farthestFrom 3 = .ok (.istore_n 3, 1) := by decide +kernel
theorem dX0_farthestFrom_4 : decode cX0_farthestFrom 4 = .ok (.iload_n 3, 1) := by decide +kernel
theorem dX0_farthestFrom_5 : decode cX0_farthestFrom 5 = .ok (.bipush 12, 2) := by decide +kernel
theorem dX0_farthestFrom_7 : decode cX0_farthestFrom 7 = .ok (.if_icmp .ge 28, 3) := by decide +kernel
theorem dX0_farthestFrom_10 : decode cX0_farthestFrom 10 = .ok (.aload_n 0, 1) := by decide +kernel
theorem dX0_farthestFrom_11 : decode cX0_farthestFrom 11 = .ok (.iload_n 3, 1) := by decide +kernel
theorem dX0_farthestFrom_12 : decode cX0_farthestFrom 12 = .ok (.invokevirtual 37, 3) := by decide +kernel
theorem dX0_farthestFrom_15 : decode cX0_farthestFrom 15 = .ok (.ifCond .eq 14, 3) := by decide +kernel
theorem dX0_farthestFrom_18 : decode cX0_farthestFrom 18 = .ok (.iload_n 2, 1) := by decide +kernel
theorem dX0_farthestFrom_19 : decode cX0_farthestFrom 19 = .ok (.aload_n 0, 1) := by decide +kernel
theorem dX0_farthestFrom_20 : decode cX0_farthestFrom 20 = .ok (.iload_n 1, 1) := by decide +kernel
theorem dX0_farthestFrom_21 : decode cX0_farthestFrom 21 = .ok (.iload_n 3, 1) := by decide +kernel
theorem dX0_farthestFrom_22 : decode cX0_farthestFrom 22 = .ok (.invokestatic 41, 3) := by decide +kernel
theorem dX0_farthestFrom_25 : decode cX0_farthestFrom 25 = .ok (.invokestatic 45, 3) := by decide +kernel
theorem dX0_farthestFrom_28 : decode cX0_farthestFrom 28 = .ok (.istore_n 2, 1) := by decide +kernel
theorem dX0_farthestFrom_29 : decode cX0_farthestFrom 29 = .ok (.iinc 3 1, 3) := by decide +kernel
theorem dX0_farthestFrom_32 : decode cX0_farthestFrom 32 = .ok (.goto (-28), 3) := by decide +kernel
theorem dX0_farthestFrom_35 : decode cX0_farthestFrom 35 = .ok (.iload_n 2, 1) := by decide +kernel
theorem dX0_farthestFrom_36 : decode cX0_farthestFrom 36 = .ok (.ireturn, 1) := by decide +kernel
theorem dX0_nearestOf_0 : decode cX0_nearestOf 0 = .ok (.ldc 51, 2) := by decide +kernel
theorem dX0_nearestOf_2 : decode cX0_nearestOf 2 = .ok (.istore_n 3, 1) := by decide +kernel
theorem dX0_nearestOf_3 : decode cX0_nearestOf 3 = .ok (.iconst 0, 1) := by decide +kernel
theorem dX0_nearestOf_4 : decode cX0_nearestOf 4 = .ok (.istore 4, 2) := by decide +kernel
theorem dX0_nearestOf_6 : decode cX0_nearestOf 6 = .ok (.iload 4, 2) := by decide +kernel
theorem dX0_nearestOf_8 : decode cX0_nearestOf 8 = .ok (.bipush 12, 2) := by decide +kernel
theorem dX0_nearestOf_10 : decode cX0_nearestOf 10 = .ok (.if_icmp .ge 30, 3) := by decide +kernel
theorem dX0_nearestOf_13 : decode cX0_nearestOf 13 = .ok (.iload_n 1, 1) := by decide +kernel
theorem dX0_nearestOf_14 : decode cX0_nearestOf 14 = .ok (.iload 4, 2) := by decide +kernel
theorem dX0_nearestOf_16 : decode cX0_nearestOf 16 = .ok (.invokestatic 52, 3) := by decide +kernel
theorem dX0_nearestOf_19 : decode cX0_nearestOf 19 = .ok (.ifCond .eq 15, 3) := by decide +kernel
theorem dX0_nearestOf_22 : decode cX0_nearestOf 22 = .ok (.iload_n 3, 1) := by decide +kernel
theorem dX0_nearestOf_23 : decode cX0_nearestOf 23 = .ok (.aload_n 0, 1) := by decide +kernel
theorem dX0_nearestOf_24 : decode cX0_nearestOf 24 = .ok (.iload_n 2, 1) := by decide +kernel
theorem dX0_nearestOf_25 : decode cX0_nearestOf 25 = .ok (.iload 4, 2) := by decide +kernel
theorem dX0_nearestOf_27 : decode cX0_nearestOf 27 = .ok (.invokevirtual 55, 3) := by decide +kernel
theorem dX0_nearestOf_30 : decode cX0_nearestOf 30 = .ok (.invokestatic 57, 3) := by decide +kernel
theorem dX0_nearestOf_33 : decode cX0_nearestOf 33 = .ok (.istore_n 3, 1) := by decide +kernel
theorem dX0_nearestOf_34 : decode cX0_nearestOf 34 = .ok (.iinc 4 1, 3) := by decide +kernel
theorem dX0_nearestOf_37 : decode cX0_nearestOf 37 = .ok (.goto (-31), 3) := by decide +kernel
theorem dX0_nearestOf_40 : decode cX0_nearestOf 40 = .ok (.iload_n 3, 1) := by decide +kernel
theorem dX0_nearestOf_41 : decode cX0_nearestOf 41 = .ok (.ireturn, 1) := by decide +kernel
theorem dX0_goesFirst_0 : decode cX0_goesFirst 0 = .ok (.iload_n 0, 1) := by decide +kernel
theorem dX0_goesFirst_1 : decode cX0_goesFirst 1 = .ok (.iload_n 1, 1) := by decide +kernel
theorem dX0_goesFirst_2 : decode cX0_goesFirst 2 = .ok (.ixor, 1) := by decide +kernel
theorem dX0_goesFirst_3 : decode cX0_goesFirst 3 = .ok (.istore_n 2, 1) := by decide +kernel
theorem dX0_goesFirst_4 : decode cX0_goesFirst 4 = .ok (.iload_n 2, 1) := by decide +kernel
theorem dX0_goesFirst_5 : decode cX0_goesFirst 5 = .ok (.iload_n 2, 1) := by decide +kernel
theorem dX0_goesFirst_6 : decode cX0_goesFirst 6 = .ok (.ineg, 1) := by decide +kernel
theorem dX0_goesFirst_7 : decode cX0_goesFirst 7 = .ok (.iand, 1) := by decide +kernel
theorem dX0_goesFirst_8 : decode cX0_goesFirst 8 = .ok (.istore_n 3, 1) := by decide +kernel
theorem dX0_goesFirst_9 : decode cX0_goesFirst 9 = .ok (.iload_n 0, 1) := by decide +kernel
theorem dX0_goesFirst_10 : decode cX0_goesFirst 10 = .ok (.iload_n 3, 1) := by decide +kernel
theorem dX0_goesFirst_11 : decode cX0_goesFirst 11 = .ok (.iand, 1) := by decide +kernel
theorem dX0_goesFirst_12 : decode cX0_goesFirst 12 = .ok (.ifCond .eq 7, 3) := by decide +kernel
theorem dX0_goesFirst_15 : decode cX0_goesFirst 15 = .ok (.iconst 1, 1) := by decide +kernel
theorem dX0_goesFirst_16 : decode cX0_goesFirst 16 = .ok (.goto 4, 3) := by decide +kernel
theorem dX0_goesFirst_19 : decode cX0_goesFirst 19 = .ok (.iconst 0, 1) := by decide +kernel
theorem dX0_goesFirst_20 : decode cX0_goesFirst 20 = .ok (.ireturn, 1) := by decide +kernel
theorem dX0_chosenAt_0 : decode cX0_chosenAt 0 = .ok (.iconst 0, 1) := by decide +kernel
theorem dX0_chosenAt_1 : decode cX0_chosenAt 1 = .ok (.istore_n 2, 1) := by decide +kernel
theorem dX0_chosenAt_2 : decode cX0_chosenAt 2 = .ok (.iconst 0, 1) := by decide +kernel
theorem dX0_chosenAt_3 : decode cX0_chosenAt 3 = .ok (.istore_n 3, 1) := by decide +kernel
theorem dX0_chosenAt_4 : decode cX0_chosenAt 4 = .ok (.iload_n 3, 1) := by decide +kernel
theorem dX0_chosenAt_5 : decode cX0_chosenAt 5 = .ok (.bipush 12, 2) := by decide +kernel
theorem dX0_chosenAt_7 : decode cX0_chosenAt 7 = .ok (.if_icmp .ge 30, 3) := by decide +kernel
theorem dX0_chosenAt_10 : decode cX0_chosenAt 10 = .ok (.aload_n 0, 1) := by decide +kernel
theorem dX0_chosenAt_11 : decode cX0_chosenAt 11 = .ok (.getfield 9, 3) := by decide +kernel
theorem dX0_chosenAt_14 : decode cX0_chosenAt 14 = .ok (.iload_n 3, 1) := by decide +kernel
theorem dX0_chosenAt_15 : decode cX0_chosenAt 15 = .ok (.invokestatic 52, 3) := by decide +kernel
theorem dX0_chosenAt_18 : decode cX0_chosenAt 18 = .ok (.ifCond .eq 13, 3) := by decide +kernel
theorem dX0_chosenAt_21 : decode cX0_chosenAt 21 = .ok (.iload_n 2, 1) := by decide +kernel
theorem dX0_chosenAt_22 : decode cX0_chosenAt 22 = .ok (.iload_n 1, 1) := by decide +kernel
theorem dX0_chosenAt_23 : decode cX0_chosenAt 23 = .ok (.if_icmp .ne 5, 3) := by decide +kernel
theorem dX0_chosenAt_26 : decode cX0_chosenAt 26 = .ok (.iload_n 3, 1) := by decide +kernel
theorem dX0_chosenAt_27 : decode cX0_chosenAt 27 = .ok (.ireturn, 1) := by decide +kernel
theorem dX0_chosenAt_28 : decode cX0_chosenAt 28 = .ok (.iinc 2 1, 3) := by decide +kernel
theorem dX0_chosenAt_31 : decode cX0_chosenAt 31 = .ok (.iinc 3 1, 3) := by decide +kernel
theorem dX0_chosenAt_34 : decode cX0_chosenAt 34 = .ok (.goto (-30), 3) := by decide +kernel
theorem dX0_chosenAt_37 : decode cX0_chosenAt 37 = .ok (.iconst (-1), 1) := by decide +kernel
theorem dX0_chosenAt_38 : decode cX0_chosenAt 38 = .ok (.ireturn, 1) := by decide +kernel
theorem dX1_init_0 : decode cX1_init 0 = .ok (.aload_n 0, 1) := by decide +kernel
theorem dX1_init_1 : decode cX1_init 1 = .ok (.invokespecial 3, 3) := by decide +kernel
theorem dX1_init_4 : decode cX1_init 4 = .ok (.aload_n 0, 1) := by decide +kernel
theorem dX1_init_5 : decode cX1_init 5 = .ok (.new 9, 3) := by decide +kernel
theorem dX1_init_8 : decode cX1_init 8 = .ok (.dup, 1) := by decide +kernel
theorem dX1_init_9 : decode cX1_init 9 = .ok (.invokespecial 11, 3) := by decide +kernel
theorem dX1_init_12 : decode cX1_init 12 = .ok (.putfield 12, 3) := by decide +kernel
theorem dX1_init_15 : decode cX1_init 15 = .ok (.aload_n 0, 1) := by decide +kernel
theorem dX1_init_16 : decode cX1_init 16 = .ok (.bipush 12, 2) := by decide +kernel
theorem dX1_init_18 : decode cX1_init 18 = .ok (.bipush 12, 2) := by decide +kernel
theorem dX1_init_20 : decode cX1_init 20 = .ok (.multianewarray 18 2, 4) := by decide +kernel
theorem dX1_init_24 : decode cX1_init 24 = .ok (.putfield 20, 3) := by decide +kernel
theorem dX1_init_27 : decode cX1_init 27 = .ok (.return_, 1) := by decide +kernel
theorem dX1_cutTo_0 : decode cX1_cutTo 0 = .ok (.aload_n 0, 1) := by decide +kernel
theorem dX1_cutTo_1 : decode cX1_cutTo 1 = .ok (.getfield 12, 3) := by decide +kernel
theorem dX1_cutTo_4 : decode cX1_cutTo 4 = .ok (.aload_n 1, 1) := by decide +kernel
theorem dX1_cutTo_5 : decode cX1_cutTo 5 = .ok (.invokevirtual 23, 3) := by decide +kernel
theorem dX1_cutTo_8 : decode cX1_cutTo 8 = .ok (.aload_n 0, 1) := by decide +kernel
theorem dX1_cutTo_9 : decode cX1_cutTo 9 = .ok (.iconst 0, 1) := by decide +kernel
theorem dX1_cutTo_10 : decode cX1_cutTo 10 = .ok (.putfield 27, 3) := by decide +kernel
theorem dX1_cutTo_13 : decode cX1_cutTo 13 = .ok (.iconst 0, 1) := by decide +kernel
theorem dX1_cutTo_14 : decode cX1_cutTo 14 = .ok (.istore 4, 2) := by decide +kernel
theorem dX1_cutTo_16 : decode cX1_cutTo 16 = .ok (.iload 4, 2) := by decide +kernel
theorem dX1_cutTo_18 : decode cX1_cutTo 18 = .ok (.bipush 12, 2) := by decide +kernel
theorem dX1_cutTo_20 : decode cX1_cutTo 20 = .ok (.if_icmp .ge 65, 3) := by decide +kernel
theorem dX1_cutTo_23 : decode cX1_cutTo 23 = .ok (.iconst 0, 1) := by decide +kernel
theorem dX1_cutTo_24 : decode cX1_cutTo 24 = .ok (.istore 5, 2) := by decide +kernel
theorem dX1_cutTo_26 : decode cX1_cutTo 26 = .ok (.iload 5, 2) := by decide +kernel
theorem dX1_cutTo_28 : decode cX1_cutTo 28 = .ok (.bipush 12, 2) := by decide +kernel
theorem dX1_cutTo_30 : decode cX1_cutTo 30 = .ok (.if_icmp .ge 49, 3) := by decide +kernel
theorem dX1_cutTo_33 : decode cX1_cutTo 33 = .ok (.aload_n 0, 1) := by decide +kernel
theorem dX1_cutTo_34 : decode cX1_cutTo 34 = .ok (.getfield 20, 3) := by decide +kernel
theorem dX1_cutTo_37 : decode cX1_cutTo 37 = .ok (.iload 4, 2) := by decide +kernel
theorem dX1_cutTo_39 : decode cX1_cutTo 39 = .ok (.aaload, 1) := by decide +kernel
theorem dX1_cutTo_40 : decode cX1_cutTo 40 = .ok (.iload 5, 2) := by decide +kernel
theorem dX1_cutTo_42 : decode cX1_cutTo 42 = .ok (.aload_n 1, 1) := by decide +kernel
theorem dX1_cutTo_43 : decode cX1_cutTo 43 = .ok (.iload 4, 2) := by decide +kernel
theorem dX1_cutTo_45 : decode cX1_cutTo 45 = .ok (.invokevirtual 31, 3) := by decide +kernel
theorem dX1_cutTo_48 : decode cX1_cutTo 48 = .ok (.ifCond .eq 23, 3) := by decide +kernel
theorem dX1_cutTo_51 : decode cX1_cutTo 51 = .ok (.aload_n 1, 1) := by decide +kernel
theorem dX1_cutTo_52 : decode cX1_cutTo 52 = .ok (.iload 5, 2) := by decide +kernel
theorem dX1_cutTo_54 : decode cX1_cutTo 54 = .ok (.invokevirtual 31, 3) := by decide +kernel
theorem dX1_cutTo_57 : decode cX1_cutTo 57 = .ok (.ifCond .eq 14, 3) := by decide +kernel
theorem dX1_cutTo_60 : decode cX1_cutTo 60 = .ok (.aload_n 1, 1) := by decide +kernel
theorem dX1_cutTo_61 : decode cX1_cutTo 61 = .ok (.iload 4, 2) := by decide +kernel
theorem dX1_cutTo_63 : decode cX1_cutTo 63 = .ok (.iload 5, 2) := by decide +kernel
theorem dX1_cutTo_65 : decode cX1_cutTo 65 = .ok (.invokevirtual 37, 3) := by decide +kernel
theorem dX1_cutTo_68 : decode cX1_cutTo 68 = .ok (.goto 4, 3) := by decide +kernel
theorem dX1_cutTo_71 : decode cX1_cutTo 71 = .ok (.iconst 0, 1) := by decide +kernel
theorem dX1_cutTo_72 : decode cX1_cutTo 72 = .ok (.iastore, 1) := by decide +kernel
theorem dX1_cutTo_73 : decode cX1_cutTo 73 = .ok (.iinc 5 1, 3) := by decide +kernel
theorem dX1_cutTo_76 : decode cX1_cutTo 76 = .ok (.goto (-50), 3) := by decide +kernel
theorem dX1_cutTo_79 : decode cX1_cutTo 79 = .ok (.iinc 4 1, 3) := by decide +kernel
theorem dX1_cutTo_82 : decode cX1_cutTo 82 = .ok (.goto (-66), 3) := by decide +kernel
theorem dX1_cutTo_85 : decode cX1_cutTo 85 = .ok (.aload_n 1, 1) := by decide +kernel
theorem dX1_cutTo_86 : decode cX1_cutTo 86 = .ok (.invokevirtual 41, 3) := by decide +kernel
theorem dX1_cutTo_89 : decode cX1_cutTo 89 = .ok (.istore 4, 2) := by decide +kernel
theorem dX1_cutTo_91 : decode cX1_cutTo 91 = .ok (.iload 4, 2) := by decide +kernel
theorem dX1_cutTo_93 : decode cX1_cutTo 93 = .ok (.iload_n 3, 1) := by decide +kernel
theorem dX1_cutTo_94 : decode cX1_cutTo 94 = .ok (.if_icmp .le 14, 3) := by decide +kernel
theorem dX1_cutTo_97 : decode cX1_cutTo 97 = .ok (.aload_n 0, 1) := by decide +kernel
theorem dX1_cutTo_98 : decode cX1_cutTo 98 = .ok (.iload_n 2, 1) := by decide +kernel
theorem dX1_cutTo_99 : decode cX1_cutTo 99 = .ok (.invokevirtual 45, 3) := by decide +kernel
theorem dX1_cutTo_102 : decode cX1_cutTo 102 = .ok (.iinc 4 (-1), 3) := by decide +kernel
theorem dX1_cutTo_105 : decode cX1_cutTo 105 = .ok (.goto (-14), 3) := by decide +kernel
theorem dX1_cutTo_108 : decode cX1_cutTo 108 = .ok (.return_, 1) := by decide +kernel
theorem dX1_joinNearest_0 : decode cX1_joinNearest 0 = .ok (.iconst (-1), 1) := by decide +kernel
theorem dX1_joinNearest_1 : decode cX1_joinNearest 1 = .ok (.istore_n 2, 1) := by decide +kernel
theorem dX1_joinNearest_2 : decode cX1_joinNearest 2 = .ok (.iconst (-1), 1) := by decide +kernel
theorem dX1_joinNearest_3 : decode cX1_joinNearest 3 = .ok (.istore_n 3, 1) := by decide +kernel
theorem dX1_joinNearest_4 : decode cX1_joinNearest 4 = .ok (.iconst 0, 1) := by decide +kernel
theorem dX1_joinNearest_5 : decode cX1_joinNearest 5 = .ok (.istore 4, 2) := by decide +kernel
theorem dX1_joinNearest_7 : decode cX1_joinNearest 7 = .ok (.iload 4, 2) := by decide +kernel
theorem dX1_joinNearest_9 : decode cX1_joinNearest 9 = .ok (.bipush 12, 2) := by decide +kernel
theorem dX1_joinNearest_11 : decode cX1_joinNearest 11 = .ok (.if_icmp .ge 94, 3) := by decide +kernel
theorem dX1_joinNearest_14 : decode cX1_joinNearest 14 = .ok (.iload 4, 2) := by decide +kernel
theorem dX1_joinNearest_16 : decode cX1_joinNearest 16 = .ok (.iconst 1, 1) := by decide +kernel
theorem dX1_joinNearest_17 : decode cX1_joinNearest 17 = .ok (.iadd, 1) := by decide +kernel
theorem dX1_joinNearest_18 : decode cX1_joinNearest 18 = .ok (.istore 5, 2) := by decide +kernel
theorem dX1_joinNearest_20 : decode cX1_joinNearest 20 = .ok (.iload 5, 2) := by decide +kernel
theorem dX1_joinNearest_22 : decode cX1_joinNearest 22 = .ok (.bipush 12, 2) := by decide +kernel
theorem dX1_joinNearest_24 : decode cX1_joinNearest 24 = .ok (.if_icmp .ge 75, 3) := by decide +kernel
theorem dX1_joinNearest_27 : decode cX1_joinNearest 27 = .ok (.aload_n 0, 1) := by decide +kernel
theorem dX1_joinNearest_28 : decode cX1_joinNearest 28 = .ok (.getfield 12, 3) := by decide +kernel
theorem dX1_joinNearest_31 : decode cX1_joinNearest 31 = .ok (.iload 4, 2) := by decide +kernel
theorem dX1_joinNearest_33 : decode cX1_joinNearest 33 = .ok (.invokevirtual 49, 3) := by decide +kernel
theorem dX1_joinNearest_36 : decode cX1_joinNearest 36 = .ok (.ifCond .eq 57, 3) := by decide +kernel
theorem dX1_joinNearest_39 : decode cX1_joinNearest 39 = .ok (.aload_n 0, 1) := by decide +kernel
theorem dX1_joinNearest_40 : decode cX1_joinNearest 40 = .ok (.getfield 12, 3) := by decide +kernel
theorem dX1_joinNearest_43 : decode cX1_joinNearest 43 = .ok (.iload 5, 2) := by decide +kernel
theorem dX1_joinNearest_45 : decode cX1_joinNearest 45 = .ok (.invokevirtual 49, 3) := by decide +kernel
theorem dX1_joinNearest_48 : decode cX1_joinNearest 48 = .ok (.ifCond .eq 45, 3) := by decide +kernel
theorem dX1_joinNearest_51 : decode cX1_joinNearest 51 = .ok (.iload_n 2, 1) := by decide +kernel
theorem dX1_joinNearest_52 : decode cX1_joinNearest 52 = .ok (.iconst (-1), 1) := by decide +kernel
theorem dX1_joinNearest_53 : decode cX1_joinNearest 53 = .ok (.if_icmp .eq 20, 3) := by decide +kernel
theorem dX1_joinNearest_56 : decode cX1_joinNearest 56 = .ok (.aload_n 0, 1) := by decide +kernel
theorem dX1_joinNearest_57 : decode cX1_joinNearest 57 = .ok (.getfield 20, 3) := by decide +kernel
theorem dX1_joinNearest_60 : decode cX1_joinNearest 60 = .ok (.iload 4, 2) := by decide +kernel
theorem dX1_joinNearest_62 : decode cX1_joinNearest 62 = .ok (.aaload, 1) := by decide +kernel
theorem dX1_joinNearest_63 : decode cX1_joinNearest 63 = .ok (.iload 5, 2) := by decide +kernel
theorem dX1_joinNearest_65 : decode cX1_joinNearest 65 = .ok (.iaload, 1) := by decide +kernel
theorem dX1_joinNearest_66 : decode cX1_joinNearest 66 = .ok (.aload_n 0, 1) := by decide +kernel
theorem dX1_joinNearest_67 : decode cX1_joinNearest 67 = .ok (.getfield 27, 3) := by decide +kernel
theorem dX1_joinNearest_70 : decode cX1_joinNearest 70 = .ok (.if_icmp .ge 23, 3) := by decide +kernel
theorem dX1_joinNearest_73 : decode cX1_joinNearest 73 = .ok (.iload 4, 2) := by decide +kernel
theorem dX1_joinNearest_75 : decode cX1_joinNearest 75 = .ok (.istore_n 2, 1) := by decide +kernel
theorem dX1_joinNearest_76 : decode cX1_joinNearest 76 = .ok (.iload 5, 2) := by decide +kernel
theorem dX1_joinNearest_78 : decode cX1_joinNearest 78 = .ok (.istore_n 3, 1) := by decide +kernel
theorem dX1_joinNearest_79 : decode cX1_joinNearest 79 = .ok (.aload_n 0, 1) := by decide +kernel
theorem dX1_joinNearest_80 : decode cX1_joinNearest 80 = .ok (.aload_n 0, 1) := by decide +kernel
theorem dX1_joinNearest_81 : decode cX1_joinNearest 81 = .ok (.getfield 20, 3) := by decide +kernel
theorem dX1_joinNearest_84 : decode cX1_joinNearest 84 = .ok (.iload 4, 2) := by decide +kernel
theorem dX1_joinNearest_86 : decode cX1_joinNearest 86 = .ok (.aaload, 1) := by decide +kernel
theorem dX1_joinNearest_87 : decode cX1_joinNearest 87 = .ok (.iload 5, 2) := by decide +kernel
theorem dX1_joinNearest_89 : decode cX1_joinNearest 89 = .ok (.iaload, 1) := by decide +kernel
theorem dX1_joinNearest_90 : decode cX1_joinNearest 90 = .ok (.putfield 27, 3) := by decide +kernel
theorem dX1_joinNearest_93 : decode cX1_joinNearest 93 = .ok (.iinc 5 1, 3) := by decide +kernel
theorem dX1_joinNearest_96 : decode cX1_joinNearest 96 = .ok (.goto (-76), 3) := by decide +kernel
theorem dX1_joinNearest_99 : decode cX1_joinNearest 99 = .ok (.iinc 4 1, 3) := by decide +kernel
theorem dX1_joinNearest_102 : decode cX1_joinNearest 102 = .ok (.goto (-95), 3) := by decide +kernel
theorem dX1_joinNearest_105 : decode cX1_joinNearest 105 = .ok (.iload_n 2, 1) := by decide +kernel
theorem dX1_joinNearest_106 : decode cX1_joinNearest 106 = .ok (.iconst (-1), 1) := by decide +kernel
theorem dX1_joinNearest_107 : decode cX1_joinNearest 107 = .ok (.if_icmp .eq 24, 3) := by decide +kernel
theorem dX1_joinNearest_110 : decode cX1_joinNearest 110 = .ok (.iload_n 3, 1) := by decide +kernel
theorem dX1_joinNearest_111 : decode cX1_joinNearest 111 = .ok (.iconst (-1), 1) := by decide +kernel
theorem dX1_joinNearest_112 : decode cX1_joinNearest 112 = .ok (.if_icmp .eq 19, 3) := by decide +kernel
theorem dX1_joinNearest_115 : decode cX1_joinNearest 115 = .ok (.aload_n 0, 1) := by decide +kernel
theorem dX1_joinNearest_116 : decode cX1_joinNearest 116 = .ok (.getfield 12, 3) := by decide +kernel
theorem dX1_joinNearest_119 : decode cX1_joinNearest 119 = .ok (.iload_n 2, 1) := by decide +kernel
theorem dX1_joinNearest_120 : decode cX1_joinNearest 120 = .ok (.iload_n 3, 1) := by decide +kernel
theorem dX1_joinNearest_121 : decode cX1_joinNearest 121 = .ok (.invokevirtual 52, 3) := by decide +kernel
theorem dX1_joinNearest_124 : decode cX1_joinNearest 124 = .ok (.aload_n 0, 1) := by decide +kernel
theorem dX1_joinNearest_125 : decode cX1_joinNearest 125 = .ok (.iload_n 1, 1) := by decide +kernel
theorem dX1_joinNearest_126 : decode cX1_joinNearest 126 = .ok (.iload_n 2, 1) := by decide +kernel
theorem dX1_joinNearest_127 : decode cX1_joinNearest 127 = .ok (.iload_n 3, 1) := by decide +kernel
theorem dX1_joinNearest_128 : decode cX1_joinNearest 128 = .ok (.invokevirtual 56, 3) := by decide +kernel
theorem dX1_joinNearest_131 : decode cX1_joinNearest 131 = .ok (.return_, 1) := by decide +kernel
theorem dX1_takeOver_0 : decode cX1_takeOver 0 = .ok (.iconst 0, 1) := by decide +kernel
theorem dX1_takeOver_1 : decode cX1_takeOver 1 = .ok (.istore 4, 2) := by decide +kernel
theorem dX1_takeOver_3 : decode cX1_takeOver 3 = .ok (.iload 4, 2) := by decide +kernel
theorem dX1_takeOver_5 : decode cX1_takeOver 5 = .ok (.bipush 12, 2) := by decide +kernel
theorem dX1_takeOver_7 : decode cX1_takeOver 7 = .ok (.if_icmp .ge 78, 3) := by decide +kernel
theorem dX1_takeOver_10 : decode cX1_takeOver 10 = .ok (.aload_n 0, 1) := by decide +kernel
theorem dX1_takeOver_11 : decode cX1_takeOver 11 = .ok (.getfield 20, 3) := by decide +kernel
theorem dX1_takeOver_14 : decode cX1_takeOver 14 = .ok (.iload_n 2, 1) := by decide +kernel
theorem dX1_takeOver_15 : decode cX1_takeOver 15 = .ok (.aaload, 1) := by decide +kernel
theorem dX1_takeOver_16 : decode cX1_takeOver 16 = .ok (.iload 4, 2) := by decide +kernel
theorem dX1_takeOver_18 : decode cX1_takeOver 18 = .ok (.iaload, 1) := by decide +kernel
theorem dX1_takeOver_19 : decode cX1_takeOver 19 = .ok (.istore 5, 2) := by decide +kernel
theorem dX1_takeOver_21 : decode cX1_takeOver 21 = .ok (.aload_n 0, 1) := by decide +kernel
theorem dX1_takeOver_22 : decode cX1_takeOver 22 = .ok (.getfield 20, 3) := by decide +kernel
theorem dX1_takeOver_25 : decode cX1_takeOver 25 = .ok (.iload_n 3, 1) := by decide +kernel
theorem dX1_takeOver_26 : decode cX1_takeOver 26 = .ok (.aaload, 1) := by decide +kernel
theorem dX1_takeOver_27 : decode cX1_takeOver 27 = .ok (.iload 4, 2) := by decide +kernel
theorem dX1_takeOver_29 : decode cX1_takeOver 29 = .ok (.iaload, 1) := by decide +kernel
theorem dX1_takeOver_30 : decode cX1_takeOver 30 = .ok (.istore 6, 2) := by decide +kernel
theorem dX1_takeOver_32 : decode cX1_takeOver 32 = .ok (.iload_n 1, 1) := by decide +kernel
theorem dX1_takeOver_33 : decode cX1_takeOver 33 = .ok (.bipush 97, 2) := by decide +kernel
theorem dX1_takeOver_35 : decode cX1_takeOver 35 = .ok (.if_icmp .ne 13, 3) := by decide +kernel
theorem dX1_takeOver_38 : decode cX1_takeOver 38 = .ok (.iload 5, 2) := by decide +kernel
theorem dX1_takeOver_40 : decode cX1_takeOver 40 = .ok (.iload 6, 2) := by decide +kernel
theorem dX1_takeOver_42 : decode cX1_takeOver 42 = .ok (.invokestatic 60, 3) := by decide +kernel
theorem dX1_takeOver_45 : decode cX1_takeOver 45 = .ok (.goto 10, 3) := by decide +kernel
theorem dX1_takeOver_48 : decode cX1_takeOver 48 = .ok (.iload 5, 2) := by decide +kernel
theorem dX1_takeOver_50 : decode cX1_takeOver 50 = .ok (.iload 6, 2) := by decide +kernel
theorem dX1_takeOver_52 : decode cX1_takeOver 52 = .ok (.invokestatic 65, 3) := by decide +kernel
theorem dX1_takeOver_55 : decode cX1_takeOver 55 = .ok (.istore 7, 2) := by decide +kernel
theorem dX1_takeOver_57 : decode cX1_takeOver 57 = .ok (.aload_n 0, 1) := by decide +kernel
theorem dX1_takeOver_58 : decode cX1_takeOver 58 = .ok (.getfield 20, 3) := by decide +kernel
theorem dX1_takeOver_61 : decode cX1_takeOver 61 = .ok (.iload_n 2, 1) := by decide +kernel
theorem dX1_takeOver_62 : decode cX1_takeOver 62 = .ok (.aaload, 1) := by decide +kernel
theorem dX1_takeOver_63 : decode cX1_takeOver 63 = .ok (.iload 4, 2) := by decide +kernel
theorem dX1_takeOver_65 : decode cX1_takeOver 65 = .ok (.iload 7, 2) := by decide +kernel
theorem dX1_takeOver_67 : decode cX1_takeOver 67 = .ok (.iastore, 1) := by decide +kernel
theorem dX1_takeOver_68 : decode cX1_takeOver 68 = .ok (.aload_n 0, 1) := by decide +kernel
theorem dX1_takeOver_69 : decode cX1_takeOver 69 = .ok (.getfield 20, 3) := by decide +kernel
theorem dX1_takeOver_72 : decode cX1_takeOver 72 = .ok (.iload 4, 2) := by decide +kernel
theorem dX1_takeOver_74 : decode cX1_takeOver 74 = .ok (.aaload, 1) := by decide +kernel
theorem dX1_takeOver_75 : decode cX1_takeOver 75 = .ok (.iload_n 2, 1) := by decide +kernel
theorem dX1_takeOver_76 : decode cX1_takeOver 76 = .ok (.iload 7, 2) := by decide +kernel
theorem dX1_takeOver_78 : decode cX1_takeOver 78 = .ok (.iastore, 1) := by decide +kernel
theorem dX1_takeOver_79 : decode cX1_takeOver 79 = .ok (.iinc 4 1, 3) := by decide +kernel
theorem dX1_takeOver_82 : decode cX1_takeOver 82 = .ok (.goto (-79), 3) := by decide +kernel
theorem dX1_takeOver_85 : decode cX1_takeOver 85 = .ok (.return_, 1) := by decide +kernel
theorem dX2_init_0 : decode cX2_init 0 = .ok (.aload_n 0, 1) := by decide +kernel
theorem dX2_init_1 : decode cX2_init 1 = .ok (.invokespecial 3, 3) := by decide +kernel
theorem dX2_init_4 : decode cX2_init 4 = .ok (.aload_n 0, 1) := by decide +kernel
theorem dX2_init_5 : decode cX2_init 5 = .ok (.bipush 12, 2) := by decide +kernel
theorem dX2_init_7 : decode cX2_init 7 = .ok (.newarray .int, 2) := by decide +kernel
theorem dX2_init_9 : decode cX2_init 9 = .ok (.putfield 9, 3) := by decide +kernel
theorem dX2_init_12 : decode cX2_init 12 = .ok (.return_, 1) := by decide +kernel
theorem dX2_fewestFor_0 : decode cX2_fewestFor 0 = .ok (.iload_n 1, 1) := by decide +kernel
theorem dX2_fewestFor_1 : decode cX2_fewestFor 1 = .ok (.invokestatic 15, 3) := by decide +kernel
theorem dX2_fewestFor_4 : decode cX2_fewestFor 4 = .ok (.istore_n 2, 1) := by decide +kernel
theorem dX2_fewestFor_5 : decode cX2_fewestFor 5 = .ok (.iconst 0, 1) := by decide +kernel
theorem dX2_fewestFor_6 : decode cX2_fewestFor 6 = .ok (.istore_n 3, 1) := by decide +kernel
theorem dX2_fewestFor_7 : decode cX2_fewestFor 7 = .ok (.iload_n 3, 1) := by decide +kernel
theorem dX2_fewestFor_8 : decode cX2_fewestFor 8 = .ok (.sipush 4096, 3) := by decide +kernel
theorem dX2_fewestFor_11 : decode cX2_fewestFor 11 = .ok (.if_icmp .ge 39, 3) := by decide +kernel
theorem dX2_fewestFor_14 : decode cX2_fewestFor 14 = .ok (.iload_n 3, 1) := by decide +kernel
theorem dX2_fewestFor_15 : decode cX2_fewestFor 15 = .ok (.iload_n 1, 1) := by decide +kernel
theorem dX2_fewestFor_16 : decode cX2_fewestFor 16 = .ok (.iconst (-1), 1) := by decide +kernel
theorem dX2_fewestFor_17 : decode cX2_fewestFor 17 = .ok (.ixor, 1) := by decide +kernel
theorem dX2_fewestFor_18 : decode cX2_fewestFor 18 = .ok (.iand, 1) := by decide +kernel
theorem dX2_fewestFor_19 : decode cX2_fewestFor 19 = .ok (.ifCond .ne 25, 3) := by decide +kernel
theorem dX2_fewestFor_22 : decode cX2_fewestFor 22 = .ok (.iload_n 3, 1) := by decide +kernel
theorem dX2_fewestFor_23 : decode cX2_fewestFor 23 = .ok (.invokestatic 15, 3) := by decide +kernel
theorem dX2_fewestFor_26 : decode cX2_fewestFor 26 = .ok (.iload_n 2, 1) := by decide +kernel
theorem dX2_fewestFor_27 : decode cX2_fewestFor 27 = .ok (.if_icmp .ge 17, 3) := by decide +kernel
theorem dX2_fewestFor_30 : decode cX2_fewestFor 30 = .ok (.aload_n 0, 1) := by decide +kernel
theorem dX2_fewestFor_31 : decode cX2_fewestFor 31 = .ok (.iload_n 3, 1) := by decide +kernel
theorem dX2_fewestFor_32 : decode cX2_fewestFor 32 = .ok (.invokevirtual 21, 3) := by decide +kernel
theorem dX2_fewestFor_35 : decode cX2_fewestFor 35 = .ok (.iload_n 1, 1) := by decide +kernel
theorem dX2_fewestFor_36 : decode cX2_fewestFor 36 = .ok (.if_icmp .ne 8, 3) := by decide +kernel
theorem dX2_fewestFor_39 : decode cX2_fewestFor 39 = .ok (.iload_n 3, 1) := by decide +kernel
theorem dX2_fewestFor_40 : decode cX2_fewestFor 40 = .ok (.invokestatic 15, 3) := by decide +kernel
theorem dX2_fewestFor_43 : decode cX2_fewestFor 43 = .ok (.istore_n 2, 1) := by decide +kernel
theorem dX2_fewestFor_44 : decode cX2_fewestFor 44 = .ok (.iinc 3 1, 3) := by decide +kernel
theorem dX2_fewestFor_47 : decode cX2_fewestFor 47 = .ok (.goto (-40), 3) := by decide +kernel
theorem dX2_fewestFor_50 : decode cX2_fewestFor 50 = .ok (.iload_n 2, 1) := by decide +kernel
theorem dX2_fewestFor_51 : decode cX2_fewestFor 51 = .ok (.ireturn, 1) := by decide +kernel
theorem dX2_reachOf_0 : decode cX2_reachOf 0 = .ok (.iconst 0, 1) := by decide +kernel
theorem dX2_reachOf_1 : decode cX2_reachOf 1 = .ok (.istore_n 2, 1) := by decide +kernel
theorem dX2_reachOf_2 : decode cX2_reachOf 2 = .ok (.iconst 0, 1) := by decide +kernel
theorem dX2_reachOf_3 : decode cX2_reachOf 3 = .ok (.istore_n 3, 1) := by decide +kernel
theorem dX2_reachOf_4 : decode cX2_reachOf 4 = .ok (.iload_n 3, 1) := by decide +kernel
theorem dX2_reachOf_5 : decode cX2_reachOf 5 = .ok (.bipush 12, 2) := by decide +kernel
theorem dX2_reachOf_7 : decode cX2_reachOf 7 = .ok (.if_icmp .ge 26, 3) := by decide +kernel
theorem dX2_reachOf_10 : decode cX2_reachOf 10 = .ok (.iload_n 1, 1) := by decide +kernel
theorem dX2_reachOf_11 : decode cX2_reachOf 11 = .ok (.iload_n 3, 1) := by decide +kernel
theorem dX2_reachOf_12 : decode cX2_reachOf 12 = .ok (.invokestatic 24, 3) := by decide +kernel
theorem dX2_reachOf_15 : decode cX2_reachOf 15 = .ok (.ifCond .eq 12, 3) := by decide +kernel
theorem dX2_reachOf_18 : decode cX2_reachOf 18 = .ok (.iload_n 2, 1) := by decide +kernel
theorem dX2_reachOf_19 : decode cX2_reachOf 19 = .ok (.aload_n 0, 1) := by decide +kernel
theorem dX2_reachOf_20 : decode cX2_reachOf 20 = .ok (.getfield 9, 3) := by decide +kernel
theorem dX2_reachOf_23 : decode cX2_reachOf 23 = .ok (.iload_n 3, 1) := by decide +kernel
theorem dX2_reachOf_24 : decode cX2_reachOf 24 = .ok (.iaload, 1) := by decide +kernel
theorem dX2_reachOf_25 : decode cX2_reachOf 25 = .ok (.ior, 1) := by decide +kernel
theorem dX2_reachOf_26 : decode cX2_reachOf 26 = .ok (.istore_n 2, 1) := by decide +kernel
theorem dX2_reachOf_27 : decode cX2_reachOf 27 = .ok (.iinc 3 1, 3) := by decide +kernel
theorem dX2_reachOf_30 : decode cX2_reachOf 30 = .ok (.goto (-26), 3) := by decide +kernel
theorem dX2_reachOf_33 : decode cX2_reachOf 33 = .ok (.iload_n 2, 1) := by decide +kernel
theorem dX2_reachOf_34 : decode cX2_reachOf 34 = .ok (.ireturn, 1) := by decide +kernel
theorem dX3_init_0 : decode cX3_init 0 = .ok (.aload_n 0, 1) := by decide +kernel
theorem dX3_init_1 : decode cX3_init 1 = .ok (.invokespecial 3, 3) := by decide +kernel
theorem dX3_init_4 : decode cX3_init 4 = .ok (.aload_n 0, 1) := by decide +kernel
theorem dX3_init_5 : decode cX3_init 5 = .ok (.bipush 72, 2) := by decide +kernel
theorem dX3_init_7 : decode cX3_init 7 = .ok (.newarray .int, 2) := by decide +kernel
theorem dX3_init_9 : decode cX3_init 9 = .ok (.putfield 11, 3) := by decide +kernel
theorem dX3_init_12 : decode cX3_init 12 = .ok (.aload_n 0, 1) := by decide +kernel
theorem dX3_init_13 : decode cX3_init 13 = .ok (.bipush 12, 2) := by decide +kernel
theorem dX3_init_15 : decode cX3_init 15 = .ok (.newarray .int, 2) := by decide +kernel
theorem dX3_init_17 : decode cX3_init 17 = .ok (.putfield 15, 3) := by decide +kernel
theorem dX3_init_20 : decode cX3_init 20 = .ok (.aload_n 0, 1) := by decide +kernel
theorem dX3_init_21 : decode cX3_init 21 = .ok (.iconst (-1), 1) := by decide +kernel
theorem dX3_init_22 : decode cX3_init 22 = .ok (.putfield 18, 3) := by decide +kernel
theorem dX3_init_25 : decode cX3_init 25 = .ok (.return_, 1) := by decide +kernel
theorem dX3_findIn_0 : decode cX3_findIn 0 = .ok (.aload_n 0, 1) := by decide +kernel
theorem dX3_findIn_1 : decode cX3_findIn 1 = .ok (.getfield 18, 3) := by decide +kernel
theorem dX3_findIn_4 : decode cX3_findIn 4 = .ok (.aload_n 1, 1) := by decide +kernel
theorem dX3_findIn_5 : decode cX3_findIn 5 = .ok (.getfield 22, 3) := by decide +kernel
theorem dX3_findIn_8 : decode cX3_findIn 8 = .ok (.if_icmp .ne 4, 3) := by decide +kernel
theorem dX3_findIn_11 : decode cX3_findIn 11 = .ok (.return_, 1) := by decide +kernel
theorem dX3_findIn_12 : decode cX3_findIn 12 = .ok (.aload_n 0, 1) := by decide +kernel
theorem dX3_findIn_13 : decode cX3_findIn 13 = .ok (.aload_n 1, 1) := by decide +kernel
theorem dX3_findIn_14 : decode cX3_findIn 14 = .ok (.getfield 22, 3) := by decide +kernel
theorem dX3_findIn_17 : decode cX3_findIn 17 = .ok (.putfield 18, 3) := by decide +kernel
theorem dX3_findIn_20 : decode cX3_findIn 20 = .ok (.aload_n 0, 1) := by decide +kernel
theorem dX3_findIn_21 : decode cX3_findIn 21 = .ok (.iconst 0, 1) := by decide +kernel
theorem dX3_findIn_22 : decode cX3_findIn 22 = .ok (.putfield 27, 3) := by decide +kernel
theorem dX3_findIn_25 : decode cX3_findIn 25 = .ok (.iconst 0, 1) := by decide +kernel
theorem dX3_findIn_26 : decode cX3_findIn 26 = .ok (.istore_n 2, 1) := by decide +kernel
theorem dX3_findIn_27 : decode cX3_findIn 27 = .ok (.iload_n 2, 1) := by decide +kernel
theorem dX3_findIn_28 : decode cX3_findIn 28 = .ok (.bipush 12, 2) := by decide +kernel
theorem dX3_findIn_30 : decode cX3_findIn 30 = .ok (.if_icmp .ge 16, 3) := by decide +kernel
theorem dX3_findIn_33 : decode cX3_findIn 33 = .ok (.aload_n 0, 1) := by decide +kernel
theorem dX3_findIn_34 : decode cX3_findIn 34 = .ok (.getfield 15, 3) := by decide +kernel
theorem dX3_findIn_37 : decode cX3_findIn 37 = .ok (.iload_n 2, 1) := by decide +kernel
theorem dX3_findIn_38 : decode cX3_findIn 38 = .ok (.iconst 0, 1) := by decide +kernel
theorem dX3_findIn_39 : decode cX3_findIn 39 = .ok (.iastore, 1) := by decide +kernel
theorem dX3_findIn_40 : decode cX3_findIn 40 = .ok (.iinc 2 1, 3) := by decide +kernel
theorem dX3_findIn_43 : decode cX3_findIn 43 = .ok (.goto (-16), 3) := by decide +kernel
theorem dX3_findIn_46 : decode cX3_findIn 46 = .ok (.iconst 0, 1) := by decide +kernel
theorem dX3_findIn_47 : decode cX3_findIn 47 = .ok (.istore_n 2, 1) := by decide +kernel
theorem dX3_findIn_48 : decode cX3_findIn 48 = .ok (.iload_n 2, 1) := by decide +kernel
theorem dX3_findIn_49 : decode cX3_findIn 49 = .ok (.bipush 12, 2) := by decide +kernel
theorem dX3_findIn_51 : decode cX3_findIn 51 = .ok (.if_icmp .ge 48, 3) := by decide +kernel
theorem dX3_findIn_54 : decode cX3_findIn 54 = .ok (.iload_n 2, 1) := by decide +kernel
theorem dX3_findIn_55 : decode cX3_findIn 55 = .ok (.iconst 1, 1) := by decide +kernel
theorem dX3_findIn_56 : decode cX3_findIn 56 = .ok (.iadd, 1) := by decide +kernel
theorem dX3_findIn_57 : decode cX3_findIn 57 = .ok (.istore_n 3, 1) := by decide +kernel
theorem dX3_findIn_58 : decode cX3_findIn 58 = .ok (.iload_n 3, 1) := by decide +kernel
theorem dX3_findIn_59 : decode cX3_findIn 59 = .ok (.bipush 12, 2) := by decide +kernel
theorem dX3_findIn_61 : decode cX3_findIn 61 = .ok (.if_icmp .ge 32, 3) := by decide +kernel
theorem dX3_findIn_64 : decode cX3_findIn 64 = .ok (.aload_n 1, 1) := by decide +kernel
theorem dX3_findIn_65 : decode cX3_findIn 65 = .ok (.iload_n 2, 1) := by decide +kernel
theorem dX3_findIn_66 : decode cX3_findIn 66 = .ok (.invokevirtual 30, 3) := by decide +kernel
theorem dX3_findIn_69 : decode cX3_findIn 69 = .ok (.ifCond .eq 18, 3) := by decide +kernel
theorem dX3_findIn_72 : decode cX3_findIn 72 = .ok (.aload_n 1, 1) := by decide +kernel
theorem dX3_findIn_73 : decode cX3_findIn 73 = .ok (.iload_n 3, 1) := by decide +kernel
theorem dX3_findIn_74 : decode cX3_findIn 74 = .ok (.invokevirtual 30, 3) := by decide +kernel
theorem dX3_findIn_77 : decode cX3_findIn 77 = .ok (.ifCond .eq 10, 3) := by decide +kernel
theorem dX3_findIn_80 : decode cX3_findIn 80 = .ok (.aload_n 0, 1) := by decide +kernel
theorem dX3_findIn_81 : decode cX3_findIn 81 = .ok (.aload_n 1, 1) := by decide +kernel
theorem dX3_findIn_82 : decode cX3_findIn 82 = .ok (.iload_n 2, 1) := by decide +kernel
theorem dX3_findIn_83 : decode cX3_findIn 83 = .ok (.iload_n 3, 1) := by decide +kernel
theorem dX3_findIn_84 : decode cX3_findIn 84 = .ok (.invokevirtual 34, 3) := by decide +kernel
theorem dX3_findIn_87 : decode cX3_findIn 87 = .ok (.iinc 3 1, 3) := by decide +kernel
theorem dX3_findIn_90 : decode cX3_findIn 90 = .ok (.goto (-32), 3) := by decide +kernel
theorem dX3_findIn_93 : decode cX3_findIn 93 = .ok (.iinc 2 1, 3) := by decide +kernel
theorem dX3_findIn_96 : decode cX3_findIn 96 = .ok (.goto (-48), 3) := by decide +kernel
theorem dX3_findIn_99 : decode cX3_findIn 99 = .ok (.return_, 1) := by decide +kernel
theorem dX3_findWith_0 : decode cX3_findWith 0 = .ok (.iload_n 3, 1) := by decide +kernel
theorem dX3_findWith_1 : decode cX3_findWith 1 = .ok (.iconst 1, 1) := by decide +kernel
theorem dX3_findWith_2 : decode cX3_findWith 2 = .ok (.iadd, 1) := by decide +kernel
theorem dX3_findWith_3 : decode cX3_findWith 3 = .ok (.istore 4, 2) := by decide +kernel
theorem dX3_findWith_5 : decode cX3_findWith 5 = .ok (.iload 4, 2) := by decide +kernel
theorem dX3_findWith_7 : decode cX3_findWith 7 = .ok (.bipush 12, 2) := by decide +kernel
theorem dX3_findWith_9 : decode cX3_findWith 9 = .ok (.if_icmp .ge 140, 3) := by decide +kernel
theorem dX3_findWith_12 : decode cX3_findWith 12 = .ok (.aload_n 1, 1) := by decide +kernel
theorem dX3_findWith_13 : decode cX3_findWith 13 = .ok (.iload 4, 2) := by decide +kernel
theorem dX3_findWith_15 : decode cX3_findWith 15 = .ok (.invokevirtual 30, 3) := by decide +kernel
theorem dX3_findWith_18 : decode cX3_findWith 18 = .ok (.ifCond .eq 125, 3) := by decide +kernel
theorem dX3_findWith_21 : decode cX3_findWith 21 = .ok (.aload_n 0, 1) := by decide +kernel
theorem dX3_findWith_22 : decode cX3_findWith 22 = .ok (.getfield 27, 3) := by decide +kernel
theorem dX3_findWith_25 : decode cX3_findWith 25 = .ok (.bipush 24, 2) := by decide +kernel
theorem dX3_findWith_27 : decode cX3_findWith 27 = .ok (.if_icmp .ge 116, 3) := by decide +kernel
theorem dX3_findWith_30 : decode cX3_findWith 30 = .ok (.aload_n 1, 1) := by decide +kernel
theorem dX3_findWith_31 : decode cX3_findWith 31 = .ok (.iload_n 2, 1) := by decide +kernel
theorem dX3_findWith_32 : decode cX3_findWith 32 = .ok (.iload_n 3, 1) := by decide +kernel
theorem dX3_findWith_33 : decode cX3_findWith 33 = .ok (.iload 4, 2) := by decide +kernel
theorem dX3_findWith_35 : decode cX3_findWith 35 = .ok (.invokestatic 38, 3) := by decide +kernel
theorem dX3_findWith_38 : decode cX3_findWith 38 = .ok (.ifCond .eq 105, 3) := by decide +kernel
theorem dX3_findWith_41 : decode cX3_findWith 41 = .ok (.aload_n 0, 1) := by decide +kernel
theorem dX3_findWith_42 : decode cX3_findWith 42 = .ok (.getfield 11, 3) := by decide +kernel
theorem dX3_findWith_45 : decode cX3_findWith 45 = .ok (.iconst 3, 1) := by decide +kernel
theorem dX3_findWith_46 : decode cX3_findWith 46 = .ok (.aload_n 0, 1) := by decide +kernel
theorem dX3_findWith_47 : decode cX3_findWith 47 = .ok (.getfield 27, 3) := by decide +kernel
theorem dX3_findWith_50 : decode cX3_findWith 50 = .ok (.imul, 1) := by decide +kernel
theorem dX3_findWith_51 : decode cX3_findWith 51 = .ok (.iload_n 2, 1) := by decide +kernel
theorem dX3_findWith_52 : decode cX3_findWith 52 = .ok (.iastore, 1) := by decide +kernel
theorem dX3_findWith_53 : decode cX3_findWith 53 = .ok (.aload_n 0, 1) := by decide +kernel
theorem dX3_findWith_54 : decode cX3_findWith 54 = .ok (.getfield 11, 3) := by decide +kernel
theorem dX3_findWith_57 : decode cX3_findWith 57 = .ok (.iconst 3, 1) := by decide +kernel
theorem dX3_findWith_58 : decode cX3_findWith 58 = .ok (.aload_n 0, 1) := by decide +kernel
theorem dX3_findWith_59 : decode cX3_findWith 59 = .ok (.getfield 27, 3) := by decide +kernel
theorem dX3_findWith_62 : decode cX3_findWith 62 = .ok (.imul, 1) := by decide +kernel
theorem dX3_findWith_63 : decode cX3_findWith 63 = .ok (.iconst 1, 1) := by decide +kernel
theorem dX3_findWith_64 : decode cX3_findWith 64 = .ok (.iadd, 1) := by decide +kernel
theorem dX3_findWith_65 : decode cX3_findWith 65 = .ok (.iload_n 3, 1) := by decide +kernel
theorem dX3_findWith_66 : decode cX3_findWith 66 = .ok (.iastore, 1) := by decide +kernel
theorem dX3_findWith_67 : decode cX3_findWith 67 = .ok (.aload_n 0, 1) := by decide +kernel
theorem dX3_findWith_68 : decode cX3_findWith 68 = .ok (.getfield 11, 3) := by decide +kernel
theorem dX3_findWith_71 : decode cX3_findWith 71 = .ok (.iconst 3, 1) := by decide +kernel
theorem dX3_findWith_72 : decode cX3_findWith 72 = .ok (.aload_n 0, 1) := by decide +kernel
theorem dX3_findWith_73 : decode cX3_findWith 73 = .ok (.getfield 27, 3) := by decide +kernel
theorem dX3_findWith_76 : decode cX3_findWith 76 = .ok (.imul, 1) := by decide +kernel
theorem dX3_findWith_77 : decode cX3_findWith 77 = .ok (.iconst 2, 1) := by decide +kernel
theorem dX3_findWith_78 : decode cX3_findWith 78 = .ok (.iadd, 1) := by decide +kernel
theorem dX3_findWith_79 : decode cX3_findWith 79 = .ok (.iload 4, 2) := by decide +kernel
theorem dX3_findWith_81 : decode cX3_findWith 81 = .ok (.iastore, 1) := by decide +kernel
theorem dX3_findWith_82 : decode cX3_findWith 82 = .ok (.aload_n 0, 1) := by decide +kernel
theorem dX3_findWith_83 : decode cX3_findWith 83 = .ok (.dup, 1) := by decide +kernel
theorem dX3_findWith_84 : decode cX3_findWith 84 = .ok (.getfield 27, 3) := by decide +kernel
theorem dX3_findWith_87 : decode cX3_findWith 87 = .ok (.iconst 1, 1) := by decide +kernel
theorem dX3_findWith_88 : decode cX3_findWith 88 = .ok (.iadd, 1) := by decide +kernel
theorem dX3_findWith_89 : decode cX3_findWith 89 = .ok (.putfield 27, 3) := by decide +kernel
theorem dX3_findWith_92 : decode cX3_findWith 92 = .ok (.aload_n 0, 1) := by decide +kernel
theorem dX3_findWith_93 : decode cX3_findWith 93 = .ok (.getfield 15, 3) := by decide +kernel
theorem dX3_findWith_96 : decode cX3_findWith 96 = .ok (.iload_n 2, 1) := by decide +kernel
theorem dX3_findWith_97 : decode cX3_findWith 97 = .ok (.dup2, 1) := by decide +kernel
theorem dX3_findWith_98 : decode cX3_findWith 98 = .ok (.iaload, 1) := by decide +kernel
theorem dX3_findWith_99 : decode cX3_findWith 99 = .ok (.iconst 1, 1) := by decide +kernel
theorem dX3_findWith_100 : decode cX3_findWith 100 = .ok (.iload_n 3, 1) := by decide +kernel
theorem dX3_findWith_101 : decode cX3_findWith 101 = .ok (.ishl, 1) := by decide +kernel
theorem dX3_findWith_102 : decode cX3_findWith 102 = .ok (.iconst 1, 1) := by decide +kernel
theorem dX3_findWith_103 : decode cX3_findWith 103 = .ok (.iload 4, 2) := by decide +kernel
theorem dX3_findWith_105 : decode cX3_findWith 105 = .ok (.ishl, 1) := by decide +kernel
theorem dX3_findWith_106 : decode cX3_findWith 106 = .ok (.ior, 1) := by decide +kernel
theorem dX3_findWith_107 : decode cX3_findWith 107 = .ok (.ior, 1) := by decide +kernel
theorem dX3_findWith_108 : decode cX3_findWith 108 = .ok (.iastore, 1) := by decide +kernel
theorem dX3_findWith_109 : decode cX3_findWith 109 = .ok (.aload_n 0, 1) := by decide +kernel
theorem dX3_findWith_110 : decode cX3_findWith 110 = .ok (.getfield 15, 3) := by decide +kernel
theorem dX3_findWith_113 : decode cX3_findWith 113 = .ok (.iload_n 3, 1) := by decide +kernel
theorem dX3_findWith_114 : decode cX3_findWith 114 = .ok (.dup2, 1) := by decide +kernel
theorem dX3_findWith_115 : decode cX3_findWith 115 = .ok (.iaload, 1) := by decide +kernel
theorem dX3_findWith_116 : decode cX3_findWith 116 = .ok (.iconst 1, 1) := by decide +kernel
theorem dX3_findWith_117 : decode cX3_findWith 117 = .ok (.iload_n 2, 1) := by decide +kernel
theorem dX3_findWith_118 : decode cX3_findWith 118 = .ok (.ishl, 1) := by decide +kernel
theorem dX3_findWith_119 : decode cX3_findWith 119 = .ok (.iconst 1, 1) := by decide +kernel
theorem dX3_findWith_120 : decode cX3_findWith 120 = .ok (.iload 4, 2) := by decide +kernel
theorem dX3_findWith_122 : decode cX3_findWith 122 = .ok (.ishl, 1) := by decide +kernel
theorem dX3_findWith_123 : decode cX3_findWith 123 = .ok (.ior, 1) := by decide +kernel
theorem dX3_findWith_124 : decode cX3_findWith 124 = .ok (.ior, 1) := by decide +kernel
theorem dX3_findWith_125 : decode cX3_findWith 125 = .ok (.iastore, 1) := by decide +kernel
theorem dX3_findWith_126 : decode cX3_findWith 126 = .ok (.aload_n 0, 1) := by decide +kernel
theorem dX3_findWith_127 : decode cX3_findWith 127 = .ok (.getfield 15, 3) := by decide +kernel
theorem dX3_findWith_130 : decode cX3_findWith 130 = .ok (.iload 4, 2) := by decide +kernel
theorem dX3_findWith_132 : decode cX3_findWith 132 = .ok (.dup2, 1) := by decide +kernel
theorem dX3_findWith_133 : decode cX3_findWith 133 = .ok (.iaload, 1) := by decide +kernel
theorem dX3_findWith_134 : decode cX3_findWith 134 = .ok (.iconst 1, 1) := by decide +kernel
theorem dX3_findWith_135 : decode cX3_findWith 135 = .ok (.iload_n 2, 1) := by decide +kernel
theorem dX3_findWith_136 : decode cX3_findWith 136 = .ok (.ishl, 1) := by decide +kernel
theorem dX3_findWith_137 : decode cX3_findWith 137 = .ok (.iconst 1, 1) := by decide +kernel
theorem dX3_findWith_138 : decode cX3_findWith 138 = .ok (.iload_n 3, 1) := by decide +kernel
theorem dX3_findWith_139 : decode cX3_findWith 139 = .ok (.ishl, 1) := by decide +kernel
theorem dX3_findWith_140 : decode cX3_findWith 140 = .ok (.ior, 1) := by decide +kernel
theorem dX3_findWith_141 : decode cX3_findWith 141 = .ok (.ior, 1) := by decide +kernel
theorem dX3_findWith_142 : decode cX3_findWith 142 = .ok (.iastore, 1) := by decide +kernel
theorem dX3_findWith_143 : decode cX3_findWith 143 = .ok (.iinc 4 1, 3) := by decide +kernel
theorem dX3_findWith_146 : decode cX3_findWith 146 = .ok (.goto (-141), 3) := by decide +kernel
theorem dX3_findWith_149 : decode cX3_findWith 149 = .ok (.return_, 1) := by decide +kernel
theorem dX3_isFat_0 : decode cX3_isFat 0 = .ok (.aload_n 0, 1) := by decide +kernel
theorem dX3_isFat_1 : decode cX3_isFat 1 = .ok (.iload_n 2, 1) := by decide +kernel
theorem dX3_isFat_2 : decode cX3_isFat 2 = .ok (.iload_n 3, 1) := by decide +kernel
theorem dX3_isFat_3 : decode cX3_isFat 3 = .ok (.iload_n 1, 1) := by decide +kernel
theorem dX3_isFat_4 : decode cX3_isFat 4 = .ok (.invokevirtual 42, 3) := by decide +kernel
theorem dX3_isFat_7 : decode cX3_isFat 7 = .ok (.istore 4, 2) := by decide +kernel
theorem dX3_isFat_9 : decode cX3_isFat 9 = .ok (.iload 4, 2) := by decide +kernel
theorem dX3_isFat_11 : decode cX3_isFat 11 = .ok (.ifCond .ne 5, 3) := by decide +kernel
theorem dX3_isFat_14 : decode cX3_isFat 14 = .ok (.iconst 0, 1) := by decide +kernel
theorem dX3_isFat_15 : decode cX3_isFat 15 = .ok (.ireturn, 1) := by decide +kernel
theorem dX3_isFat_16 : decode cX3_isFat 16 = .ok (.iconst 0, 1) := by decide +kernel
theorem dX3_isFat_17 : decode cX3_isFat 17 = .ok (.istore 5, 2) := by decide +kernel
theorem dX3_isFat_19 : decode cX3_isFat 19 = .ok (.iload 5, 2) := by decide +kernel
theorem dX3_isFat_21 : decode cX3_isFat 21 = .ok (.bipush 12, 2) := by decide +kernel
theorem dX3_isFat_23 : decode cX3_isFat 23 = .ok (.if_icmp .ge 83, 3) := by decide +kernel
theorem dX3_isFat_26 : decode cX3_isFat 26 = .ok (.aload_n 0, 1) := by decide +kernel
theorem dX3_isFat_27 : decode cX3_isFat 27 = .ok (.iload 5, 2) := by decide +kernel
theorem dX3_isFat_29 : decode cX3_isFat 29 = .ok (.invokevirtual 30, 3) := by decide +kernel
theorem dX3_isFat_32 : decode cX3_isFat 32 = .ok (.ifCond .eq 68, 3) := by decide +kernel
theorem dX3_isFat_35 : decode cX3_isFat 35 = .ok (.iload 5, 2) := by decide +kernel
theorem dX3_isFat_37 : decode cX3_isFat 37 = .ok (.iload_n 1, 1) := by decide +kernel
theorem dX3_isFat_38 : decode cX3_isFat 38 = .ok (.if_icmp .eq 62, 3) := by decide +kernel
theorem dX3_isFat_41 : decode cX3_isFat 41 = .ok (.iload 5, 2) := by decide +kernel
theorem dX3_isFat_43 : decode cX3_isFat 43 = .ok (.iload_n 2, 1) := by decide +kernel
theorem dX3_isFat_44 : decode cX3_isFat 44 = .ok (.if_icmp .eq 56, 3) := by decide +kernel
theorem dX3_isFat_47 : decode cX3_isFat 47 = .ok (.iload 5, 2) := by decide +kernel
theorem dX3_isFat_49 : decode cX3_isFat 49 = .ok (.iload_n 3, 1) := by decide +kernel
theorem dX3_isFat_50 : decode cX3_isFat 50 = .ok (.if_icmp .ne 6, 3) := by decide +kernel
theorem dX3_isFat_53 : decode cX3_isFat 53 = .ok (.goto 47, 3) := by decide +kernel
theorem dX3_isFat_56 : decode cX3_isFat 56 = .ok (.aload_n 0, 1) := by decide +kernel
theorem dX3_isFat_57 : decode cX3_isFat 57 = .ok (.iload_n 1, 1) := by decide +kernel
theorem dX3_isFat_58 : decode cX3_isFat 58 = .ok (.iload_n 2, 1) := by decide +kernel
theorem dX3_isFat_59 : decode cX3_isFat 59 = .ok (.iload_n 3, 1) := by decide +kernel
theorem dX3_isFat_60 : decode cX3_isFat 60 = .ok (.iload 5, 2) := by decide +kernel
theorem dX3_isFat_62 : decode cX3_isFat 62 = .ok (.invokevirtual 46, 3) := by decide +kernel
theorem dX3_isFat_65 : decode cX3_isFat 65 = .ok (.istore 6, 2) := by decide +kernel
theorem dX3_isFat_67 : decode cX3_isFat 67 = .ok (.iload 6, 2) := by decide +kernel
theorem dX3_isFat_69 : decode cX3_isFat 69 = .ok (.ifCond .le 5, 3) := by decide +kernel
theorem dX3_isFat_72 : decode cX3_isFat 72 = .ok (.iconst 0, 1) := by decide +kernel
theorem dX3_isFat_73 : decode cX3_isFat 73 = .ok (.ireturn, 1) := by decide +kernel
theorem dX3_isFat_74 : decode cX3_isFat 74 = .ok (.iload 6, 2) := by decide +kernel
theorem dX3_isFat_76 : decode cX3_isFat 76 = .ok (.ifCond .ne 24, 3) := by decide +kernel
theorem dX3_isFat_79 : decode cX3_isFat 79 = .ok (.iload 5, 2) := by decide +kernel
theorem dX3_isFat_81 : decode cX3_isFat 81 = .ok (.iload_n 1, 1) := by decide +kernel
theorem dX3_isFat_82 : decode cX3_isFat 82 = .ok (.if_icmp .lt 16, 3) := by decide +kernel
theorem dX3_isFat_85 : decode cX3_isFat 85 = .ok (.aload_n 0, 1) := by decide +kernel
theorem dX3_isFat_86 : decode cX3_isFat 86 = .ok (.iload_n 2, 1) := by decide +kernel
theorem dX3_isFat_87 : decode cX3_isFat 87 = .ok (.iload_n 3, 1) := by decide +kernel
theorem dX3_isFat_88 : decode cX3_isFat 88 = .ok (.iload 5, 2) := by decide +kernel
theorem dX3_isFat_90 : decode cX3_isFat 90 = .ok (.invokevirtual 42, 3) := by decide +kernel
theorem dX3_isFat_93 : decode cX3_isFat 93 = .ok (.iload 4, 2) := by decide +kernel
theorem dX3_isFat_95 : decode cX3_isFat 95 = .ok (.if_icmp .eq 5, 3) := by decide +kernel
theorem dX3_isFat_98 : decode cX3_isFat 98 = .ok (.iconst 0, 1) := by decide +kernel
theorem dX3_isFat_99 : decode cX3_isFat 99 = .ok (.ireturn, 1) := by decide +kernel
theorem dX3_isFat_100 : decode cX3_isFat 100 = .ok (.iinc 5 1, 3) := by decide +kernel
theorem dX3_isFat_103 : decode cX3_isFat 103 = .ok (.goto (-84), 3) := by decide +kernel
theorem dX3_isFat_106 : decode cX3_isFat 106 = .ok (.iconst 1, 1) := by decide +kernel
theorem dX3_isFat_107 : decode cX3_isFat 107 = .ok (.ireturn, 1) := by decide +kernel
theorem dX3_holds_0 : decode cX3_holds 0 = .ok (.iconst 0, 1) := by decide +kernel
theorem dX3_holds_1 : decode cX3_holds 1 = .ok (.istore_n 2, 1) := by decide +kernel
theorem dX3_holds_2 : decode cX3_holds 2 = .ok (.iload_n 2, 1) := by decide +kernel
theorem dX3_holds_3 : decode cX3_holds 3 = .ok (.aload_n 0, 1) := by decide +kernel
theorem dX3_holds_4 : decode cX3_holds 4 = .ok (.getfield 27, 3) := by decide +kernel
theorem dX3_holds_7 : decode cX3_holds 7 = .ok (.if_icmp .ge 57, 3) := by decide +kernel
theorem dX3_holds_10 : decode cX3_holds 10 = .ok (.iload_n 2, 1) := by decide +kernel
theorem dX3_holds_11 : decode cX3_holds 11 = .ok (.bipush 24, 2) := by decide +kernel
theorem dX3_holds_13 : decode cX3_holds 13 = .ok (.if_icmp .ge 51, 3) := by decide +kernel
theorem dX3_holds_16 : decode cX3_holds 16 = .ok (.iconst 1, 1) := by decide +kernel
theorem dX3_holds_17 : decode cX3_holds 17 = .ok (.aload_n 0, 1) := by decide +kernel
theorem dX3_holds_18 : decode cX3_holds 18 = .ok (.getfield 11, 3) := by decide +kernel
theorem dX3_holds_21 : decode cX3_holds 21 = .ok (.iconst 3, 1) := by decide +kernel
theorem dX3_holds_22 : decode cX3_holds 22 = .ok (.iload_n 2, 1) := by decide +kernel
theorem dX3_holds_23 : decode cX3_holds 23 = .ok (.imul, 1) := by decide +kernel
theorem dX3_holds_24 : decode cX3_holds 24 = .ok (.iaload, 1) := by decide +kernel
theorem dX3_holds_25 : decode cX3_holds 25 = .ok (.ishl, 1) := by decide +kernel
theorem dX3_holds_26 : decode cX3_holds 26 = .ok (.iconst 1, 1) := by decide +kernel
theorem dX3_holds_27 : decode cX3_holds 27 = .ok (.aload_n 0, 1) := by decide +kernel
theorem dX3_holds_28 : decode cX3_holds 28 = .ok (.getfield 11, 3) := by decide +kernel
theorem dX3_holds_31 : decode cX3_holds 31 = .ok (.iconst 3, 1) := by decide +kernel
theorem dX3_holds_32 : decode cX3_holds 32 = .ok (.iload_n 2, 1) := by decide +kernel
theorem dX3_holds_33 : decode cX3_holds 33 = .ok (.imul, 1) := by decide +kernel
theorem dX3_holds_34 : decode cX3_holds 34 = .ok (.iconst 1, 1) := by decide +kernel
theorem dX3_holds_35 : decode cX3_holds 35 = .ok (.iadd, 1) := by decide +kernel
theorem dX3_holds_36 : decode cX3_holds 36 = .ok (.iaload, 1) := by decide +kernel
theorem dX3_holds_37 : decode cX3_holds 37 = .ok (.ishl, 1) := by decide +kernel
theorem dX3_holds_38 : decode cX3_holds 38 = .ok (.ior, 1) := by decide +kernel
theorem dX3_holds_39 : decode cX3_holds 39 = .ok (.iconst 1, 1) := by decide +kernel
theorem dX3_holds_40 : decode cX3_holds 40 = .ok (.aload_n 0, 1) := by decide +kernel
theorem dX3_holds_41 : decode cX3_holds 41 = .ok (.getfield 11, 3) := by decide +kernel
theorem dX3_holds_44 : decode cX3_holds 44 = .ok (.iconst 3, 1) := by decide +kernel
theorem dX3_holds_45 : decode cX3_holds 45 = .ok (.iload_n 2, 1) := by decide +kernel
theorem dX3_holds_46 : decode cX3_holds 46 = .ok (.imul, 1) := by decide +kernel
theorem dX3_holds_47 : decode cX3_holds 47 = .ok (.iconst 2, 1) := by decide +kernel
theorem dX3_holds_48 : decode cX3_holds 48 = .ok (.iadd, 1) := by decide +kernel
theorem dX3_holds_49 : decode cX3_holds 49 = .ok (.iaload, 1) := by decide +kernel
theorem dX3_holds_50 : decode cX3_holds 50 = .ok (.ishl, 1) := by decide +kernel
theorem dX3_holds_51 : decode cX3_holds 51 = .ok (.ior, 1) := by decide +kernel
theorem dX3_holds_52 : decode cX3_holds 52 = .ok (.iload_n 1, 1) := by decide +kernel
theorem dX3_holds_53 : decode cX3_holds 53 = .ok (.if_icmp .ne 5, 3) := by decide +kernel
theorem dX3_holds_56 : decode cX3_holds 56 = .ok (.iconst 1, 1) := by decide +kernel
theorem dX3_holds_57 : decode cX3_holds 57 = .ok (.ireturn, 1) := by decide +kernel
theorem dX3_holds_58 : decode cX3_holds 58 = .ok (.iinc 2 1, 3) := by decide +kernel
theorem dX3_holds_61 : decode cX3_holds 61 = .ok (.goto (-59), 3) := by decide +kernel
theorem dX3_holds_64 : decode cX3_holds 64 = .ok (.iconst 0, 1) := by decide +kernel
theorem dX3_holds_65 : decode cX3_holds 65 = .ok (.ireturn, 1) := by decide +kernel
theorem dX3_hasWithin_0 : decode cX3_hasWithin 0 = .ok (.iload_n 2, 1) := by decide +kernel
theorem dX3_hasWithin_1 : decode cX3_hasWithin 1 = .ok (.ifCond .lt 9, 3) := by decide +kernel
theorem dX3_hasWithin_4 : decode cX3_hasWithin 4 = .ok (.iload_n 2, 1) := by decide +kernel
theorem dX3_hasWithin_5 : decode cX3_hasWithin 5 = .ok (.bipush 24, 2) := by decide +kernel
theorem dX3_hasWithin_7 : decode cX3_hasWithin 7 = .ok (.if_icmp .lt 5, 3) := by decide +kernel
theorem dX3_hasWithin_10 : decode cX3_hasWithin 10 = .ok (.iconst 0, 1) := by decide +kernel
theorem dX3_hasWithin_11 : decode cX3_hasWithin 11 = .ok (.ireturn, 1) := by decide +kernel
theorem dX3_hasWithin_12 : decode cX3_hasWithin 12 = .ok (.aload_n 1, 1) := by decide +kernel
theorem dX3_hasWithin_13 : decode cX3_hasWithin 13 = .ok (.aload_n 0, 1) := by decide +kernel
theorem dX3_hasWithin_14 : decode cX3_hasWithin 14 = .ok (.getfield 11, 3) := by decide +kernel
theorem dX3_hasWithin_17 : decode cX3_hasWithin 17 = .ok (.iconst 3, 1) := by decide +kernel
theorem dX3_hasWithin_18 : decode cX3_hasWithin 18 = .ok (.iload_n 2, 1) := by decide +kernel
theorem dX3_hasWithin_19 : decode cX3_hasWithin 19 = .ok (.imul, 1) := by decide +kernel
theorem dX3_hasWithin_20 : decode cX3_hasWithin 20 = .ok (.iaload, 1) := by decide +kernel
theorem dX3_hasWithin_21 : decode cX3_hasWithin 21 = .ok (.aload_n 0, 1) := by decide +kernel
theorem dX3_hasWithin_22 : decode cX3_hasWithin 22 = .ok (.getfield 11, 3) := by decide +kernel
theorem dX3_hasWithin_25 : decode cX3_hasWithin 25 = .ok (.iconst 3, 1) := by decide +kernel
theorem dX3_hasWithin_26 : decode cX3_hasWithin 26 = .ok (.iload_n 2, 1) := by decide +kernel
theorem dX3_hasWithin_27 : decode cX3_hasWithin 27 = .ok (.imul, 1) := by decide +kernel
theorem dX3_hasWithin_28 : decode cX3_hasWithin 28 = .ok (.iconst 1, 1) := by decide +kernel
theorem dX3_hasWithin_29 : decode cX3_hasWithin 29 = .ok (.iadd, 1) := by decide +kernel
theorem dX3_hasWithin_30 : decode cX3_hasWithin 30 = .ok (.iaload, 1) := by decide +kernel
theorem dX3_hasWithin_31 : decode cX3_hasWithin 31 = .ok (.aload_n 0, 1) := by decide +kernel
theorem dX3_hasWithin_32 : decode cX3_hasWithin 32 = .ok (.getfield 11, 3) := by decide +kernel
theorem dX3_hasWithin_35 : decode cX3_hasWithin 35 = .ok (.iconst 3, 1) := by decide +kernel
theorem dX3_hasWithin_36 : decode cX3_hasWithin 36 = .ok (.iload_n 2, 1) := by decide +kernel
theorem dX3_hasWithin_37 : decode cX3_hasWithin 37 = .ok (.imul, 1) := by decide +kernel
theorem dX3_hasWithin_38 : decode cX3_hasWithin 38 = .ok (.iconst 2, 1) := by decide +kernel
theorem dX3_hasWithin_39 : decode cX3_hasWithin 39 = .ok (.iadd, 1) := by decide +kernel
theorem dX3_hasWithin_40 : decode cX3_hasWithin 40 = .ok (.iaload, 1) := by decide +kernel
theorem dX3_hasWithin_41 : decode cX3_hasWithin 41 = .ok (.iload_n 3, 1) := by decide +kernel
theorem dX3_hasWithin_42 : decode cX3_hasWithin 42 = .ok (.invokevirtual 46, 3) := by decide +kernel
theorem dX3_hasWithin_45 : decode cX3_hasWithin 45 = .ok (.ifCond .le 7, 3) := by decide +kernel
theorem dX3_hasWithin_48 : decode cX3_hasWithin 48 = .ok (.iconst 1, 1) := by decide +kernel
theorem dX3_hasWithin_49 : decode cX3_hasWithin 49 = .ok (.goto 4, 3) := by decide +kernel
theorem dX3_hasWithin_52 : decode cX3_hasWithin 52 = .ok (.iconst 0, 1) := by decide +kernel
theorem dX3_hasWithin_53 : decode cX3_hasWithin 53 = .ok (.ireturn, 1) := by decide +kernel
theorem dX3_isFilled_0 : decode cX3_isFilled 0 = .ok (.iload_n 2, 1) := by decide +kernel
theorem dX3_isFilled_1 : decode cX3_isFilled 1 = .ok (.ifCond .lt 9, 3) := by decide +kernel
theorem dX3_isFilled_4 : decode cX3_isFilled 4 = .ok (.iload_n 2, 1) := by decide +kernel
theorem dX3_isFilled_5 : decode cX3_isFilled 5 = .ok (.bipush 24, 2) := by decide +kernel
theorem dX3_isFilled_7 : decode cX3_isFilled 7 = .ok (.if_icmp .lt 5, 3) := by decide +kernel
theorem dX3_isFilled_10 : decode cX3_isFilled 10 = .ok (.iconst 0, 1) := by decide +kernel
theorem dX3_isFilled_11 : decode cX3_isFilled 11 = .ok (.ireturn, 1) := by decide +kernel
theorem dX3_isFilled_12 : decode cX3_isFilled 12 = .ok (.aload_n 0, 1) := by decide +kernel
theorem dX3_isFilled_13 : decode cX3_isFilled 13 = .ok (.getfield 11, 3) := by decide +kernel
theorem dX3_isFilled_16 : decode cX3_isFilled 16 = .ok (.iconst 3, 1) := by decide +kernel
theorem dX3_isFilled_17 : decode cX3_isFilled 17 = .ok (.iload_n 2, 1) := by decide +kernel
theorem dX3_isFilled_18 : decode cX3_isFilled 18 = .ok (.imul, 1) := by decide +kernel
theorem dX3_isFilled_19 : decode cX3_isFilled 19 = .ok (.iaload, 1) := by decide +kernel
theorem dX3_isFilled_20 : decode cX3_isFilled 20 = .ok (.istore 4, 2) := by decide +kernel
theorem dX3_isFilled_22 : decode cX3_isFilled 22 = .ok (.aload_n 0, 1) := by decide +kernel
theorem dX3_isFilled_23 : decode cX3_isFilled 23 = .ok (.getfield 11, 3) := by decide +kernel
theorem dX3_isFilled_26 : decode cX3_isFilled 26 = .ok (.iconst 3, 1) := by decide +kernel
theorem dX3_isFilled_27 : decode cX3_isFilled 27 = .ok (.iload_n 2, 1) := by decide +kernel
theorem dX3_isFilled_28 : decode cX3_isFilled 28 = .ok (.imul, 1) := by decide +kernel
theorem dX3_isFilled_29 : decode cX3_isFilled 29 = .ok (.iconst 1, 1) := by decide +kernel
theorem dX3_isFilled_30 : decode cX3_isFilled 30 = .ok (.iadd, 1) := by decide +kernel
theorem dX3_isFilled_31 : decode cX3_isFilled 31 = .ok (.iaload, 1) := by decide +kernel
theorem dX3_isFilled_32 : decode cX3_isFilled 32 = .ok (.istore 5, 2) := by decide +kernel
theorem dX3_isFilled_34 : decode cX3_isFilled 34 = .ok (.aload_n 0, 1) := by decide +kernel
theorem dX3_isFilled_35 : decode cX3_isFilled 35 = .ok (.getfield 11, 3) := by decide +kernel
theorem dX3_isFilled_38 : decode cX3_isFilled 38 = .ok (.iconst 3, 1) := by decide +kernel
theorem dX3_isFilled_39 : decode cX3_isFilled 39 = .ok (.iload_n 2, 1) := by decide +kernel
theorem dX3_isFilled_40 : decode cX3_isFilled 40 = .ok (.imul, 1) := by decide +kernel
theorem dX3_isFilled_41 : decode cX3_isFilled 41 = .ok (.iconst 2, 1) := by decide +kernel
theorem dX3_isFilled_42 : decode cX3_isFilled 42 = .ok (.iadd, 1) := by decide +kernel
theorem dX3_isFilled_43 : decode cX3_isFilled 43 = .ok (.iaload, 1) := by decide +kernel
theorem dX3_isFilled_44 : decode cX3_isFilled 44 = .ok (.istore 6, 2) := by decide +kernel
theorem dX3_isFilled_46 : decode cX3_isFilled 46 = .ok (.aload_n 1, 1) := by decide +kernel
theorem dX3_isFilled_47 : decode cX3_isFilled 47 = .ok (.iload 4, 2) := by decide +kernel
theorem dX3_isFilled_49 : decode cX3_isFilled 49 = .ok (.iload 5, 2) := by decide +kernel
theorem dX3_isFilled_51 : decode cX3_isFilled 51 = .ok (.invokevirtual 50, 3) := by decide +kernel
theorem dX3_isFilled_54 : decode cX3_isFilled 54 = .ok (.i2l, 1) := by decide +kernel
theorem dX3_isFilled_55 : decode cX3_isFilled 55 = .ok (.aload_n 1, 1) := by decide +kernel
theorem dX3_isFilled_56 : decode cX3_isFilled 56 = .ok (.iload 5, 2) := by decide +kernel
theorem dX3_isFilled_58 : decode cX3_isFilled 58 = .ok (.iload 6, 2) := by decide +kernel
theorem dX3_isFilled_60 : decode cX3_isFilled 60 = .ok (.invokevirtual 50, 3) := by decide +kernel
theorem dX3_isFilled_63 : decode cX3_isFilled 63 = .ok (.i2l, 1) := by decide +kernel
theorem dX3_isFilled_64 : decode cX3_isFilled 64 = .ok (.lmul, 1) := by decide +kernel
theorem dX3_isFilled_65 : decode cX3_isFilled 65 = .ok (.aload_n 1, 1) := by decide +kernel
theorem dX3_isFilled_66 : decode cX3_isFilled 66 = .ok (.iload 6, 2) := by decide +kernel
theorem dX3_isFilled_68 : decode cX3_isFilled 68 = .ok (.iload 4, 2) := by decide +kernel
theorem dX3_isFilled_70 : decode cX3_isFilled 70 = .ok (.invokevirtual 50, 3) := by decide +kernel
theorem dX3_isFilled_73 : decode cX3_isFilled 73 = .ok (.i2l, 1) := by decide +kernel
theorem dX3_isFilled_74 : decode cX3_isFilled 74 = .ok (.lmul, 1) := by decide +kernel
theorem dX3_isFilled_75 : decode cX3_isFilled 75 = .ok (.lstore 7, 2) := by decide +kernel
theorem dX3_isFilled_77 : decode cX3_isFilled 77 = .ok (.aload_n 1, 1) := by decide +kernel
theorem dX3_isFilled_78 : decode cX3_isFilled 78 = .ok (.iload 4, 2) := by decide +kernel
theorem dX3_isFilled_80 : decode cX3_isFilled 80 = .ok (.iload 5, 2) := by decide +kernel
theorem dX3_isFilled_82 : decode cX3_isFilled 82 = .ok (.iload 6, 2) := by decide +kernel
theorem dX3_isFilled_84 : decode cX3_isFilled 84 = .ok (.invokevirtual 54, 3) := by decide +kernel
theorem dX3_isFilled_87 : decode cX3_isFilled 87 = .ok (.i2l, 1) := by decide +kernel
theorem dX3_isFilled_88 : decode cX3_isFilled 88 = .ok (.lstore 9, 2) := by decide +kernel
theorem dX3_isFilled_90 : decode cX3_isFilled 90 = .ok (.lload 7, 2) := by decide +kernel
theorem dX3_isFilled_92 : decode cX3_isFilled 92 = .ok (.iconst 4, 1) := by decide +kernel
theorem dX3_isFilled_93 : decode cX3_isFilled 93 = .ok (.iload_n 3, 1) := by decide +kernel
theorem dX3_isFilled_94 : decode cX3_isFilled 94 = .ok (.imul, 1) := by decide +kernel
theorem dX3_isFilled_95 : decode cX3_isFilled 95 = .ok (.i2l, 1) := by decide +kernel
theorem dX3_isFilled_96 : decode cX3_isFilled 96 = .ok (.lload 9, 2) := by decide +kernel
theorem dX3_isFilled_98 : decode cX3_isFilled 98 = .ok (.lmul, 1) := by decide +kernel
theorem dX3_isFilled_99 : decode cX3_isFilled 99 = .ok (.lload 9, 2) := by decide +kernel
theorem dX3_isFilled_101 : decode cX3_isFilled 101 = .ok (.lmul, 1) := by decide +kernel
theorem dX3_isFilled_102 : decode cX3_isFilled 102 = .ok (.lcmp, 1) := by decide +kernel
theorem dX3_isFilled_103 : decode cX3_isFilled 103 = .ok (.ifCond .gt 7, 3) := by decide +kernel
theorem dX3_isFilled_106 : decode cX3_isFilled 106 = .ok (.iconst 1, 1) := by decide +kernel
theorem dX3_isFilled_107 : decode cX3_isFilled 107 = .ok (.goto 4, 3) := by decide +kernel
theorem dX3_isFilled_110 : decode cX3_isFilled 110 = .ok (.iconst 0, 1) := by decide +kernel
theorem dX3_isFilled_111 : decode cX3_isFilled 111 = .ok (.ireturn, 1) := by decide +kernel
theorem dX3_isEdge_0 : decode cX3_isEdge 0 = .ok (.aload_n 0, 1) := by decide +kernel
theorem dX3_isEdge_1 : decode cX3_isEdge 1 = .ok (.getfield 15, 3) := by decide +kernel
theorem dX3_isEdge_4 : decode cX3_isEdge 4 = .ok (.iload_n 1, 1) := by decide +kernel
theorem dX3_isEdge_5 : decode cX3_isEdge 5 = .ok (.iaload, 1) := by decide +kernel
theorem dX3_isEdge_6 : decode cX3_isEdge 6 = .ok (.iload_n 2, 1) := by decide +kernel
theorem dX3_isEdge_7 : decode cX3_isEdge 7 = .ok (.invokestatic 57, 3) := by decide +kernel
theorem dX3_isEdge_10 : decode cX3_isEdge 10 = .ok (.ireturn, 1) := by decide +kernel
theorem dX3_countEdges_0 : decode cX3_countEdges 0 = .ok (.iconst 0, 1) := by decide +kernel
theorem dX3_countEdges_1 : decode cX3_countEdges 1 = .ok (.istore_n 1, 1) := by decide +kernel
theorem dX3_countEdges_2 : decode cX3_countEdges 2 = .ok (.iconst 0, 1) := by decide +kernel
theorem dX3_countEdges_3 : decode cX3_countEdges 3 = .ok (.istore_n 2, 1) := by decide +kernel
theorem dX3_countEdges_4 : decode cX3_countEdges 4 = .ok (.iload_n 2, 1) := by decide +kernel
theorem dX3_countEdges_5 : decode cX3_countEdges 5 = .ok (.bipush 12, 2) := by decide +kernel
theorem dX3_countEdges_7 : decode cX3_countEdges 7 = .ok (.if_icmp .ge 21, 3) := by decide +kernel
theorem dX3_countEdges_10 : decode cX3_countEdges 10 = .ok (.iload_n 1, 1) := by decide +kernel
theorem dX3_countEdges_11 : decode cX3_countEdges 11 = .ok (.aload_n 0, 1) := by decide +kernel
theorem dX3_countEdges_12 : decode cX3_countEdges 12 = .ok (.getfield 15, 3) := by decide +kernel
theorem dX3_countEdges_15 : decode cX3_countEdges 15 = .ok (.iload_n 2, 1) := by decide +kernel
theorem dX3_countEdges_16 : decode cX3_countEdges 16 = .ok (.iaload, 1) := by decide +kernel
theorem dX3_countEdges_17 : decode cX3_countEdges 17 = .ok (.invokestatic 61, 3) := by decide +kernel
theorem dX3_countEdges_20 : decode cX3_countEdges 20 = .ok (.iadd, 1) := by decide +kernel
theorem dX3_countEdges_21 : decode cX3_countEdges 21 = .ok (.istore_n 1, 1) := by decide +kernel
theorem dX3_countEdges_22 : decode cX3_countEdges 22 = .ok (.iinc 2 1, 3) := by decide +kernel
theorem dX3_countEdges_25 : decode cX3_countEdges 25 = .ok (.goto (-21), 3) := by decide +kernel
theorem dX3_countEdges_28 : decode cX3_countEdges 28 = .ok (.iload_n 1, 1) := by decide +kernel
theorem dX3_countEdges_29 : decode cX3_countEdges 29 = .ok (.iconst 1, 1) := by decide +kernel
theorem dX3_countEdges_30 : decode cX3_countEdges 30 = .ok (.ishr, 1) := by decide +kernel
theorem dX3_countEdges_31 : decode cX3_countEdges 31 = .ok (.ireturn, 1) := by decide +kernel
theorem dX3_wayLength_0 : decode cX3_wayLength 0 = .ok (.iconst 1, 1) := by decide +kernel
theorem dX3_wayLength_1 : decode cX3_wayLength 1 = .ok (.iload_n 1, 1) := by decide +kernel
theorem dX3_wayLength_2 : decode cX3_wayLength 2 = .ok (.ishl, 1) := by decide +kernel
theorem dX3_wayLength_3 : decode cX3_wayLength 3 = .ok (.istore_n 3, 1) := by decide +kernel
theorem dX3_wayLength_4 : decode cX3_wayLength 4 = .ok (.iconst 0, 1) := by decide +kernel
theorem dX3_wayLength_5 : decode cX3_wayLength 5 = .ok (.istore 4, 2) := by decide +kernel
theorem dX3_wayLength_7 : decode cX3_wayLength 7 = .ok (.iload 4, 2) := by decide +kernel
theorem dX3_wayLength_9 : decode cX3_wayLength 9 = .ok (.bipush 12, 2) := by decide +kernel
theorem dX3_wayLength_11 : decode cX3_wayLength 11 = .ok (.if_icmp .ge 28, 3) := by decide +kernel
theorem dX3_wayLength_14 : decode cX3_wayLength 14 = .ok (.iload_n 3, 1) := by decide +kernel
theorem dX3_wayLength_15 : decode cX3_wayLength 15 = .ok (.iload_n 2, 1) := by decide +kernel
theorem dX3_wayLength_16 : decode cX3_wayLength 16 = .ok (.invokestatic 57, 3) := by decide +kernel
theorem dX3_wayLength_19 : decode cX3_wayLength 19 = .ok (.ifCond .eq 6, 3) := by decide +kernel
theorem dX3_wayLength_22 : decode cX3_wayLength 22 = .ok (.iload 4, 2) := by decide +kernel
theorem dX3_wayLength_24 : decode cX3_wayLength 24 = .ok (.ireturn, 1) := by decide +kernel
theorem dX3_wayLength_25 : decode cX3_wayLength 25 = .ok (.iload_n 3, 1) := by decide +kernel
theorem dX3_wayLength_26 : decode cX3_wayLength 26 = .ok (.aload_n 0, 1) := by decide +kernel
theorem dX3_wayLength_27 : decode cX3_wayLength 27 = .ok (.iload_n 3, 1) := by decide +kernel
theorem dX3_wayLength_28 : decode cX3_wayLength 28 = .ok (.invokevirtual 67, 3) := by decide +kernel
theorem dX3_wayLength_31 : decode cX3_wayLength 31 = .ok (.ior, 1) := by decide +kernel
theorem dX3_wayLength_32 : decode cX3_wayLength 32 = .ok (.istore_n 3, 1) := by decide +kernel
theorem dX3_wayLength_33 : decode cX3_wayLength 33 = .ok (.iinc 4 1, 3) := by decide +kernel
theorem dX3_wayLength_36 : decode cX3_wayLength 36 = .ok (.goto (-29), 3) := by decide +kernel
theorem dX3_wayLength_39 : decode cX3_wayLength 39 = .ok (.iconst (-1), 1) := by decide +kernel
theorem dX3_wayLength_40 : decode cX3_wayLength 40 = .ok (.ireturn, 1) := by decide +kernel
theorem dX3_allNeighboursOf_0 : decode cX3_allNeighboursOf 0 = .ok (.iconst 0, 1) := by decide +kernel
theorem dX3_allNeighboursOf_1 : decode cX3_allNeighboursOf 1 = .ok (.istore_n 2, 1) := by decide +kernel
theorem dX3_allNeighboursOf_2 : decode cX3_allNeighboursOf 2 = .ok (.iconst 0, 1) := by decide +kernel
theorem dX3_allNeighboursOf_3 : decode cX3_allNeighboursOf 3 = .ok (.istore_n 3, 1) := by decide +kernel
theorem dX3_allNeighboursOf_4 : decode cX3_allNeighboursOf 4 = .ok (.iload_n 3, 1) := by decide +kernel
theorem dX3_allNeighboursOf_5 : decode cX3_allNeighboursOf 5 = .ok (.bipush 12, 2) := by decide +kernel
theorem dX3_allNeighboursOf_7 : decode cX3_allNeighboursOf 7 = .ok (.if_icmp .ge 26, 3) := by decide +kernel
theorem dX3_allNeighboursOf_10 : decode cX3_allNeighboursOf 10 = .ok (.iload_n 1, 1) := by decide +kernel
theorem dX3_allNeighboursOf_11 : decode cX3_allNeighboursOf 11 = .ok (.iload_n 3, 1) := by decide +kernel
theorem dX3_allNeighboursOf_12 : decode cX3_allNeighboursOf 12 = .ok (.invokestatic 57, 3) := by decide +kernel
theorem dX3_allNeighboursOf_15 : decode cX3_allNeighboursOf 15 = .ok (.ifCond .eq 12, 3) := by decide +kernel
theorem dX3_allNeighboursOf_18 : decode cX3_allNeighboursOf 18 = .ok (.iload_n 2, 1) := by decide +kernel
theorem dX3_allNeighboursOf_19 : decode cX3_allNeighboursOf 19 = .ok (.aload_n 0, 1) := by decide +kernel
theorem dX3_allNeighboursOf_20 : decode cX3_allNeighboursOf 20 = .ok (.getfield 15, 3) := by decide +kernel
theorem dX3_allNeighboursOf_23 : decode cX3_allNeighboursOf 23 = .ok (.iload_n 3, 1) := by decide +kernel
theorem dX3_allNeighboursOf_24 : decode cX3_allNeighboursOf 24 = .ok (.iaload, 1) := by decide +kernel
theorem dX3_allNeighboursOf_25 : decode cX3_allNeighboursOf 25 = .ok (.ior, 1) := by decide +kernel
theorem dX3_allNeighboursOf_26 : decode cX3_allNeighboursOf 26 = .ok (.istore_n 2, 1) := by decide +kernel
theorem dX3_allNeighboursOf_27 : decode cX3_allNeighboursOf 27 = .ok (.iinc 3 1, 3) := by decide +kernel
theorem dX3_allNeighboursOf_30 : decode cX3_allNeighboursOf 30 = .ok (.goto (-26), 3) := by decide +kernel
theorem dX3_allNeighboursOf_33 : decode cX3_allNeighboursOf 33 = .ok (.iload_n 2, 1) := by decide +kernel
theorem dX3_allNeighboursOf_34 : decode cX3_allNeighboursOf 34 = .ok (.ireturn, 1) := by decide +kernel
theorem dX4_init_0 : decode cX4_init 0 = .ok (.aload_n 0, 1) := by decide +kernel
theorem dX4_init_1 : decode cX4_init 1 = .ok (.invokespecial 3, 3) := by decide +kernel
theorem dX4_init_4 : decode cX4_init 4 = .ok (.aload_n 0, 1) := by decide +kernel
theorem dX4_init_5 : decode cX4_init 5 = .ok (.new 9, 3) := by decide +kernel
theorem dX4_init_8 : decode cX4_init 8 = .ok (.dup, 1) := by decide +kernel
theorem dX4_init_9 : decode cX4_init 9 = .ok (.invokespecial 11, 3) := by decide +kernel
theorem dX4_init_12 : decode cX4_init 12 = .ok (.putfield 12, 3) := by decide +kernel
theorem dX4_init_15 : decode cX4_init 15 = .ok (.aload_n 0, 1) := by decide +kernel
theorem dX4_init_16 : decode cX4_init 16 = .ok (.bipush 12, 2) := by decide +kernel
theorem dX4_init_18 : decode cX4_init 18 = .ok (.newarray .int, 2) := by decide +kernel
theorem dX4_init_20 : decode cX4_init 20 = .ok (.putfield 18, 3) := by decide +kernel
theorem dX4_init_23 : decode cX4_init 23 = .ok (.aload_n 0, 1) := by decide +kernel
theorem dX4_init_24 : decode cX4_init 24 = .ok (.iconst (-1), 1) := by decide +kernel
theorem dX4_init_25 : decode cX4_init 25 = .ok (.putfield 22, 3) := by decide +kernel
theorem dX4_init_28 : decode cX4_init 28 = .ok (.return_, 1) := by decide +kernel
theorem dX4_hasEdge_0 : decode cX4_hasEdge 0 = .ok (.iload_n 2, 1) := by decide +kernel
theorem dX4_hasEdge_1 : decode cX4_hasEdge 1 = .ok (.bipush 116, 2) := by decide +kernel
theorem dX4_hasEdge_3 : decode cX4_hasEdge 3 = .ok (.if_icmp .ne 15, 3) := by decide +kernel
theorem dX4_hasEdge_6 : decode cX4_hasEdge 6 = .ok (.aload_n 0, 1) := by decide +kernel
theorem dX4_hasEdge_7 : decode cX4_hasEdge 7 = .ok (.getfield 18, 3) := by decide +kernel
theorem dX4_hasEdge_10 : decode cX4_hasEdge 10 = .ok (.iload_n 3, 1) := by decide +kernel
theorem dX4_hasEdge_11 : decode cX4_hasEdge 11 = .ok (.iaload, 1) := by decide +kernel
theorem dX4_hasEdge_12 : decode cX4_hasEdge 12 = .ok (.iload 4, 2) := by decide +kernel
theorem dX4_hasEdge_14 : decode cX4_hasEdge 14 = .ok (.invokestatic 26, 3) := by decide +kernel
theorem dX4_hasEdge_17 : decode cX4_hasEdge 17 = .ok (.ireturn, 1) := by decide +kernel
theorem dX4_hasEdge_18 : decode cX4_hasEdge 18 = .ok (.iload_n 2, 1) := by decide +kernel
theorem dX4_hasEdge_19 : decode cX4_hasEdge 19 = .ok (.bipush 110, 2) := by decide +kernel
theorem dX4_hasEdge_21 : decode cX4_hasEdge 21 = .ok (.if_icmp .ne 29, 3) := by decide +kernel
theorem dX4_hasEdge_24 : decode cX4_hasEdge 24 = .ok (.aload_n 1, 1) := by decide +kernel
theorem dX4_hasEdge_25 : decode cX4_hasEdge 25 = .ok (.iload_n 3, 1) := by decide +kernel
theorem dX4_hasEdge_26 : decode cX4_hasEdge 26 = .ok (.invokestatic 30, 3) := by decide +kernel
theorem dX4_hasEdge_29 : decode cX4_hasEdge 29 = .ok (.iload 4, 2) := by decide +kernel
theorem dX4_hasEdge_31 : decode cX4_hasEdge 31 = .ok (.if_icmp .eq 13, 3) := by decide +kernel
theorem dX4_hasEdge_34 : decode cX4_hasEdge 34 = .ok (.aload_n 1, 1) := by decide +kernel
theorem dX4_hasEdge_35 : decode cX4_hasEdge 35 = .ok (.iload 4, 2) := by decide +kernel
theorem dX4_hasEdge_37 : decode cX4_hasEdge 37 = .ok (.invokestatic 30, 3) := by decide +kernel
theorem dX4_hasEdge_40 : decode cX4_hasEdge 40 = .ok (.iload_n 3, 1) := by decide +kernel
theorem dX4_hasEdge_41 : decode cX4_hasEdge 41 = .ok (.if_icmp .ne 7, 3) := by decide +kernel
theorem dX4_hasEdge_44 : decode cX4_hasEdge 44 = .ok (.iconst 1, 1) := by decide +kernel
theorem dX4_hasEdge_45 : decode cX4_hasEdge 45 = .ok (.goto 4, 3) := by decide +kernel
theorem dX4_hasEdge_48 : decode cX4_hasEdge 48 = .ok (.iconst 0, 1) := by decide +kernel
theorem dX4_hasEdge_49 : decode cX4_hasEdge 49 = .ok (.ireturn, 1) := by decide +kernel
theorem dX4_hasEdge_50 : decode cX4_hasEdge 50 = .ok (.iconst 0, 1) := by decide +kernel
theorem dX4_hasEdge_51 : decode cX4_hasEdge 51 = .ok (.istore 5, 2) := by decide +kernel
theorem dX4_hasEdge_53 : decode cX4_hasEdge 53 = .ok (.iload 5, 2) := by decide +kernel
theorem dX4_hasEdge_55 : decode cX4_hasEdge 55 = .ok (.bipush 12, 2) := by decide +kernel
theorem dX4_hasEdge_57 : decode cX4_hasEdge 57 = .ok (.if_icmp .ge 46, 3) := by decide +kernel
theorem dX4_hasEdge_60 : decode cX4_hasEdge 60 = .ok (.aload_n 1, 1) := by decide +kernel
theorem dX4_hasEdge_61 : decode cX4_hasEdge 61 = .ok (.iload 5, 2) := by decide +kernel
theorem dX4_hasEdge_63 : decode cX4_hasEdge 63 = .ok (.invokevirtual 34, 3) := by decide +kernel
theorem dX4_hasEdge_66 : decode cX4_hasEdge 66 = .ok (.ifCond .eq 31, 3) := by decide +kernel
theorem dX4_hasEdge_69 : decode cX4_hasEdge 69 = .ok (.iload 5, 2) := by decide +kernel
theorem dX4_hasEdge_71 : decode cX4_hasEdge 71 = .ok (.iload_n 3, 1) := by decide +kernel
theorem dX4_hasEdge_72 : decode cX4_hasEdge 72 = .ok (.if_icmp .eq 25, 3) := by decide +kernel
theorem dX4_hasEdge_75 : decode cX4_hasEdge 75 = .ok (.iload 5, 2) := by decide +kernel
theorem dX4_hasEdge_77 : decode cX4_hasEdge 77 = .ok (.iload 4, 2) := by decide +kernel
theorem dX4_hasEdge_79 : decode cX4_hasEdge 79 = .ok (.if_icmp .eq 18, 3) := by decide +kernel
theorem dX4_hasEdge_82 : decode cX4_hasEdge 82 = .ok (.aload_n 1, 1) := by decide +kernel
theorem dX4_hasEdge_83 : decode cX4_hasEdge 83 = .ok (.iload_n 2, 1) := by decide +kernel
theorem dX4_hasEdge_84 : decode cX4_hasEdge 84 = .ok (.iload_n 3, 1) := by decide +kernel
theorem dX4_hasEdge_85 : decode cX4_hasEdge 85 = .ok (.iload 4, 2) := by decide +kernel
theorem dX4_hasEdge_87 : decode cX4_hasEdge 87 = .ok (.iload 5, 2) := by decide +kernel
theorem dX4_hasEdge_89 : decode cX4_hasEdge 89 = .ok (.invokestatic 40, 3) := by decide +kernel
theorem dX4_hasEdge_92 : decode cX4_hasEdge 92 = .ok (.ifCond .eq 5, 3) := by decide +kernel
theorem dX4_hasEdge_95 : decode cX4_hasEdge 95 = .ok (.iconst 0, 1) := by decide +kernel
theorem dX4_hasEdge_96 : decode cX4_hasEdge 96 = .ok (.ireturn, 1) := by decide +kernel
theorem dX4_hasEdge_97 : decode cX4_hasEdge 97 = .ok (.iinc 5 1, 3) := by decide +kernel
theorem dX4_hasEdge_100 : decode cX4_hasEdge 100 = .ok (.goto (-47), 3) := by decide +kernel
theorem dX4_hasEdge_103 : decode cX4_hasEdge 103 = .ok (.iconst 1, 1) := by decide +kernel
theorem dX4_hasEdge_104 : decode cX4_hasEdge 104 = .ok (.ireturn, 1) := by decide +kernel
theorem dX4_isBetween_0 : decode cX4_isBetween 0 = .ok (.aload_n 0, 1) := by decide +kernel
theorem dX4_isBetween_1 : decode cX4_isBetween 1 = .ok (.iload_n 2, 1) := by decide +kernel
theorem dX4_isBetween_2 : decode cX4_isBetween 2 = .ok (.iload_n 3, 1) := by decide +kernel
theorem dX4_isBetween_3 : decode cX4_isBetween 3 = .ok (.invokevirtual 44, 3) := by decide +kernel
theorem dX4_isBetween_6 : decode cX4_isBetween 6 = .ok (.istore 5, 2) := by decide +kernel
theorem dX4_isBetween_8 : decode cX4_isBetween 8 = .ok (.aload_n 0, 1) := by decide +kernel
theorem dX4_isBetween_9 : decode cX4_isBetween 9 = .ok (.iload_n 2, 1) := by decide +kernel
theorem dX4_isBetween_10 : decode cX4_isBetween 10 = .ok (.iload 4, 2) := by decide +kernel
theorem dX4_isBetween_12 : decode cX4_isBetween 12 = .ok (.invokevirtual 44, 3) := by decide +kernel
theorem dX4_isBetween_15 : decode cX4_isBetween 15 = .ok (.istore 6, 2) := by decide +kernel
theorem dX4_isBetween_17 : decode cX4_isBetween 17 = .ok (.aload_n 0, 1) := by decide +kernel
theorem dX4_isBetween_18 : decode cX4_isBetween 18 = .ok (.iload_n 3, 1) := by decide +kernel
theorem dX4_isBetween_19 : decode cX4_isBetween 19 = .ok (.iload 4, 2) := by decide +kernel
theorem dX4_isBetween_21 : decode cX4_isBetween 21 = .ok (.invokevirtual 44, 3) := by decide +kernel
theorem dX4_isBetween_24 : decode cX4_isBetween 24 = .ok (.istore 7, 2) := by decide +kernel
theorem dX4_isBetween_26 : decode cX4_isBetween 26 = .ok (.iload_n 1, 1) := by decide +kernel
theorem dX4_isBetween_27 : decode cX4_isBetween 27 = .ok (.bipush 103, 2) := by decide +kernel
theorem dX4_isBetween_29 : decode cX4_isBetween 29 = .ok (.if_icmp .ne 19, 3) := by decide +kernel
theorem dX4_isBetween_32 : decode cX4_isBetween 32 = .ok (.iload 6, 2) := by decide +kernel
theorem dX4_isBetween_34 : decode cX4_isBetween 34 = .ok (.iload 7, 2) := by decide +kernel
theorem dX4_isBetween_36 : decode cX4_isBetween 36 = .ok (.iadd, 1) := by decide +kernel
theorem dX4_isBetween_37 : decode cX4_isBetween 37 = .ok (.iload 5, 2) := by decide +kernel
theorem dX4_isBetween_39 : decode cX4_isBetween 39 = .ok (.if_icmp .ge 7, 3) := by decide +kernel
theorem dX4_isBetween_42 : decode cX4_isBetween 42 = .ok (.iconst 1, 1) := by decide +kernel
theorem dX4_isBetween_43 : decode cX4_isBetween 43 = .ok (.goto 4, 3) := by decide +kernel
theorem dX4_isBetween_46 : decode cX4_isBetween 46 = .ok (.iconst 0, 1) := by decide +kernel
theorem dX4_isBetween_47 : decode cX4_isBetween 47 = .ok (.ireturn, 1) := by decide +kernel
theorem dX4_isBetween_48 : decode cX4_isBetween 48 = .ok (.iload 6, 2) := by decide +kernel
theorem dX4_isBetween_50 : decode cX4_isBetween 50 = .ok (.iload 5, 2) := by decide +kernel
theorem dX4_isBetween_52 : decode cX4_isBetween 52 = .ok (.if_icmp .ge 14, 3) := by decide +kernel
theorem dX4_isBetween_55 : decode cX4_isBetween 55 = .ok (.iload 7, 2) := by decide +kernel
theorem dX4_isBetween_57 : decode cX4_isBetween 57 = .ok (.iload 5, 2) := by decide +kernel
theorem dX4_isBetween_59 : decode cX4_isBetween 59 = .ok (.if_icmp .ge 7, 3) := by decide +kernel
theorem dX4_isBetween_62 : decode cX4_isBetween 62 = .ok (.iconst 1, 1) := by decide +kernel
theorem dX4_isBetween_63 : decode cX4_isBetween 63 = .ok (.goto 4, 3) := by decide +kernel
theorem dX4_isBetween_66 : decode cX4_isBetween 66 = .ok (.iconst 0, 1) := by decide +kernel
theorem dX4_isBetween_67 : decode cX4_isBetween 67 = .ok (.ireturn, 1) := by decide +kernel
theorem dX4_nearestOther_0 : decode cX4_nearestOther 0 = .ok (.iconst (-1), 1) := by decide +kernel
theorem dX4_nearestOther_1 : decode cX4_nearestOther 1 = .ok (.istore_n 2, 1) := by decide +kernel
theorem dX4_nearestOther_2 : decode cX4_nearestOther 2 = .ok (.iconst 0, 1) := by decide +kernel
theorem dX4_nearestOther_3 : decode cX4_nearestOther 3 = .ok (.istore_n 3, 1) := by decide +kernel
theorem dX4_nearestOther_4 : decode cX4_nearestOther 4 = .ok (.iconst 0, 1) := by decide +kernel
theorem dX4_nearestOther_5 : decode cX4_nearestOther 5 = .ok (.istore 4, 2) := by decide +kernel
theorem dX4_nearestOther_7 : decode cX4_nearestOther 7 = .ok (.iload 4, 2) := by decide +kernel
theorem dX4_nearestOther_9 : decode cX4_nearestOther 9 = .ok (.bipush 12, 2) := by decide +kernel
theorem dX4_nearestOther_11 : decode cX4_nearestOther 11 = .ok (.if_icmp .ge 50, 3) := by decide +kernel
theorem dX4_nearestOther_14 : decode cX4_nearestOther 14 = .ok (.aload_n 0, 1) := by decide +kernel
theorem dX4_nearestOther_15 : decode cX4_nearestOther 15 = .ok (.iload 4, 2) := by decide +kernel
theorem dX4_nearestOther_17 : decode cX4_nearestOther 17 = .ok (.invokevirtual 34, 3) := by decide +kernel
theorem dX4_nearestOther_20 : decode cX4_nearestOther 20 = .ok (.ifCond .eq 35, 3) := by decide +kernel
theorem dX4_nearestOther_23 : decode cX4_nearestOther 23 = .ok (.iload 4, 2) := by decide +kernel
theorem dX4_nearestOther_25 : decode cX4_nearestOther 25 = .ok (.iload_n 1, 1) := by decide +kernel
theorem dX4_nearestOther_26 : decode cX4_nearestOther 26 = .ok (.if_icmp .eq 29, 3) := by decide +kernel
theorem dX4_nearestOther_29 : decode cX4_nearestOther 29 = .ok (.aload_n 0, 1) := by decide +kernel
theorem dX4_nearestOther_30 : decode cX4_nearestOther 30 = .ok (.iload_n 1, 1) := by decide +kernel
theorem dX4_nearestOther_31 : decode cX4_nearestOther 31 = .ok (.iload 4, 2) := by decide +kernel
theorem dX4_nearestOther_33 : decode cX4_nearestOther 33 = .ok (.invokevirtual 44, 3) := by decide +kernel
theorem dX4_nearestOther_36 : decode cX4_nearestOther 36 = .ok (.istore 5, 2) := by decide +kernel
theorem dX4_nearestOther_38 : decode cX4_nearestOther 38 = .ok (.iload_n 2, 1) := by decide +kernel
theorem dX4_nearestOther_39 : decode cX4_nearestOther 39 = .ok (.iconst (-1), 1) := by decide +kernel
theorem dX4_nearestOther_40 : decode cX4_nearestOther 40 = .ok (.if_icmp .eq 9, 3) := by decide +kernel
theorem dX4_nearestOther_43 : decode cX4_nearestOther 43 = .ok (.iload 5, 2) := by decide +kernel
theorem dX4_nearestOther_45 : decode cX4_nearestOther 45 = .ok (.iload_n 3, 1) := by decide +kernel
theorem dX4_nearestOther_46 : decode cX4_nearestOther 46 = .ok (.if_icmp .ge 9, 3) := by decide +kernel
theorem dX4_nearestOther_49 : decode cX4_nearestOther 49 = .ok (.iload 4, 2) := by decide +kernel
theorem dX4_nearestOther_51 : decode cX4_nearestOther 51 = .ok (.istore_n 2, 1) := by decide +kernel
theorem dX4_nearestOther_52 : decode cX4_nearestOther 52 = .ok (.iload 5, 2) := by decide +kernel
theorem dX4_nearestOther_54 : decode cX4_nearestOther 54 = .ok (.istore_n 3, 1) := by decide +kernel
theorem dX4_nearestOther_55 : decode cX4_nearestOther 55 = .ok (.iinc 4 1, 3) := by decide +kernel
theorem dX4_nearestOther_58 : decode cX4_nearestOther 58 = .ok (.goto (-51), 3) := by decide +kernel
theorem dX4_nearestOther_61 : decode cX4_nearestOther 61 = .ok (.iload_n 2, 1) := by decide +kernel
theorem dX4_nearestOther_62 : decode cX4_nearestOther 62 = .ok (.ireturn, 1) := by decide +kernel
theorem dX4_countEdges_0 : decode cX4_countEdges 0 = .ok (.iconst 0, 1) := by decide +kernel
theorem dX4_countEdges_1 : decode cX4_countEdges 1 = .ok (.istore_n 3, 1) := by decide +kernel
theorem dX4_countEdges_2 : decode cX4_countEdges 2 = .ok (.iconst 0, 1) := by decide +kernel
theorem dX4_countEdges_3 : decode cX4_countEdges 3 = .ok (.istore 4, 2) := by decide +kernel
theorem dX4_countEdges_5 : decode cX4_countEdges 5 = .ok (.iload 4, 2) := by decide +kernel
theorem dX4_countEdges_7 : decode cX4_countEdges 7 = .ok (.bipush 12, 2) := by decide +kernel
theorem dX4_countEdges_9 : decode cX4_countEdges 9 = .ok (.if_icmp .ge 62, 3) := by decide +kernel
theorem dX4_countEdges_12 : decode cX4_countEdges 12 = .ok (.iload 4, 2) := by decide +kernel
theorem dX4_countEdges_14 : decode cX4_countEdges 14 = .ok (.iconst 1, 1) := by decide +kernel
theorem dX4_countEdges_15 : decode cX4_countEdges 15 = .ok (.iadd, 1) := by decide +kernel
theorem dX4_countEdges_16 : decode cX4_countEdges 16 = .ok (.istore 5, 2) := by decide +kernel
theorem dX4_countEdges_18 : decode cX4_countEdges 18 = .ok (.iload 5, 2) := by decide +kernel
theorem dX4_countEdges_20 : decode cX4_countEdges 20 = .ok (.bipush 12, 2) := by decide +kernel
theorem dX4_countEdges_22 : decode cX4_countEdges 22 = .ok (.if_icmp .ge 43, 3) := by decide +kernel
theorem dX4_countEdges_25 : decode cX4_countEdges 25 = .ok (.aload_n 1, 1) := by decide +kernel
theorem dX4_countEdges_26 : decode cX4_countEdges 26 = .ok (.iload 4, 2) := by decide +kernel
theorem dX4_countEdges_28 : decode cX4_countEdges 28 = .ok (.invokevirtual 34, 3) := by decide +kernel
theorem dX4_countEdges_31 : decode cX4_countEdges 31 = .ok (.ifCond .eq 28, 3) := by decide +kernel
theorem dX4_countEdges_34 : decode cX4_countEdges 34 = .ok (.aload_n 1, 1) := by decide +kernel
theorem dX4_countEdges_35 : decode cX4_countEdges 35 = .ok (.iload 5, 2) := by decide +kernel
theorem dX4_countEdges_37 : decode cX4_countEdges 37 = .ok (.invokevirtual 34, 3) := by decide +kernel
theorem dX4_countEdges_40 : decode cX4_countEdges 40 = .ok (.ifCond .eq 19, 3) := by decide +kernel
theorem dX4_countEdges_43 : decode cX4_countEdges 43 = .ok (.aload_n 0, 1) := by decide +kernel
theorem dX4_countEdges_44 : decode cX4_countEdges 44 = .ok (.aload_n 1, 1) := by decide +kernel
theorem dX4_countEdges_45 : decode cX4_countEdges 45 = .ok (.iload_n 2, 1) := by decide +kernel
theorem dX4_countEdges_46 : decode cX4_countEdges 46 = .ok (.iload 4, 2) := by decide +kernel
theorem dX4_countEdges_48 : decode cX4_countEdges 48 = .ok (.iload 5, 2) := by decide +kernel
theorem dX4_countEdges_50 : decode cX4_countEdges 50 = .ok (.invokevirtual 48, 3) := by decide +kernel
theorem dX4_countEdges_53 : decode cX4_countEdges 53 = .ok (.ifCond .eq 6, 3) := by decide +kernel
theorem dX4_countEdges_56 : decode cX4_countEdges 56 = .ok (.iinc 3 1, 3) := by decide +kernel
theorem dX4_countEdges_59 : decode cX4_countEdges 59 = .ok (.iinc 5 1, 3) := by decide +kernel
theorem dX4_countEdges_62 : decode cX4_countEdges 62 = .ok (.goto (-44), 3) := by decide +kernel
theorem dX4_countEdges_65 : decode cX4_countEdges 65 = .ok (.iinc 4 1, 3) := by decide +kernel
theorem dX4_countEdges_68 : decode cX4_countEdges 68 = .ok (.goto (-63), 3) := by decide +kernel
theorem dX4_countEdges_71 : decode cX4_countEdges 71 = .ok (.iload_n 3, 1) := by decide +kernel
theorem dX4_countEdges_72 : decode cX4_countEdges 72 = .ok (.ireturn, 1) := by decide +kernel
theorem dX4_growTree_0 : decode cX4_growTree 0 = .ok (.aload_n 0, 1) := by decide +kernel
theorem dX4_growTree_1 : decode cX4_growTree 1 = .ok (.getfield 22, 3) := by decide +kernel
theorem dX4_growTree_4 : decode cX4_growTree 4 = .ok (.aload_n 1, 1) := by decide +kernel
theorem dX4_growTree_5 : decode cX4_growTree 5 = .ok (.getfield 52, 3) := by decide +kernel
theorem dX4_growTree_8 : decode cX4_growTree 8 = .ok (.if_icmp .ne 4, 3) := by decide +kernel
theorem dX4_growTree_11 : decode cX4_growTree 11 = .ok (.return_, 1) := by decide +kernel
theorem dX4_growTree_12 : decode cX4_growTree 12 = .ok (.aload_n 0, 1) := by decide +kernel
theorem dX4_growTree_13 : decode cX4_growTree 13 = .ok (.aload_n 1, 1) := by decide +kernel
theorem dX4_growTree_14 : decode cX4_growTree 14 = .ok (.getfield 52, 3) := by decide +kernel
theorem dX4_growTree_17 : decode cX4_growTree 17 = .ok (.putfield 22, 3) := by decide +kernel
theorem dX4_growTree_20 : decode cX4_growTree 20 = .ok (.aload_n 0, 1) := by decide +kernel
theorem dX4_growTree_21 : decode cX4_growTree 21 = .ok (.getfield 12, 3) := by decide +kernel
theorem dX4_growTree_24 : decode cX4_growTree 24 = .ok (.aload_n 1, 1) := by decide +kernel
theorem dX4_growTree_25 : decode cX4_growTree 25 = .ok (.invokevirtual 55, 3) := by decide +kernel
theorem dX4_growTree_28 : decode cX4_growTree 28 = .ok (.aload_n 0, 1) := by decide +kernel
theorem dX4_growTree_29 : decode cX4_growTree 29 = .ok (.iconst 0, 1) := by decide +kernel
theorem dX4_growTree_30 : decode cX4_growTree 30 = .ok (.putfield 59, 3) := by decide +kernel
theorem dX4_growTree_33 : decode cX4_growTree 33 = .ok (.iconst 0, 1) := by decide +kernel
theorem dX4_growTree_34 : decode cX4_growTree 34 = .ok (.istore_n 2, 1) := by decide +kernel
theorem dX4_growTree_35 : decode cX4_growTree 35 = .ok (.iload_n 2, 1) := by decide +kernel
theorem dX4_growTree_36 : decode cX4_growTree 36 = .ok (.bipush 12, 2) := by decide +kernel
theorem dX4_growTree_38 : decode cX4_growTree 38 = .ok (.if_icmp .ge 16, 3) := by decide +kernel
theorem dX4_growTree_41 : decode cX4_growTree 41 = .ok (.aload_n 0, 1) := by decide +kernel
theorem dX4_growTree_42 : decode cX4_growTree 42 = .ok (.getfield 18, 3) := by decide +kernel
theorem dX4_growTree_45 : decode cX4_growTree 45 = .ok (.iload_n 2, 1) := by decide +kernel
theorem dX4_growTree_46 : decode cX4_growTree 46 = .ok (.iconst 0, 1) := by decide +kernel
theorem dX4_growTree_47 : decode cX4_growTree 47 = .ok (.iastore, 1) := by decide +kernel
theorem dX4_growTree_48 : decode cX4_growTree 48 = .ok (.iinc 2 1, 3) := by decide +kernel
theorem dX4_growTree_51 : decode cX4_growTree 51 = .ok (.goto (-16), 3) := by decide +kernel
theorem dX4_growTree_54 : decode cX4_growTree 54 = .ok (.aload_n 1, 1) := by decide +kernel
theorem dX4_growTree_55 : decode cX4_growTree 55 = .ok (.invokevirtual 62, 3) := by decide +kernel
theorem dX4_growTree_58 : decode cX4_growTree 58 = .ok (.istore_n 2, 1) := by decide +kernel
theorem dX4_growTree_59 : decode cX4_growTree 59 = .ok (.iload_n 2, 1) := by decide +kernel
theorem dX4_growTree_60 : decode cX4_growTree 60 = .ok (.iconst 1, 1) := by decide +kernel
theorem dX4_growTree_61 : decode cX4_growTree 61 = .ok (.if_icmp .le 14, 3) := by decide +kernel
theorem dX4_growTree_64 : decode cX4_growTree 64 = .ok (.aload_n 0, 1) := by decide +kernel
theorem dX4_growTree_65 : decode cX4_growTree 65 = .ok (.aload_n 1, 1) := by decide +kernel
theorem dX4_growTree_66 : decode cX4_growTree 66 = .ok (.invokevirtual 66, 3) := by decide +kernel
theorem dX4_growTree_69 : decode cX4_growTree 69 = .ok (.iinc 2 (-1), 3) := by decide +kernel
theorem dX4_growTree_72 : decode cX4_growTree 72 = .ok (.goto (-13), 3) := by decide +kernel
theorem dX4_growTree_75 : decode cX4_growTree 75 = .ok (.return_, 1) := by decide +kernel
theorem dX4_takeNextEdge_0 : decode cX4_takeNextEdge 0 = .ok (.iconst (-1), 1) := by decide +kernel
theorem dX4_takeNextEdge_1 : decode cX4_takeNextEdge 1 = .ok (.istore_n 2, 1) := by decide +kernel
theorem dX4_takeNextEdge_2 : decode cX4_takeNextEdge 2 = .ok (.iconst (-1), 1) := by decide +kernel
theorem dX4_takeNextEdge_3 : decode cX4_takeNextEdge 3 = .ok (.istore_n 3, 1) := by decide +kernel
theorem dX4_takeNextEdge_4 : decode cX4_takeNextEdge 4 = .ok (.iconst 0, 1) := by decide +kernel
theorem dX4_takeNextEdge_5 : decode cX4_takeNextEdge 5 = .ok (.istore 4, 2) := by decide +kernel
theorem dX4_takeNextEdge_7 : decode cX4_takeNextEdge 7 = .ok (.iconst 0, 1) := by decide +kernel
theorem dX4_takeNextEdge_8 : decode cX4_takeNextEdge 8 = .ok (.istore 5, 2) := by decide +kernel
theorem dX4_takeNextEdge_10 : decode cX4_takeNextEdge 10 = .ok (.iload 5, 2) := by decide +kernel
theorem dX4_takeNextEdge_12 : decode cX4_takeNextEdge 12 = .ok (.bipush 12, 2) := by decide +kernel
theorem dX4_takeNextEdge_14 : decode cX4_takeNextEdge 14 = .ok (.if_icmp .ge 92, 3) := by decide +kernel
theorem dX4_takeNextEdge_17 : decode cX4_takeNextEdge 17 = .ok (.iload 5, 2) := by decide +kernel
theorem dX4_takeNextEdge_19 : decode cX4_takeNextEdge 19 = .ok (.iconst 1, 1) := by decide +kernel
theorem dX4_takeNextEdge_20 : decode cX4_takeNextEdge 20 = .ok (.iadd, 1) := by decide +kernel
theorem dX4_takeNextEdge_21 : decode cX4_takeNextEdge 21 = .ok (.istore 6, 2) := by decide +kernel
theorem dX4_takeNextEdge_23 : decode cX4_takeNextEdge 23 = .ok (.iload 6, 2) := by decide +kernel
theorem dX4_takeNextEdge_25 : decode cX4_takeNextEdge 25 = .ok (.bipush 12, 2) := by decide +kernel
theorem dX4_takeNextEdge_27 : decode cX4_takeNextEdge 27 = .ok (.if_icmp .ge 73, 3) := by decide +kernel
theorem dX4_takeNextEdge_30 : decode cX4_takeNextEdge 30 = .ok (.aload_n 1, 1) := by decide +kernel
theorem dX4_takeNextEdge_31 : decode cX4_takeNextEdge 31 = .ok (.iload 5, 2) := by decide +kernel
theorem dX4_takeNextEdge_33 : decode cX4_takeNextEdge 33 = .ok (.invokevirtual 34, 3) := by decide +kernel
theorem dX4_takeNextEdge_36 : decode cX4_takeNextEdge 36 = .ok (.ifCond .eq 58, 3) := by decide +kernel
theorem dX4_takeNextEdge_39 : decode cX4_takeNextEdge 39 = .ok (.aload_n 1, 1) := by decide +kernel
theorem dX4_takeNextEdge_40 : decode cX4_takeNextEdge 40 = .ok (.iload 6, 2) := by decide +kernel
theorem dX4_takeNextEdge_42 : decode cX4_takeNextEdge 42 = .ok (.invokevirtual 34, 3) := by decide +kernel
theorem dX4_takeNextEdge_45 : decode cX4_takeNextEdge 45 = .ok (.ifCond .eq 49, 3) := by decide +kernel
theorem dX4_takeNextEdge_48 : decode cX4_takeNextEdge 48 = .ok (.aload_n 0, 1) := by decide +kernel
theorem dX4_takeNextEdge_49 : decode cX4_takeNextEdge 49 = .ok (.getfield 12, 3) := by decide +kernel
theorem dX4_takeNextEdge_52 : decode cX4_takeNextEdge 52 = .ok (.iload 5, 2) := by decide +kernel
theorem dX4_takeNextEdge_54 : decode cX4_takeNextEdge 54 = .ok (.iload 6, 2) := by decide +kernel
theorem dX4_takeNextEdge_56 : decode cX4_takeNextEdge 56 = .ok (.invokevirtual 69, 3) := by decide +kernel
theorem dX4_takeNextEdge_59 : decode cX4_takeNextEdge 59 = .ok (.ifCond .eq 35, 3) := by decide +kernel
theorem dX4_takeNextEdge_62 : decode cX4_takeNextEdge 62 = .ok (.aload_n 1, 1) := by decide +kernel
theorem dX4_takeNextEdge_63 : decode cX4_takeNextEdge 63 = .ok (.iload 5, 2) := by decide +kernel
theorem dX4_takeNextEdge_65 : decode cX4_takeNextEdge 65 = .ok (.iload 6, 2) := by decide +kernel
theorem dX4_takeNextEdge_67 : decode cX4_takeNextEdge 67 = .ok (.invokevirtual 44, 3) := by decide +kernel
theorem dX4_takeNextEdge_70 : decode cX4_takeNextEdge 70 = .ok (.istore 7, 2) := by decide +kernel
theorem dX4_takeNextEdge_72 : decode cX4_takeNextEdge 72 = .ok (.iload_n 2, 1) := by decide +kernel
theorem dX4_takeNextEdge_73 : decode cX4_takeNextEdge 73 = .ok (.iconst (-1), 1) := by decide +kernel
theorem dX4_takeNextEdge_74 : decode cX4_takeNextEdge 74 = .ok (.if_icmp .eq 10, 3) := by decide +kernel
theorem dX4_takeNextEdge_77 : decode cX4_takeNextEdge 77 = .ok (.iload 7, 2) := by decide +kernel
theorem dX4_takeNextEdge_79 : decode cX4_takeNextEdge 79 = .ok (.iload 4, 2) := by decide +kernel
theorem dX4_takeNextEdge_81 : decode cX4_takeNextEdge 81 = .ok (.if_icmp .ge 13, 3) := by decide +kernel
theorem dX4_takeNextEdge_84 : decode cX4_takeNextEdge 84 = .ok (.iload 5, 2) := by decide +kernel
theorem dX4_takeNextEdge_86 : decode cX4_takeNextEdge 86 = .ok (.istore_n 2, 1) := by decide +kernel
theorem dX4_takeNextEdge_87 : decode cX4_takeNextEdge 87 = .ok (.iload 6, 2) := by decide +kernel
theorem dX4_takeNextEdge_89 : decode cX4_takeNextEdge 89 = .ok (.istore_n 3, 1) := by decide +kernel
theorem dX4_takeNextEdge_90 : decode cX4_takeNextEdge 90 = .ok (.iload 7, 2) := by decide +kernel
theorem dX4_takeNextEdge_92 : decode cX4_takeNextEdge 92 = .ok (.istore 4, 2) := by decide +kernel
theorem dX4_takeNextEdge_94 : decode cX4_takeNextEdge 94 = .ok (.iinc 6 1, 3) := by decide +kernel
theorem dX4_takeNextEdge_97 : decode cX4_takeNextEdge 97 = .ok (.goto (-74), 3) := by decide +kernel
theorem dX4_takeNextEdge_100 : decode cX4_takeNextEdge 100 = .ok (.iinc 5 1, 3) := by decide +kernel
theorem dX4_takeNextEdge_103 : decode cX4_takeNextEdge 103 = .ok (.goto (-93), 3) := by decide +kernel
theorem dX4_takeNextEdge_106 : decode cX4_takeNextEdge 106 = .ok (.iload_n 2, 1) := by decide +kernel
theorem dX4_takeNextEdge_107 : decode cX4_takeNextEdge 107 = .ok (.iconst (-1), 1) := by decide +kernel
theorem dX4_takeNextEdge_108 : decode cX4_takeNextEdge 108 = .ok (.if_icmp .eq 52, 3) := by decide +kernel
theorem dX4_takeNextEdge_111 : decode cX4_takeNextEdge 111 = .ok (.iload_n 3, 1) := by decide +kernel
theorem dX4_takeNextEdge_112 : decode cX4_takeNextEdge 112 = .ok (.iconst (-1), 1) := by decide +kernel
theorem dX4_takeNextEdge_113 : decode cX4_takeNextEdge 113 = .ok (.if_icmp .eq 47, 3) := by decide +kernel
theorem dX4_takeNextEdge_116 : decode cX4_takeNextEdge 116 = .ok (.aload_n 0, 1) := by decide +kernel
theorem dX4_takeNextEdge_117 : decode cX4_takeNextEdge 117 = .ok (.getfield 12, 3) := by decide +kernel
theorem dX4_takeNextEdge_120 : decode cX4_takeNextEdge 120 = .ok (.iload_n 2, 1) := by decide +kernel
theorem dX4_takeNextEdge_121 : decode cX4_takeNextEdge 121 = .ok (.iload_n 3, 1) := by decide +kernel
theorem dX4_takeNextEdge_122 : decode cX4_takeNextEdge 122 = .ok (.invokevirtual 72, 3) := by decide +kernel
theorem dX4_takeNextEdge_125 : decode cX4_takeNextEdge 125 = .ok (.aload_n 0, 1) := by decide +kernel
theorem dX4_takeNextEdge_126 : decode cX4_takeNextEdge 126 = .ok (.getfield 18, 3) := by decide +kernel
theorem dX4_takeNextEdge_129 : decode cX4_takeNextEdge 129 = .ok (.iload_n 2, 1) := by decide +kernel
theorem dX4_takeNextEdge_130 : decode cX4_takeNextEdge 130 = .ok (.dup2, 1) := by decide +kernel
theorem dX4_takeNextEdge_131 : decode cX4_takeNextEdge 131 = .ok (.iaload, 1) := by decide +kernel
theorem dX4_takeNextEdge_132 : decode cX4_takeNextEdge 132 = .ok (.iconst 1, 1) := by decide +kernel
theorem dX4_takeNextEdge_133 : decode cX4_takeNextEdge 133 = .ok (.iload_n 3, 1) := by decide +kernel
theorem dX4_takeNextEdge_134 : decode cX4_takeNextEdge 134 = .ok (.ishl, 1) := by decide +kernel
theorem dX4_takeNextEdge_135 : decode cX4_takeNextEdge 135 = .ok (.ior, 1) := by decide +kernel
theorem dX4_takeNextEdge_136 : decode cX4_takeNextEdge 136 = .ok (.iastore, 1) := by decide +kernel
theorem dX4_takeNextEdge_137 : decode cX4_takeNextEdge 137 = .ok (.aload_n 0, 1) := by decide +kernel
theorem dX4_takeNextEdge_138 : decode cX4_takeNextEdge 138 = .ok (.getfield 18, 3) := by decide +kernel
theorem dX4_takeNextEdge_141 : decode cX4_takeNextEdge 141 = .ok (.iload_n 3, 1) := by decide +kernel
theorem dX4_takeNextEdge_142 : decode cX4_takeNextEdge 142 = .ok (.dup2, 1) := by decide +kernel
theorem dX4_takeNextEdge_143 : decode cX4_takeNextEdge 143 = .ok (.iaload, 1) := by decide +kernel
theorem dX4_takeNextEdge_144 : decode cX4_takeNextEdge 144 = .ok (.iconst 1, 1) := by decide +kernel
theorem dX4_takeNextEdge_145 : decode cX4_takeNextEdge 145 = .ok (.iload_n 2, 1) := by decide +kernel
theorem dX4_takeNextEdge_146 : decode cX4_takeNextEdge 146 = .ok (.ishl, 1) := by decide +kernel
theorem dX4_takeNextEdge_147 : decode cX4_takeNextEdge 147 = .ok (.ior, 1) := by decide +kernel
theorem dX4_takeNextEdge_148 : decode cX4_takeNextEdge 148 = .ok (.iastore, 1) := by decide +kernel
theorem dX4_takeNextEdge_149 : decode cX4_takeNextEdge 149 = .ok (.aload_n 0, 1) := by decide +kernel
theorem dX4_takeNextEdge_150 : decode cX4_takeNextEdge 150 = .ok (.dup, 1) := by decide +kernel
theorem dX4_takeNextEdge_151 : decode cX4_takeNextEdge 151 = .ok (.getfield 59, 3) := by decide +kernel
theorem dX4_takeNextEdge_154 : decode cX4_takeNextEdge 154 = .ok (.iload 4, 2) := by decide +kernel
theorem dX4_takeNextEdge_156 : decode cX4_takeNextEdge 156 = .ok (.iadd, 1) := by decide +kernel
theorem dX4_takeNextEdge_157 : decode cX4_takeNextEdge 157 = .ok (.putfield 59, 3) := by decide +kernel
theorem dX4_takeNextEdge_160 : decode cX4_takeNextEdge 160 = .ok (.return_, 1) := by decide +kernel
theorem dX5_init_0 : decode cX5_init 0 = .ok (.aload_n 0, 1) := by decide +kernel
theorem dX5_init_1 : decode cX5_init 1 = .ok (.invokespecial 3, 3) := by decide +kernel
theorem dX5_init_4 : decode cX5_init 4 = .ok (.aload_n 0, 1) := by decide +kernel
theorem dX5_init_5 : decode cX5_init 5 = .ok (.bipush 12, 2) := by decide +kernel
theorem dX5_init_7 : decode cX5_init 7 = .ok (.newarray .int, 2) := by decide +kernel
theorem dX5_init_9 : decode cX5_init 9 = .ok (.putfield 9, 3) := by decide +kernel
theorem dX5_init_12 : decode cX5_init 12 = .ok (.aload_n 0, 1) := by decide +kernel
theorem dX5_init_13 : decode cX5_init 13 = .ok (.bipush 12, 2) := by decide +kernel
theorem dX5_init_15 : decode cX5_init 15 = .ok (.newarray .int, 2) := by decide +kernel
theorem dX5_init_17 : decode cX5_init 17 = .ok (.putfield 15, 3) := by decide +kernel
theorem dX5_init_20 : decode cX5_init 20 = .ok (.aload_n 0, 1) := by decide +kernel
theorem dX5_init_21 : decode cX5_init 21 = .ok (.bipush 12, 2) := by decide +kernel
theorem dX5_init_23 : decode cX5_init 23 = .ok (.newarray .int, 2) := by decide +kernel
theorem dX5_init_25 : decode cX5_init 25 = .ok (.putfield 18, 3) := by decide +kernel
theorem dX5_init_28 : decode cX5_init 28 = .ok (.aload_n 0, 1) := by decide +kernel
theorem dX5_init_29 : decode cX5_init 29 = .ok (.bipush 12, 2) := by decide +kernel
theorem dX5_init_31 : decode cX5_init 31 = .ok (.newarray .int, 2) := by decide +kernel
theorem dX5_init_33 : decode cX5_init 33 = .ok (.putfield 21, 3) := by decide +kernel
theorem dX5_init_36 : decode cX5_init 36 = .ok (.aload_n 0, 1) := by decide +kernel
theorem dX5_init_37 : decode cX5_init 37 = .ok (.bipush 12, 2) := by decide +kernel
theorem dX5_init_39 : decode cX5_init 39 = .ok (.newarray .int, 2) := by decide +kernel
theorem dX5_init_41 : decode cX5_init 41 = .ok (.putfield 24, 3) := by decide +kernel
theorem dX5_init_44 : decode cX5_init 44 = .ok (.return_, 1) := by decide +kernel
theorem dX5_has_0 : decode cX5_has 0 = .ok (.iload_n 1, 1) := by decide +kernel
theorem dX5_has_1 : decode cX5_has 1 = .ok (.ifCond .lt 24, 3) := by decide +kernel
theorem dX5_has_4 : decode cX5_has 4 = .ok (.iload_n 1, 1) := by decide +kernel
theorem dX5_has_5 : decode cX5_has 5 = .ok (.bipush 12, 2) := by decide +kernel
theorem dX5_has_7 : decode cX5_has 7 = .ok (.if_icmp .ge 18, 3) := by decide +kernel
theorem dX5_has_10 : decode cX5_has 10 = .ok (.aload_n 0, 1) := by decide +kernel
theorem dX5_has_11 : decode cX5_has 11 = .ok (.getfield 27, 3) := by decide +kernel
theorem dX5_has_14 : decode cX5_has 14 = .ok (.iload_n 1, 1) := by decide +kernel
theorem dX5_has_15 : decode cX5_has 15 = .ok (.invokestatic 31, 3) := by decide +kernel
theorem dX5_has_18 : decode cX5_has 18 = .ok (.ifCond .eq 7, 3) := by decide +kernel
theorem dX5_has_21 : decode cX5_has 21 = .ok (.iconst 1, 1) := by decide +kernel
theorem dX5_has_22 : decode cX5_has 22 = .ok (.goto 4, 3) := by decide +kernel
theorem dX5_has_25 : decode cX5_has 25 = .ok (.iconst 0, 1) := by decide +kernel
theorem dX5_has_26 : decode cX5_has 26 = .ok (.ireturn, 1) := by decide +kernel
theorem dX5_count_0 : decode cX5_count 0 = .ok (.aload_n 0, 1) := by decide +kernel
theorem dX5_count_1 : decode cX5_count 1 = .ok (.getfield 27, 3) := by decide +kernel
theorem dX5_count_4 : decode cX5_count 4 = .ok (.invokestatic 35, 3) := by decide +kernel
theorem dX5_count_7 : decode cX5_count 7 = .ok (.ireturn, 1) := by decide +kernel
theorem dX5_numberAt_0 : decode cX5_numberAt 0 = .ok (.iconst 0, 1) := by decide +kernel
theorem dX5_numberAt_1 : decode cX5_numberAt 1 = .ok (.istore_n 3, 1) := by decide +kernel
theorem dX5_numberAt_2 : decode cX5_numberAt 2 = .ok (.iload_n 3, 1) := by decide +kernel
theorem dX5_numberAt_3 : decode cX5_numberAt 3 = .ok (.bipush 12, 2) := by decide +kernel
theorem dX5_numberAt_5 : decode cX5_numberAt 5 = .ok (.if_icmp .ge 39, 3) := by decide +kernel
theorem dX5_numberAt_8 : decode cX5_numberAt 8 = .ok (.aload_n 0, 1) := by decide +kernel
theorem dX5_numberAt_9 : decode cX5_numberAt 9 = .ok (.iload_n 3, 1) := by decide +kernel
theorem dX5_numberAt_10 : decode cX5_numberAt 10 = .ok (.invokevirtual 41, 3) := by decide +kernel
theorem dX5_numberAt_13 : decode cX5_numberAt 13 = .ok (.ifCond .eq 25, 3) := by decide +kernel
theorem dX5_numberAt_16 : decode cX5_numberAt 16 = .ok (.aload_n 0, 1) := by decide +kernel
theorem dX5_numberAt_17 : decode cX5_numberAt 17 = .ok (.getfield 9, 3) := by decide +kernel
theorem dX5_numberAt_20 : decode cX5_numberAt 20 = .ok (.iload_n 3, 1) := by decide +kernel
theorem dX5_numberAt_21 : decode cX5_numberAt 21 = .ok (.iaload, 1) := by decide +kernel
theorem dX5_numberAt_22 : decode cX5_numberAt 22 = .ok (.iload_n 1, 1) := by decide +kernel
theorem dX5_numberAt_23 : decode cX5_numberAt 23 = .ok (.if_icmp .ne 15, 3) := by decide +kernel
theorem dX5_numberAt_26 : decode cX5_numberAt 26 = .ok (.aload_n 0, 1) := by decide +kernel
theorem dX5_numberAt_27 : decode cX5_numberAt 27 = .ok (.getfield 15, 3) := by decide +kernel
theorem dX5_numberAt_30 : decode cX5_numberAt 30 = .ok (.iload_n 3, 1) := by decide +kernel
theorem dX5_numberAt_31 : decode cX5_numberAt 31 = .ok (.iaload, 1) := by decide +kernel
theorem dX5_numberAt_32 : decode cX5_numberAt 32 = .ok (.iload_n 2, 1) := by decide +kernel
theorem dX5_numberAt_33 : decode cX5_numberAt 33 = .ok (.if_icmp .ne 5, 3) := by decide +kernel
theorem dX5_numberAt_36 : decode cX5_numberAt 36 = .ok (.iload_n 3, 1) := by decide +kernel
theorem dX5_numberAt_37 : decode cX5_numberAt 37 = .ok (.ireturn, 1) := by decide +kernel
theorem dX5_numberAt_38 : decode cX5_numberAt 38 = .ok (.iinc 3 1, 3) := by decide +kernel
theorem dX5_numberAt_41 : decode cX5_numberAt 41 = .ok (.goto (-39), 3) := by decide +kernel
theorem dX5_numberAt_44 : decode cX5_numberAt 44 = .ok (.iconst (-1), 1) := by decide +kernel
theorem dX5_numberAt_45 : decode cX5_numberAt 45 = .ok (.ireturn, 1) := by decide +kernel
theorem dX5_lowestFree_0 : decode cX5_lowestFree 0 = .ok (.iconst 0, 1) := by decide +kernel
theorem dX5_lowestFree_1 : decode cX5_lowestFree 1 = .ok (.istore_n 1, 1) := by decide +kernel
theorem dX5_lowestFree_2 : decode cX5_lowestFree 2 = .ok (.iload_n 1, 1) := by decide +kernel
theorem dX5_lowestFree_3 : decode cX5_lowestFree 3 = .ok (.bipush 12, 2) := by decide +kernel
theorem dX5_lowestFree_5 : decode cX5_lowestFree 5 = .ok (.if_icmp .ge 19, 3) := by decide +kernel
theorem dX5_lowestFree_8 : decode cX5_lowestFree 8 = .ok (.aload_n 0, 1) := by decide +kernel
theorem dX5_lowestFree_9 : decode cX5_lowestFree 9 = .ok (.iload_n 1, 1) := by decide +kernel
theorem dX5_lowestFree_10 : decode cX5_lowestFree 10 = .ok (.invokevirtual 41, 3) := by decide +kernel
theorem dX5_lowestFree_13 : decode cX5_lowestFree 13 = .ok (.ifCond .ne 5, 3) := by decide +kernel
theorem dX5_lowestFree_16 : decode cX5_lowestFree 16 = .ok (.iload_n 1, 1) := by decide +kernel
theorem dX5_lowestFree_17 : decode cX5_lowestFree 17 = .ok (.ireturn, 1) := by decide +kernel
theorem dX5_lowestFree_18 : decode cX5_lowestFree 18 = .ok (.iinc 1 1, 3) := by decide +kernel
theorem dX5_lowestFree_21 : decode cX5_lowestFree 21 = .ok (.goto (-19), 3) := by decide +kernel
theorem dX5_lowestFree_24 : decode cX5_lowestFree 24 = .ok (.iconst (-1), 1) := by decide +kernel
theorem dX5_lowestFree_25 : decode cX5_lowestFree 25 = .ok (.ireturn, 1) := by decide +kernel
theorem dX5_put_0 : decode cX5_put 0 = .ok (.aload_n 0, 1) := by decide +kernel
theorem dX5_put_1 : decode cX5_put 1 = .ok (.dup, 1) := by decide +kernel
theorem dX5_put_2 : decode cX5_put 2 = .ok (.getfield 27, 3) := by decide +kernel
theorem dX5_put_5 : decode cX5_put 5 = .ok (.iconst 1, 1) := by decide +kernel
theorem dX5_put_6 : decode cX5_put 6 = .ok (.iload_n 1, 1) := by decide +kernel
theorem dX5_put_7 : decode cX5_put 7 = .ok (.ishl, 1) := by decide +kernel
theorem dX5_put_8 : decode cX5_put 8 = .ok (.ior, 1) := by decide +kernel
theorem dX5_put_9 : decode cX5_put 9 = .ok (.putfield 27, 3) := by decide +kernel
theorem dX5_put_12 : decode cX5_put 12 = .ok (.aload_n 0, 1) := by decide +kernel
theorem dX5_put_13 : decode cX5_put 13 = .ok (.getfield 18, 3) := by decide +kernel
theorem dX5_put_16 : decode cX5_put 16 = .ok (.iload_n 1, 1) := by decide +kernel
theorem dX5_put_17 : decode cX5_put 17 = .ok (.iconst 0, 1) := by decide +kernel
theorem dX5_put_18 : decode cX5_put 18 = .ok (.iastore, 1) := by decide +kernel
theorem dX5_put_19 : decode cX5_put 19 = .ok (.aload_n 0, 1) := by decide +kernel
theorem dX5_put_20 : decode cX5_put 20 = .ok (.getfield 21, 3) := by decide +kernel
theorem dX5_put_23 : decode cX5_put 23 = .ok (.iload_n 1, 1) := by decide +kernel
theorem dX5_put_24 : decode cX5_put 24 = .ok (.iconst 0, 1) := by decide +kernel
theorem dX5_put_25 : decode cX5_put 25 = .ok (.iastore, 1) := by decide +kernel
theorem dX5_put_26 : decode cX5_put 26 = .ok (.aload_n 0, 1) := by decide +kernel
theorem dX5_put_27 : decode cX5_put 27 = .ok (.getfield 24, 3) := by decide +kernel
theorem dX5_put_30 : decode cX5_put 30 = .ok (.iload_n 1, 1) := by decide +kernel
theorem dX5_put_31 : decode cX5_put 31 = .ok (.iconst 0, 1) := by decide +kernel
theorem dX5_put_32 : decode cX5_put 32 = .ok (.iastore, 1) := by decide +kernel
theorem dX5_put_33 : decode cX5_put 33 = .ok (.aload_n 0, 1) := by decide +kernel
theorem dX5_put_34 : decode cX5_put 34 = .ok (.iload_n 1, 1) := by decide +kernel
theorem dX5_put_35 : decode cX5_put 35 = .ok (.iload_n 2, 1) := by decide +kernel
theorem dX5_put_36 : decode cX5_put 36 = .ok (.iload_n 3, 1) := by decide +kernel
theorem dX5_put_37 : decode cX5_put 37 = .ok (.invokevirtual 45, 3) := by decide +kernel
theorem dX5_put_40 : decode cX5_put 40 = .ok (.return_, 1) := by decide +kernel
theorem dX5_take_0 : decode cX5_take 0 = .ok (.aload_n 0, 1) := by decide +kernel
theorem dX5_take_1 : decode cX5_take 1 = .ok (.dup, 1) := by decide +kernel
theorem dX5_take_2 : decode cX5_take 2 = .ok (.getfield 27, 3) := by decide +kernel
theorem dX5_take_5 : decode cX5_take 5 = .ok (.iconst 1, 1) := by decide +kernel
theorem dX5_take_6 : decode cX5_take 6 = .ok (.iload_n 1, 1) := by decide +kernel
theorem dX5_take_7 : decode cX5_take 7 = .ok (.ishl, 1) := by decide +kernel
theorem dX5_take_8 : decode cX5_take 8 = .ok (.iconst (-1), 1) := by decide +kernel
theorem dX5_take_9 : decode cX5_take 9 = .ok (.ixor, 1) := by decide +kernel
theorem dX5_take_10 : decode cX5_take 10 = .ok (.iand, 1) := by decide +kernel
theorem dX5_take_11 : decode cX5_take 11 = .ok (.putfield 27, 3) := by decide +kernel
theorem dX5_take_14 : decode cX5_take 14 = .ok (.aload_n 0, 1) := by decide +kernel
theorem dX5_take_15 : decode cX5_take 15 = .ok (.dup, 1) := by decide +kernel
theorem dX5_take_16 : decode cX5_take 16 = .ok (.getfield 49, 3) := by decide +kernel
theorem dX5_take_19 : decode cX5_take 19 = .ok (.iconst 1, 1) := by decide +kernel
theorem dX5_take_20 : decode cX5_take 20 = .ok (.iadd, 1) := by decide +kernel
theorem dX5_take_21 : decode cX5_take 21 = .ok (.putfield 49, 3) := by decide +kernel
theorem dX5_take_24 : decode cX5_take 24 = .ok (.return_, 1) := by decide +kernel
theorem dX5_setPlace_0 : decode cX5_setPlace 0 = .ok (.aload_n 0, 1) := by decide +kernel
theorem dX5_setPlace_1 : decode cX5_setPlace 1 = .ok (.getfield 9, 3) := by decide +kernel
theorem dX5_setPlace_4 : decode cX5_setPlace 4 = .ok (.iload_n 1, 1) := by decide +kernel
theorem dX5_setPlace_5 : decode cX5_setPlace 5 = .ok (.iload_n 2, 1) := by decide +kernel
theorem dX5_setPlace_6 : decode cX5_setPlace 6 = .ok (.iastore, 1) := by decide +kernel
theorem dX5_setPlace_7 : decode cX5_setPlace 7 = .ok (.aload_n 0, 1) := by decide +kernel
theorem dX5_setPlace_8 : decode cX5_setPlace 8 = .ok (.getfield 15, 3) := by decide +kernel
theorem dX5_setPlace_11 : decode cX5_setPlace 11 = .ok (.iload_n 1, 1) := by decide +kernel
theorem dX5_setPlace_12 : decode cX5_setPlace 12 = .ok (.iload_n 3, 1) := by decide +kernel
theorem dX5_setPlace_13 : decode cX5_setPlace 13 = .ok (.iastore, 1) := by decide +kernel
theorem dX5_setPlace_14 : decode cX5_setPlace 14 = .ok (.aload_n 0, 1) := by decide +kernel
theorem dX5_setPlace_15 : decode cX5_setPlace 15 = .ok (.dup, 1) := by decide +kernel
theorem dX5_setPlace_16 : decode cX5_setPlace 16 = .ok (.getfield 49, 3) := by decide +kernel
theorem dX5_setPlace_19 : decode cX5_setPlace 19 = .ok (.iconst 1, 1) := by decide +kernel
theorem dX5_setPlace_20 : decode cX5_setPlace 20 = .ok (.iadd, 1) := by decide +kernel
theorem dX5_setPlace_21 : decode cX5_setPlace 21 = .ok (.putfield 49, 3) := by decide +kernel
theorem dX5_setPlace_24 : decode cX5_setPlace 24 = .ok (.return_, 1) := by decide +kernel
theorem dX5_isMoving_0 : decode cX5_isMoving 0 = .ok (.aload_n 0, 1) := by decide +kernel
theorem dX5_isMoving_1 : decode cX5_isMoving 1 = .ok (.getfield 21, 3) := by decide +kernel
theorem dX5_isMoving_4 : decode cX5_isMoving 4 = .ok (.iload_n 1, 1) := by decide +kernel
theorem dX5_isMoving_5 : decode cX5_isMoving 5 = .ok (.iaload, 1) := by decide +kernel
theorem dX5_isMoving_6 : decode cX5_isMoving 6 = .ok (.ifCond .ne 12, 3) := by decide +kernel
theorem dX5_isMoving_9 : decode cX5_isMoving 9 = .ok (.aload_n 0, 1) := by decide +kernel
theorem dX5_isMoving_10 : decode cX5_isMoving 10 = .ok (.getfield 24, 3) := by decide +kernel
theorem dX5_isMoving_13 : decode cX5_isMoving 13 = .ok (.iload_n 1, 1) := by decide +kernel
theorem dX5_isMoving_14 : decode cX5_isMoving 14 = .ok (.iaload, 1) := by decide +kernel
theorem dX5_isMoving_15 : decode cX5_isMoving 15 = .ok (.ifCond .eq 7, 3) := by decide +kernel
theorem dX5_isMoving_18 : decode cX5_isMoving 18 = .ok (.iconst 1, 1) := by decide +kernel
theorem dX5_isMoving_19 : decode cX5_isMoving 19 = .ok (.goto 4, 3) := by decide +kernel
theorem dX5_isMoving_22 : decode cX5_isMoving 22 = .ok (.iconst 0, 1) := by decide +kernel
theorem dX5_isMoving_23 : decode cX5_isMoving 23 = .ok (.ireturn, 1) := by decide +kernel
theorem dX5_measure_0 : decode cX5_measure 0 = .ok (.aload_n 0, 1) := by decide +kernel
theorem dX5_measure_1 : decode cX5_measure 1 = .ok (.getfield 9, 3) := by decide +kernel
theorem dX5_measure_4 : decode cX5_measure 4 = .ok (.iload_n 2, 1) := by decide +kernel
theorem dX5_measure_5 : decode cX5_measure 5 = .ok (.iaload, 1) := by decide +kernel
theorem dX5_measure_6 : decode cX5_measure 6 = .ok (.iload_n 3, 1) := by decide +kernel
theorem dX5_measure_7 : decode cX5_measure 7 = .ok (.isub, 1) := by decide +kernel
theorem dX5_measure_8 : decode cX5_measure 8 = .ok (.invokestatic 52, 3) := by decide +kernel
theorem dX5_measure_11 : decode cX5_measure 11 = .ok (.istore 5, 2) := by decide +kernel
theorem dX5_measure_13 : decode cX5_measure 13 = .ok (.aload_n 0, 1) := by decide +kernel
theorem dX5_measure_14 : decode cX5_measure 14 = .ok (.getfield 15, 3) := by decide +kernel
theorem dX5_measure_17 : decode cX5_measure 17 = .ok (.iload_n 2, 1) := by decide +kernel
theorem dX5_measure_18 : decode cX5_measure 18 = .ok (.iaload, 1) := by decide +kernel
theorem dX5_measure_19 : decode cX5_measure 19 = .ok (.iload 4, 2) := by decide +kernel
theorem dX5_measure_21 : decode cX5_measure 21 = .ok (.isub, 1) := by decide +kernel
theorem dX5_measure_22 : decode cX5_measure 22 = .ok (.invokestatic 52, 3) := by decide +kernel
theorem dX5_measure_25 : decode cX5_measure 25 = .ok (.istore 6, 2) := by decide +kernel
theorem dX5_measure_27 : decode cX5_measure 27 = .ok (.iload_n 1, 1) := by decide +kernel
theorem dX5_measure_28 : decode cX5_measure 28 = .ok (.bipush 115, 2) := by decide +kernel
theorem dX5_measure_30 : decode cX5_measure 30 = .ok (.if_icmp .ne 9, 3) := by decide +kernel
theorem dX5_measure_33 : decode cX5_measure 33 = .ok (.iload 5, 2) := by decide +kernel
theorem dX5_measure_35 : decode cX5_measure 35 = .ok (.iload 6, 2) := by decide +kernel
theorem dX5_measure_37 : decode cX5_measure 37 = .ok (.iadd, 1) := by decide +kernel
theorem dX5_measure_38 : decode cX5_measure 38 = .ok (.ireturn, 1) := by decide +kernel
theorem dX5_measure_39 : decode cX5_measure 39 = .ok (.iload_n 1, 1) := by decide +kernel
theorem dX5_measure_40 : decode cX5_measure 40 = .ok (.bipush 109, 2) := by decide +kernel
theorem dX5_measure_42 : decode cX5_measure 42 = .ok (.if_icmp .ne 11, 3) := by decide +kernel
theorem dX5_measure_45 : decode cX5_measure 45 = .ok (.iload 5, 2) := by decide +kernel
theorem dX5_measure_47 : decode cX5_measure 47 = .ok (.iload 6, 2) := by decide +kernel
theorem dX5_measure_49 : decode cX5_measure 49 = .ok (.invokestatic 57, 3) := by decide +kernel
theorem dX5_measure_52 : decode cX5_measure 52 = .ok (.ireturn, 1) := by decide +kernel
theorem dX5_measure_53 : decode cX5_measure 53 = .ok (.iload 5, 2) := by decide +kernel
theorem dX5_measure_55 : decode cX5_measure 55 = .ok (.iload 5, 2) := by decide +kernel
theorem dX5_measure_57 : decode cX5_measure 57 = .ok (.imul, 1) := by decide +kernel
theorem dX5_measure_58 : decode cX5_measure 58 = .ok (.iload 6, 2) := by decide +kernel
theorem dX5_measure_60 : decode cX5_measure 60 = .ok (.iload 6, 2) := by decide +kernel
theorem dX5_measure_62 : decode cX5_measure 62 = .ok (.imul, 1) := by decide +kernel
theorem dX5_measure_63 : decode cX5_measure 63 = .ok (.iadd, 1) := by decide +kernel
theorem dX5_measure_64 : decode cX5_measure 64 = .ok (.istore 7, 2) := by decide +kernel
theorem dX5_measure_66 : decode cX5_measure 66 = .ok (.iload_n 1, 1) := by decide +kernel
theorem dX5_measure_67 : decode cX5_measure 67 = .ok (.bipush 112, 2) := by decide +kernel
theorem dX5_measure_69 : decode cX5_measure 69 = .ok (.if_icmp .ne 15, 3) := by decide +kernel
theorem dX5_measure_72 : decode cX5_measure 72 = .ok (.iload 7, 2) := by decide +kernel
theorem dX5_measure_74 : decode cX5_measure 74 = .ok (.aload_n 0, 1) := by decide +kernel
theorem dX5_measure_75 : decode cX5_measure 75 = .ok (.getfield 18, 3) := by decide +kernel
theorem dX5_measure_78 : decode cX5_measure 78 = .ok (.iload_n 2, 1) := by decide +kernel
theorem dX5_measure_79 : decode cX5_measure 79 = .ok (.iaload, 1) := by decide +kernel
theorem dX5_measure_80 : decode cX5_measure 80 = .ok (.isub, 1) := by decide +kernel
theorem dX5_measure_81 : decode cX5_measure 81 = .ok (.goto 5, 3) := by decide +kernel
theorem dX5_measure_84 : decode cX5_measure 84 = .ok (.iload 7, 2) := by decide +kernel
theorem dX5_measure_86 : decode cX5_measure 86 = .ok (.ireturn, 1) := by decide +kernel
theorem dX5_nearestTo_0 : decode cX5_nearestTo 0 = .ok (.iconst (-1), 1) := by decide +kernel
theorem dX5_nearestTo_1 : decode cX5_nearestTo 1 = .ok (.istore 4, 2) := by decide +kernel
theorem dX5_nearestTo_3 : decode cX5_nearestTo 3 = .ok (.iconst 0, 1) := by decide +kernel
theorem dX5_nearestTo_4 : decode cX5_nearestTo 4 = .ok (.istore 5, 2) := by decide +kernel
theorem dX5_nearestTo_6 : decode cX5_nearestTo 6 = .ok (.iconst 0, 1) := by decide +kernel
theorem dX5_nearestTo_7 : decode cX5_nearestTo 7 = .ok (.istore 6, 2) := by decide +kernel
theorem dX5_nearestTo_9 : decode cX5_nearestTo 9 = .ok (.iload 6, 2) := by decide +kernel
theorem dX5_nearestTo_11 : decode cX5_nearestTo 11 = .ok (.bipush 12, 2) := by decide +kernel
theorem dX5_nearestTo_13 : decode cX5_nearestTo 13 = .ok (.if_icmp .ge 50, 3) := by decide +kernel
theorem dX5_nearestTo_16 : decode cX5_nearestTo 16 = .ok (.aload_n 0, 1) := by decide +kernel
theorem dX5_nearestTo_17 : decode cX5_nearestTo 17 = .ok (.iload 6, 2) := by decide +kernel
theorem dX5_nearestTo_19 : decode cX5_nearestTo 19 = .ok (.invokevirtual 41, 3) := by decide +kernel
theorem dX5_nearestTo_22 : decode cX5_nearestTo 22 = .ok (.ifCond .eq 35, 3) := by decide +kernel
theorem dX5_nearestTo_25 : decode cX5_nearestTo 25 = .ok (.aload_n 0, 1) := by decide +kernel
theorem dX5_nearestTo_26 : decode cX5_nearestTo 26 = .ok (.iload_n 1, 1) := by decide +kernel
theorem dX5_nearestTo_27 : decode cX5_nearestTo 27 = .ok (.iload 6, 2) := by decide +kernel
theorem dX5_nearestTo_29 : decode cX5_nearestTo 29 = .ok (.iload_n 2, 1) := by decide +kernel
theorem dX5_nearestTo_30 : decode cX5_nearestTo 30 = .ok (.iload_n 3, 1) := by decide +kernel
theorem dX5_nearestTo_31 : decode cX5_nearestTo 31 = .ok (.invokevirtual 61, 3) := by decide +kernel
theorem dX5_nearestTo_34 : decode cX5_nearestTo 34 = .ok (.istore 7, 2) := by decide +kernel
theorem dX5_nearestTo_36 : decode cX5_nearestTo 36 = .ok (.iload 4, 2) := by decide +kernel
theorem dX5_nearestTo_38 : decode cX5_nearestTo 38 = .ok (.iconst (-1), 1) := by decide +kernel
theorem dX5_nearestTo_39 : decode cX5_nearestTo 39 = .ok (.if_icmp .eq 10, 3) := by decide +kernel
theorem dX5_nearestTo_42 : decode cX5_nearestTo 42 = .ok (.iload 7, 2) := by decide +kernel
theorem dX5_nearestTo_44 : decode cX5_nearestTo 44 = .ok (.iload 5, 2) := by decide +kernel
theorem dX5_nearestTo_46 : decode cX5_nearestTo 46 = .ok (.if_icmp .ge 11, 3) := by decide +kernel
theorem dX5_nearestTo_49 : decode cX5_nearestTo 49 = .ok (.iload 6, 2) := by decide +kernel
theorem dX5_nearestTo_51 : decode cX5_nearestTo 51 = .ok (.istore 4, 2) := by decide +kernel
theorem dX5_nearestTo_53 : decode cX5_nearestTo 53 = .ok (.iload 7, 2) := by decide +kernel
theorem dX5_nearestTo_55 : decode cX5_nearestTo 55 = .ok (.istore 5, 2) := by decide +kernel
theorem dX5_nearestTo_57 : decode cX5_nearestTo 57 = .ok (.iinc 6 1, 3) := by decide +kernel
theorem dX5_nearestTo_60 : decode cX5_nearestTo 60 = .ok (.goto (-51), 3) := by decide +kernel
theorem dX5_nearestTo_63 : decode cX5_nearestTo 63 = .ok (.iload 4, 2) := by decide +kernel
theorem dX5_nearestTo_65 : decode cX5_nearestTo 65 = .ok (.ireturn, 1) := by decide +kernel
theorem dX5_farthestFrom_0 : decode cX5_farthestFrom 0 = .ok (.iconst (-1), 1) := by decide +kernel
theorem dX5_farthestFrom_1 : decode cX5_farthestFrom 1 = .ok (.istore 4, 2) := by decide +kernel
theorem dX5_farthestFrom_3 : decode cX5_farthestFrom 3 = .ok (.iconst 0, 1) := by decide +kernel
theorem dX5_farthestFrom_4 : decode cX5_farthestFrom 4 = .ok (.istore 5, 2) := by decide +kernel
theorem dX5_farthestFrom_6 : decode cX5_farthestFrom 6 = .ok (.iconst 0, 1) := by decide +kernel
theorem dX5_farthestFrom_7 : decode cX5_farthestFrom 7 = .ok (.istore 6, 2) := by decide +kernel
theorem dX5_farthestFrom_9 : decode cX5_farthestFrom 9 = .ok (.iload 6, 2) := by decide +kernel
theorem dX5_farthestFrom_11 : decode cX5_farthestFrom 11 = .ok (.bipush 12, 2) := by decide +kernel
theorem dX5_farthestFrom_13 : decode cX5_farthestFrom 13 = .ok (.if_icmp .ge 50, 3) := by decide +kernel
theorem dX5_farthestFrom_16 : decode cX5_farthestFrom 16 = .ok (.aload_n 0, 1) := by decide +kernel
theorem dX5_farthestFrom_17 : decode cX5_farthestFrom 17 = .ok (.iload 6, 2) := by decide +kernel
theorem dX5_farthestFrom_19 : decode cX5_farthestFrom 19 = .ok (.invokevirtual 41, 3) := by decide +kernel
theorem dX5_farthestFrom_22 : decode cX5_farthestFrom 22 = .ok (.ifCond .eq 35, 3) := by decide +kernel
theorem dX5_farthestFrom_25 : decode cX5_farthestFrom 25 = .ok (.aload_n 0, 1) := by decide +kernel
theorem dX5_farthestFrom_26 : decode cX5_farthestFrom 26 = .ok (.iload_n 1, 1) := by decide +kernel
theorem dX5_farthestFrom_27 : decode cX5_farthestFrom 27 = .ok (.iload 6, 2) := by decide +kernel
theorem dX5_farthestFrom_29 : decode cX5_farthestFrom 29 = .ok (.iload_n 2, 1) := by decide +kernel
theorem dX5_farthestFrom_30 : decode cX5_farthestFrom 30 = .ok (.iload_n 3, 1) := by decide +kernel
theorem dX5_farthestFrom_31 : decode cX5_farthestFrom 31 = .ok (.invokevirtual 61, 3) := by decide +kernel
theorem dX5_farthestFrom_34 : decode cX5_farthestFrom 34 = .ok (.istore 7, 2) := by decide +kernel
theorem dX5_farthestFrom_36 : decode cX5_farthestFrom 36 = .ok (.iload 4, 2) := by decide +kernel
theorem dX5_farthestFrom_38 : decode cX5_farthestFrom 38 = .ok (.iconst (-1), 1) := by decide +kernel
theorem dX5_farthestFrom_39 : decode cX5_farthestFrom 39 = .ok (.if_icmp .eq 10, 3) := by decide +kernel
theorem dX5_farthestFrom_42 : decode cX5_farthestFrom 42 = .ok (.iload 7, 2) := by decide +kernel
theorem dX5_farthestFrom_44 : decode cX5_farthestFrom 44 = .ok (.iload 5, 2) := by decide +kernel
theorem dX5_farthestFrom_46 : decode cX5_farthestFrom 46 = .ok (.if_icmp .le 11, 3) := by decide +kernel
theorem dX5_farthestFrom_49 : decode cX5_farthestFrom 49 = .ok (.iload 6, 2) := by decide +kernel
theorem dX5_farthestFrom_51 : decode cX5_farthestFrom 51 = .ok (.istore 4, 2) := by decide +kernel
theorem dX5_farthestFrom_53 : decode cX5_farthestFrom 53 = .ok (.iload 7, 2) := by decide +kernel
theorem dX5_farthestFrom_55 : decode cX5_farthestFrom 55 = .ok (.istore 5, 2) := by decide +kernel
theorem dX5_farthestFrom_57 : decode cX5_farthestFrom 57 = .ok (.iinc 6 1, 3) := by decide +kernel
theorem dX5_farthestFrom_60 : decode cX5_farthestFrom 60 = .ok (.goto (-51), 3) := by decide +kernel
theorem dX5_farthestFrom_63 : decode cX5_farthestFrom 63 = .ok (.iload 4, 2) := by decide +kernel
theorem dX5_farthestFrom_65 : decode cX5_farthestFrom 65 = .ok (.ireturn, 1) := by decide +kernel
theorem dX5_countBefore_0 : decode cX5_countBefore 0 = .ok (.aload_n 0, 1) := by decide +kernel
theorem dX5_countBefore_1 : decode cX5_countBefore 1 = .ok (.iload_n 1, 1) := by decide +kernel
theorem dX5_countBefore_2 : decode cX5_countBefore 2 = .ok (.iload_n 2, 1) := by decide +kernel
theorem dX5_countBefore_3 : decode cX5_countBefore 3 = .ok (.iload_n 3, 1) := by decide +kernel
theorem dX5_countBefore_4 : decode cX5_countBefore 4 = .ok (.iload 4, 2) := by decide +kernel
theorem dX5_countBefore_6 : decode cX5_countBefore 6 = .ok (.invokevirtual 61, 3) := by decide +kernel
theorem dX5_countBefore_9 : decode cX5_countBefore 9 = .ok (.istore 5, 2) := by decide +kernel
theorem dX5_countBefore_11 : decode cX5_countBefore 11 = .ok (.iconst 0, 1) := by decide +kernel
theorem dX5_countBefore_12 : decode cX5_countBefore 12 = .ok (.istore 6, 2) := by decide +kernel
theorem dX5_countBefore_14 : decode cX5_countBefore 14 = .ok (.iconst 0, 1) := by decide +kernel
theorem dX5_countBefore_15 : decode cX5_countBefore 15 = .ok (.istore 7, 2) := by decide +kernel
theorem dX5_countBefore_17 : decode cX5_countBefore 17 = .ok (.iload 7, 2) := by decide +kernel
theorem dX5_countBefore_19 : decode cX5_countBefore 19 = .ok (.bipush 12, 2) := by decide +kernel
theorem dX5_countBefore_21 : decode cX5_countBefore 21 = .ok (.if_icmp .ge 42, 3) := by decide +kernel
theorem dX5_countBefore_24 : decode cX5_countBefore 24 = .ok (.aload_n 0, 1) := by decide +kernel
theorem dX5_countBefore_25 : decode cX5_countBefore 25 = .ok (.iload 7, 2) := by decide +kernel
theorem dX5_countBefore_27 : decode cX5_countBefore 27 = .ok (.invokevirtual 41, 3) := by decide +kernel
theorem dX5_countBefore_30 : decode cX5_countBefore 30 = .ok (.ifCond .eq 27, 3) := by decide +kernel
theorem dX5_countBefore_33 : decode cX5_countBefore 33 = .ok (.aload_n 0, 1) := by decide +kernel
theorem dX5_countBefore_34 : decode cX5_countBefore 34 = .ok (.iload_n 1, 1) := by decide +kernel
theorem dX5_countBefore_35 : decode cX5_countBefore 35 = .ok (.iload 7, 2) := by decide +kernel
theorem dX5_countBefore_37 : decode cX5_countBefore 37 = .ok (.iload_n 3, 1) := by decide +kernel
theorem dX5_countBefore_38 : decode cX5_countBefore 38 = .ok (.iload 4, 2) := by decide +kernel
theorem dX5_countBefore_40 : decode cX5_countBefore 40 = .ok (.invokevirtual 61, 3) := by decide +kernel
theorem dX5_countBefore_43 : decode cX5_countBefore 43 = .ok (.iload 7, 2) := by decide +kernel
theorem dX5_countBefore_45 : decode cX5_countBefore 45 = .ok (.iload 5, 2) := by decide +kernel
theorem dX5_countBefore_47 : decode cX5_countBefore 47 = .ok (.iload_n 2, 1) := by decide +kernel
theorem dX5_countBefore_48 : decode cX5_countBefore 48 = .ok (.invokestatic 65, 3) := by decide +kernel
theorem dX5_countBefore_51 : decode cX5_countBefore 51 = .ok (.ifCond .eq 6, 3) := by decide +kernel
theorem dX5_countBefore_54 : decode cX5_countBefore 54 = .ok (.iinc 6 1, 3) := by decide +kernel
theorem dX5_countBefore_57 : decode cX5_countBefore 57 = .ok (.iinc 7 1, 3) := by decide +kernel
theorem dX5_countBefore_60 : decode cX5_countBefore 60 = .ok (.goto (-43), 3) := by decide +kernel
theorem dX5_countBefore_63 : decode cX5_countBefore 63 = .ok (.iload 6, 2) := by decide +kernel
theorem dX5_countBefore_65 : decode cX5_countBefore 65 = .ok (.ireturn, 1) := by decide +kernel
theorem dX5_isNearest_0 : decode cX5_isNearest 0 = .ok (.aload_n 0, 1) := by decide +kernel
theorem dX5_isNearest_1 : decode cX5_isNearest 1 = .ok (.iload_n 1, 1) := by decide +kernel
theorem dX5_isNearest_2 : decode cX5_isNearest 2 = .ok (.iload_n 2, 1) := by decide +kernel
theorem dX5_isNearest_3 : decode cX5_isNearest 3 = .ok (.iload_n 3, 1) := by decide +kernel
theorem dX5_isNearest_4 : decode cX5_isNearest 4 = .ok (.iload 4, 2) := by decide +kernel
theorem dX5_isNearest_6 : decode cX5_isNearest 6 = .ok (.invokevirtual 61, 3) := by decide +kernel
theorem dX5_isNearest_9 : decode cX5_isNearest 9 = .ok (.istore 5, 2) := by decide +kernel
theorem dX5_isNearest_11 : decode cX5_isNearest 11 = .ok (.iconst 0, 1) := by decide +kernel
theorem dX5_isNearest_12 : decode cX5_isNearest 12 = .ok (.istore 6, 2) := by decide +kernel
theorem dX5_isNearest_14 : decode cX5_isNearest 14 = .ok (.iload 6, 2) := by decide +kernel
theorem dX5_isNearest_16 : decode cX5_isNearest 16 = .ok (.bipush 12, 2) := by decide +kernel
theorem dX5_isNearest_18 : decode cX5_isNearest 18 = .ok (.if_icmp .ge 41, 3) := by decide +kernel
theorem dX5_isNearest_21 : decode cX5_isNearest 21 = .ok (.aload_n 0, 1) := by decide +kernel
theorem dX5_isNearest_22 : decode cX5_isNearest 22 = .ok (.iload 6, 2) := by decide +kernel
theorem dX5_isNearest_24 : decode cX5_isNearest 24 = .ok (.invokevirtual 41, 3) := by decide +kernel
theorem dX5_isNearest_27 : decode cX5_isNearest 27 = .ok (.ifCond .eq 26, 3) := by decide +kernel
theorem dX5_isNearest_30 : decode cX5_isNearest 30 = .ok (.aload_n 0, 1) := by decide +kernel
theorem dX5_isNearest_31 : decode cX5_isNearest 31 = .ok (.iload_n 1, 1) := by decide +kernel
theorem dX5_isNearest_32 : decode cX5_isNearest 32 = .ok (.iload 6, 2) := by decide +kernel
theorem dX5_isNearest_34 : decode cX5_isNearest 34 = .ok (.iload_n 3, 1) := by decide +kernel
theorem dX5_isNearest_35 : decode cX5_isNearest 35 = .ok (.iload 4, 2) := by decide +kernel
theorem dX5_isNearest_37 : decode cX5_isNearest 37 = .ok (.invokevirtual 61, 3) := by decide +kernel
theorem dX5_isNearest_40 : decode cX5_isNearest 40 = .ok (.iload 6, 2) := by decide +kernel
theorem dX5_isNearest_42 : decode cX5_isNearest 42 = .ok (.iload 5, 2) := by decide +kernel
theorem dX5_isNearest_44 : decode cX5_isNearest 44 = .ok (.iload_n 2, 1) := by decide +kernel
theorem dX5_isNearest_45 : decode cX5_isNearest 45 = .ok (.invokestatic 65, 3) := by decide +kernel
theorem dX5_isNearest_48 : decode cX5_isNearest 48 = .ok (.ifCond .eq 5, 3) := by decide +kernel
theorem dX5_isNearest_51 : decode cX5_isNearest 51 = .ok (.iconst 0, 1) := by decide +kernel
theorem dX5_isNearest_52 : decode cX5_isNearest 52 = .ok (.ireturn, 1) := by decide +kernel
theorem dX5_isNearest_53 : decode cX5_isNearest 53 = .ok (.iinc 6 1, 3) := by decide +kernel
theorem dX5_isNearest_56 : decode cX5_isNearest 56 = .ok (.goto (-42), 3) := by decide +kernel
theorem dX5_isNearest_59 : decode cX5_isNearest 59 = .ok (.iconst 1, 1) := by decide +kernel
theorem dX5_isNearest_60 : decode cX5_isNearest 60 = .ok (.ireturn, 1) := by decide +kernel
theorem dX5_goesBefore_0 : decode cX5_goesBefore 0 = .ok (.iload_n 0, 1) := by decide +kernel
theorem dX5_goesBefore_1 : decode cX5_goesBefore 1 = .ok (.iload_n 2, 1) := by decide +kernel
theorem dX5_goesBefore_2 : decode cX5_goesBefore 2 = .ok (.if_icmp .lt 13, 3) := by decide +kernel
theorem dX5_goesBefore_5 : decode cX5_goesBefore 5 = .ok (.iload_n 0, 1) := by decide +kernel
theorem dX5_goesBefore_6 : decode cX5_goesBefore 6 = .ok (.iload_n 2, 1) := by decide +kernel
theorem dX5_goesBefore_7 : decode cX5_goesBefore 7 = .ok (.if_icmp .ne 12, 3) := by decide +kernel
theorem dX5_goesBefore_10 : decode cX5_goesBefore 10 = .ok (.iload_n 1, 1) := by decide +kernel
theorem dX5_goesBefore_11 : decode cX5_goesBefore 11 = .ok (.iload_n 3, 1) := by decide +kernel
theorem dX5_goesBefore_12 : decode cX5_goesBefore 12 = .ok (.if_icmp .ge 7, 3) := by decide +kernel
theorem dX5_goesBefore_15 : decode cX5_goesBefore 15 = .ok (.iconst 1, 1) := by decide +kernel
theorem dX5_goesBefore_16 : decode cX5_goesBefore 16 = .ok (.goto 4, 3) := by decide +kernel
theorem dX5_goesBefore_19 : decode cX5_goesBefore 19 = .ok (.iconst 0, 1) := by decide +kernel
theorem dX5_goesBefore_20 : decode cX5_goesBefore 20 = .ok (.ireturn, 1) := by decide +kernel
theorem dX5_distance_0 : decode cX5_distance 0 = .ok (.aload_n 0, 1) := by decide +kernel
theorem dX5_distance_1 : decode cX5_distance 1 = .ok (.getfield 9, 3) := by decide +kernel
theorem dX5_distance_4 : decode cX5_distance 4 = .ok (.iload_n 1, 1) := by decide +kernel
theorem dX5_distance_5 : decode cX5_distance 5 = .ok (.iaload, 1) := by decide +kernel
theorem dX5_distance_6 : decode cX5_distance 6 = .ok (.aload_n 0, 1) := by decide +kernel
theorem dX5_distance_7 : decode cX5_distance 7 = .ok (.getfield 9, 3) := by decide +kernel
theorem dX5_distance_10 : decode cX5_distance 10 = .ok (.iload_n 2, 1) := by decide +kernel
theorem dX5_distance_11 : decode cX5_distance 11 = .ok (.iaload, 1) := by decide +kernel
theorem dX5_distance_12 : decode cX5_distance 12 = .ok (.isub, 1) := by decide +kernel
theorem dX5_distance_13 : decode cX5_distance 13 = .ok (.istore_n 3, 1) := by decide +kernel
theorem dX5_distance_14 : decode cX5_distance 14 = .ok (.aload_n 0, 1) := by decide +kernel
theorem dX5_distance_15 : decode cX5_distance 15 = .ok (.getfield 15, 3) := by decide +kernel
theorem dX5_distance_18 : decode cX5_distance 18 = .ok (.iload_n 1, 1) := by decide +kernel
theorem dX5_distance_19 : decode cX5_distance 19 = .ok (.iaload, 1) := by decide +kernel
theorem dX5_distance_20 : decode cX5_distance 20 = .ok (.aload_n 0, 1) := by decide +kernel
theorem dX5_distance_21 : decode cX5_distance 21 = .ok (.getfield 15, 3) := by decide +kernel
theorem dX5_distance_24 : decode cX5_distance 24 = .ok (.iload_n 2, 1) := by decide +kernel
theorem dX5_distance_25 : decode cX5_distance 25 = .ok (.iaload, 1) := by decide +kernel
theorem dX5_distance_26 : decode cX5_distance 26 = .ok (.isub, 1) := by decide +kernel
theorem dX5_distance_27 : decode cX5_distance 27 = .ok (.istore 4, 2) := by decide +kernel
theorem dX5_distance_29 : decode cX5_distance 29 = .ok (.iload_n 3, 1) := by decide +kernel
theorem dX5_distance_30 : decode cX5_distance 30 = .ok (.iload_n 3, 1) := by decide +kernel
theorem dX5_distance_31 : decode cX5_distance 31 = .ok (.imul, 1) := by decide +kernel
theorem dX5_distance_32 : decode cX5_distance 32 = .ok (.iload 4, 2) := by decide +kernel
theorem dX5_distance_34 : decode cX5_distance 34 = .ok (.iload 4, 2) := by decide +kernel
theorem dX5_distance_36 : decode cX5_distance 36 = .ok (.imul, 1) := by decide +kernel
theorem dX5_distance_37 : decode cX5_distance 37 = .ok (.iadd, 1) := by decide +kernel
theorem dX5_distance_38 : decode cX5_distance 38 = .ok (.ireturn, 1) := by decide +kernel
theorem dX5_doubleAreaOf_0 : decode cX5_doubleAreaOf 0 = .ok (.aload_n 0, 1) := by decide +kernel
theorem dX5_doubleAreaOf_1 : decode cX5_doubleAreaOf 1 = .ok (.getfield 9, 3) := by decide +kernel
theorem dX5_doubleAreaOf_4 : decode cX5_doubleAreaOf 4 = .ok (.iload_n 2, 1) := by decide +kernel
theorem dX5_doubleAreaOf_5 : decode cX5_doubleAreaOf 5 = .ok (.iaload, 1) := by decide +kernel
theorem dX5_doubleAreaOf_6 : decode cX5_doubleAreaOf 6 = .ok (.aload_n 0, 1) := by decide +kernel
theorem dX5_doubleAreaOf_7 : decode cX5_doubleAreaOf 7 = .ok (.getfield 9, 3) := by decide +kernel
theorem dX5_doubleAreaOf_10 : decode cX5_doubleAreaOf 10 = .ok (.iload_n 1, 1) := by decide +kernel
theorem dX5_doubleAreaOf_11 : decode cX5_doubleAreaOf 11 = .ok (.iaload, 1) := by decide +kernel
theorem dX5_doubleAreaOf_12 : decode cX5_doubleAreaOf 12 = .ok (.isub, 1) := by decide +kernel
theorem dX5_doubleAreaOf_13 : decode cX5_doubleAreaOf 13 = .ok (.aload_n 0, 1) := by decide +kernel
theorem dX5_doubleAreaOf_14 : decode cX5_doubleAreaOf 14 = .ok (.getfield 15, 3) := by decide +kernel
theorem dX5_doubleAreaOf_17 : decode cX5_doubleAreaOf 17 = .ok (.iload_n 3, 1) := by decide +kernel
theorem dX5_doubleAreaOf_18 : decode cX5_doubleAreaOf 18 = .ok (.iaload, 1) := by decide +kernel
theorem dX5_doubleAreaOf_19 : decode cX5_doubleAreaOf 19 = .ok (.aload_n 0, 1) := by decide +kernel
theorem dX5_doubleAreaOf_20 : decode cX5_doubleAreaOf 20 = .ok (.getfield 15, 3) := by decide +kernel
theorem dX5_doubleAreaOf_23 : decode cX5_doubleAreaOf 23 = .ok (.iload_n 1, 1) := by decide +kernel
theorem dX5_doubleAreaOf_24 : decode cX5_doubleAreaOf 24 = .ok (.iaload, 1) := by decide +kernel
theorem dX5_doubleAreaOf_25 : decode cX5_doubleAreaOf 25 = .ok (.isub, 1) := by decide +kernel
theorem dX5_doubleAreaOf_26 : decode cX5_doubleAreaOf 26 = .ok (.imul, 1) := by decide +kernel
theorem dX5_doubleAreaOf_27 : decode cX5_doubleAreaOf 27 = .ok (.aload_n 0, 1) := by decide +kernel
theorem dX5_doubleAreaOf_28 : decode cX5_doubleAreaOf 28 = .ok (.getfield 15, 3) := by decide +kernel
theorem dX5_doubleAreaOf_31 : decode cX5_doubleAreaOf 31 = .ok (.iload_n 2, 1) := by decide +kernel
theorem dX5_doubleAreaOf_32 : decode cX5_doubleAreaOf 32 = .ok (.iaload, 1) := by decide +kernel
theorem dX5_doubleAreaOf_33 : decode cX5_doubleAreaOf 33 = .ok (.aload_n 0, 1) := by decide +kernel
theorem dX5_doubleAreaOf_34 : decode cX5_doubleAreaOf 34 = .ok (.getfield 15, 3) := by decide +kernel
theorem dX5_doubleAreaOf_37 : decode cX5_doubleAreaOf 37 = .ok (.iload_n 1, 1) := by decide +kernel
theorem dX5_doubleAreaOf_38 : decode cX5_doubleAreaOf 38 = .ok (.iaload, 1) := by decide +kernel
theorem dX5_doubleAreaOf_39 : decode cX5_doubleAreaOf 39 = .ok (.isub, 1) := by decide +kernel
theorem dX5_doubleAreaOf_40 : decode cX5_doubleAreaOf 40 = .ok (.aload_n 0, 1) := by decide +kernel
theorem dX5_doubleAreaOf_41 : decode cX5_doubleAreaOf 41 = .ok (.getfield 9, 3) := by decide +kernel
theorem dX5_doubleAreaOf_44 : decode cX5_doubleAreaOf 44 = .ok (.iload_n 3, 1) := by decide +kernel
theorem dX5_doubleAreaOf_45 : decode cX5_doubleAreaOf 45 = .ok (.iaload, 1) := by decide +kernel
theorem dX5_doubleAreaOf_46 : decode cX5_doubleAreaOf 46 = .ok (.aload_n 0, 1) := by decide +kernel
theorem dX5_doubleAreaOf_47 : decode cX5_doubleAreaOf 47 = .ok (.getfield 9, 3) := by decide +kernel
theorem dX5_doubleAreaOf_50 : decode cX5_doubleAreaOf 50 = .ok (.iload_n 1, 1) := by decide +kernel
theorem dX5_doubleAreaOf_51 : decode cX5_doubleAreaOf 51 = .ok (.iaload, 1) := by decide +kernel
theorem dX5_doubleAreaOf_52 : decode cX5_doubleAreaOf 52 = .ok (.isub, 1) := by decide +kernel
theorem dX5_doubleAreaOf_53 : decode cX5_doubleAreaOf 53 = .ok (.imul, 1) := by decide +kernel
theorem dX5_doubleAreaOf_54 : decode cX5_doubleAreaOf 54 = .ok (.isub, 1) := by decide +kernel
theorem dX5_doubleAreaOf_55 : decode cX5_doubleAreaOf 55 = .ok (.ireturn, 1) := by decide +kernel
theorem dX5_sideOf_0 : decode cX5_sideOf 0 = .ok (.aload_n 0, 1) := by decide +kernel
theorem dX5_sideOf_1 : decode cX5_sideOf 1 = .ok (.iload_n 1, 1) := by decide +kernel
theorem dX5_sideOf_2 : decode cX5_sideOf 2 = .ok (.iload_n 2, 1) := by decide +kernel
theorem dX5_sideOf_3 : decode cX5_sideOf 3 = .ok (.iload_n 3, 1) := by decide +kernel
theorem dX5_sideOf_4 : decode cX5_sideOf 4 = .ok (.invokevirtual 69, 3) := by decide +kernel
theorem dX5_sideOf_7 : decode cX5_sideOf 7 = .ok (.i2l, 1) := by decide +kernel
theorem dX5_sideOf_8 : decode cX5_sideOf 8 = .ok (.invokestatic 73, 3) := by decide +kernel
theorem dX5_sideOf_11 : decode cX5_sideOf 11 = .ok (.ireturn, 1) := by decide +kernel
theorem dX5_circleSideOf_0 : decode cX5_circleSideOf 0 = .ok (.aload_n 0, 1) := by decide +kernel
theorem dX5_circleSideOf_1 : decode cX5_circleSideOf 1 = .ok (.getfield 9, 3) := by decide +kernel
theorem dX5_circleSideOf_4 : decode cX5_circleSideOf 4 = .ok (.iload_n 1, 1) := by decide +kernel
theorem dX5_circleSideOf_5 : decode cX5_circleSideOf 5 = .ok (.iaload, 1) := by decide +kernel
theorem dX5_circleSideOf_6 : decode cX5_circleSideOf 6 = .ok (.aload_n 0, 1) := by decide +kernel
theorem dX5_circleSideOf_7 : decode cX5_circleSideOf 7 = .ok (.getfield 9, 3) := by decide +kernel
theorem dX5_circleSideOf_10 : decode cX5_circleSideOf 10 = .ok (.iload 4, 2) := by decide +kernel
theorem dX5_circleSideOf_12 : decode cX5_circleSideOf 12 = .ok (.iaload, 1) := by decide +kernel
theorem dX5_circleSideOf_13 : decode cX5_circleSideOf 13 = .ok (.isub, 1) := by decide +kernel
theorem dX5_circleSideOf_14 : decode cX5_circleSideOf 14 = .ok (.i2l, 1) := by decide +kernel
theorem dX5_circleSideOf_15 : decode cX5_circleSideOf 15 = .ok (.lstore 5, 2) := by decide +kernel
theorem dX5_circleSideOf_17 : decode cX5_circleSideOf 17 = .ok (.aload_n 0, 1) := by decide +kernel
theorem dX5_circleSideOf_18 : decode cX5_circleSideOf 18 = .ok (.getfield 15, 3) := by decide +kernel
theorem dX5_circleSideOf_21 : decode cX5_circleSideOf 21 = .ok (.iload_n 1, 1) := by decide +kernel
theorem dX5_circleSideOf_22 : decode cX5_circleSideOf 22 = .ok (.iaload, 1) := by decide +kernel
theorem dX5_circleSideOf_23 : decode cX5_circleSideOf 23 = .ok (.aload_n 0, 1) := by decide +kernel
theorem dX5_circleSideOf_24 : decode cX5_circleSideOf 24 = .ok (.getfield 15, 3) := by decide +kernel
theorem dX5_circleSideOf_27 : decode cX5_circleSideOf 27 = .ok (.iload 4, 2) := by decide +kernel
theorem dX5_circleSideOf_29 : decode cX5_circleSideOf 29 = .ok (.iaload, 1) := by decide +kernel
theorem dX5_circleSideOf_30 : decode cX5_circleSideOf 30 = .ok (.isub, 1) := by decide +kernel
theorem dX5_circleSideOf_31 : decode cX5_circleSideOf 31 = .ok (.i2l, 1) := by decide +kernel
theorem dX5_circleSideOf_32 : decode cX5_circleSideOf 32 = .ok (.lstore 7, 2) := by decide +kernel
theorem dX5_circleSideOf_34 : decode cX5_circleSideOf 34 = .ok (.aload_n 0, 1) := by decide +kernel
theorem dX5_circleSideOf_35 : decode cX5_circleSideOf 35 = .ok (.getfield 9, 3) := by decide +kernel
theorem dX5_circleSideOf_38 : decode cX5_circleSideOf 38 = .ok (.iload_n 2, 1) := by decide +kernel
theorem dX5_circleSideOf_39 : decode cX5_circleSideOf 39 = .ok (.iaload, 1) := by decide +kernel
theorem dX5_circleSideOf_40 : decode cX5_circleSideOf 40 = .ok (.aload_n 0, 1) := by decide +kernel
theorem dX5_circleSideOf_41 : decode cX5_circleSideOf 41 = .ok (.getfield 9, 3) := by decide +kernel
theorem dX5_circleSideOf_44 : decode cX5_circleSideOf 44 = .ok (.iload 4, 2) := by decide +kernel
theorem dX5_circleSideOf_46 : decode cX5_circleSideOf 46 = .ok (.iaload, 1) := by decide +kernel
theorem dX5_circleSideOf_47 : decode cX5_circleSideOf 47 = .ok (.isub, 1) := by decide +kernel
theorem dX5_circleSideOf_48 : decode cX5_circleSideOf 48 = .ok (.i2l, 1) := by decide +kernel
theorem dX5_circleSideOf_49 : decode cX5_circleSideOf 49 = .ok (.lstore 9, 2) := by decide +kernel
theorem dX5_circleSideOf_51 : decode cX5_circleSideOf 51 = .ok (.aload_n 0, 1) := by decide +kernel
theorem dX5_circleSideOf_52 : decode cX5_circleSideOf 52 = .ok (.getfield 15, 3) := by decide +kernel
theorem dX5_circleSideOf_55 : decode cX5_circleSideOf 55 = .ok (.iload_n 2, 1) := by decide +kernel
theorem dX5_circleSideOf_56 : decode cX5_circleSideOf 56 = .ok (.iaload, 1) := by decide +kernel
theorem dX5_circleSideOf_57 : decode cX5_circleSideOf 57 = .ok (.aload_n 0, 1) := by decide +kernel
theorem dX5_circleSideOf_58 : decode cX5_circleSideOf 58 = .ok (.getfield 15, 3) := by decide +kernel
theorem dX5_circleSideOf_61 : decode cX5_circleSideOf 61 = .ok (.iload 4, 2) := by decide +kernel
theorem dX5_circleSideOf_63 : decode cX5_circleSideOf 63 = .ok (.iaload, 1) := by decide +kernel
theorem dX5_circleSideOf_64 : decode cX5_circleSideOf 64 = .ok (.isub, 1) := by decide +kernel
theorem dX5_circleSideOf_65 : decode cX5_circleSideOf 65 = .ok (.i2l, 1) := by decide +kernel
theorem dX5_circleSideOf_66 : decode cX5_circleSideOf 66 = .ok (.lstore 11, 2) := by decide +kernel
theorem dX5_circleSideOf_68 : decode cX5_circleSideOf 68 = .ok (.aload_n 0, 1) := by decide +kernel
theorem dX5_circleSideOf_69 : decode cX5_circleSideOf 69 = .ok (.getfield 9, 3) := by decide +kernel
theorem dX5_circleSideOf_72 : decode cX5_circleSideOf 72 = .ok (.iload_n 3, 1) := by decide +kernel
theorem dX5_circleSideOf_73 : decode cX5_circleSideOf 73 = .ok (.iaload, 1) := by decide +kernel
theorem dX5_circleSideOf_74 : decode cX5_circleSideOf 74 = .ok (.aload_n 0, 1) := by decide +kernel
theorem dX5_circleSideOf_75 : decode cX5_circleSideOf 75 = .ok (.getfield 9, 3) := by decide +kernel
theorem dX5_circleSideOf_78 : decode cX5_circleSideOf 78 = .ok (.iload 4, 2) := by decide +kernel
theorem dX5_circleSideOf_80 : decode cX5_circleSideOf 80 = .ok (.iaload, 1) := by decide +kernel
theorem dX5_circleSideOf_81 : decode cX5_circleSideOf 81 = .ok (.isub, 1) := by decide +kernel
theorem dX5_circleSideOf_82 : decode cX5_circleSideOf 82 = .ok (.i2l, 1) := by decide +kernel
theorem dX5_circleSideOf_83 : decode cX5_circleSideOf 83 = .ok (.lstore 13, 2) := by decide +kernel
theorem dX5_circleSideOf_85 : decode cX5_circleSideOf 85 = .ok (.aload_n 0, 1) := by decide +kernel
theorem dX5_circleSideOf_86 : decode cX5_circleSideOf 86 = .ok (.getfield 15, 3) := by decide +kernel
theorem dX5_circleSideOf_89 : decode cX5_circleSideOf 89 = .ok (.iload_n 3, 1) := by decide +kernel
theorem dX5_circleSideOf_90 : decode cX5_circleSideOf 90 = .ok (.iaload, 1) := by decide +kernel
theorem dX5_circleSideOf_91 : decode cX5_circleSideOf 91 = .ok (.aload_n 0, 1) := by decide +kernel
theorem dX5_circleSideOf_92 : decode cX5_circleSideOf 92 = .ok (.getfield 15, 3) := by decide +kernel
theorem dX5_circleSideOf_95 : decode cX5_circleSideOf 95 = .ok (.iload 4, 2) := by decide +kernel
theorem dX5_circleSideOf_97 : decode cX5_circleSideOf 97 = .ok (.iaload, 1) := by decide +kernel
theorem dX5_circleSideOf_98 : decode cX5_circleSideOf 98 = .ok (.isub, 1) := by decide +kernel
theorem dX5_circleSideOf_99 : decode cX5_circleSideOf 99 = .ok (.i2l, 1) := by decide +kernel
theorem dX5_circleSideOf_100 : decode cX5_circleSideOf 100 = .ok (.lstore 15, 2) := by decide +kernel
theorem dX5_circleSideOf_102 : decode cX5_circleSideOf 102 = .ok (.lload 5, 2) := by decide +kernel
theorem dX5_circleSideOf_104 : decode cX5_circleSideOf 104 = .ok (.lload 5, 2) := by decide +kernel
theorem dX5_circleSideOf_106 : decode cX5_circleSideOf 106 = .ok (.lmul, 1) := by decide +kernel
theorem dX5_circleSideOf_107 : decode cX5_circleSideOf 107 = .ok (.lload 7, 2) := by decide +kernel
theorem dX5_circleSideOf_109 : decode cX5_circleSideOf 109 = .ok (.lload 7, 2) := by decide +kernel
theorem dX5_circleSideOf_111 : decode cX5_circleSideOf 111 = .ok (.lmul, 1) := by decide +kernel
theorem dX5_circleSideOf_112 : decode cX5_circleSideOf 112 = .ok (.ladd, 1) := by decide +kernel
theorem dX5_circleSideOf_113 : decode cX5_circleSideOf 113 = .ok (.lload 9, 2) := by decide +kernel
theorem dX5_circleSideOf_115 : decode cX5_circleSideOf 115 = .ok (.lload 15, 2) := by decide +kernel
theorem dX5_circleSideOf_117 : decode cX5_circleSideOf 117 = .ok (.lmul, 1) := by decide +kernel
theorem dX5_circleSideOf_118 : decode cX5_circleSideOf 118 = .ok (.lload 11, 2) := by decide +kernel
theorem dX5_circleSideOf_120 : decode cX5_circleSideOf 120 = .ok (.lload 13, 2) := by decide +kernel
theorem dX5_circleSideOf_122 : decode cX5_circleSideOf 122 = .ok (.lmul, 1) := by decide +kernel
theorem dX5_circleSideOf_123 : decode cX5_circleSideOf 123 = .ok (.lsub, 1) := by decide +kernel
theorem dX5_circleSideOf_124 : decode cX5_circleSideOf 124 = .ok (.lmul, 1) := by decide +kernel
theorem dX5_circleSideOf_125 : decode cX5_circleSideOf 125 = .ok (.lload 9, 2) := by decide +kernel
theorem dX5_circleSideOf_127 : decode cX5_circleSideOf 127 = .ok (.lload 9, 2) := by decide +kernel
theorem dX5_circleSideOf_129 : decode cX5_circleSideOf 129 = .ok (.lmul, 1) := by decide +kernel
theorem dX5_circleSideOf_130 : decode cX5_circleSideOf 130 = .ok (.lload 11, 2) := by decide +kernel
theorem dX5_circleSideOf_132 : decode cX5_circleSideOf 132 = .ok (.lload 11, 2) := by decide +kernel
theorem dX5_circleSideOf_134 : decode cX5_circleSideOf 134 = .ok (.lmul, 1) := by decide +kernel
theorem dX5_circleSideOf_135 : decode cX5_circleSideOf 135 = .ok (.ladd, 1) := by decide +kernel
theorem dX5_circleSideOf_136 : decode cX5_circleSideOf 136 = .ok (.lload 13, 2) := by decide +kernel
theorem dX5_circleSideOf_138 : decode cX5_circleSideOf 138 = .ok (.lload 7, 2) := by decide +kernel
theorem dX5_circleSideOf_140 : decode cX5_circleSideOf 140 = .ok (.lmul, 1) := by decide +kernel
theorem dX5_circleSideOf_141 : decode cX5_circleSideOf 141 = .ok (.lload 15, 2) := by decide +kernel
theorem dX5_circleSideOf_143 : decode cX5_circleSideOf 143 = .ok (.lload 5, 2) := by decide +kernel
theorem dX5_circleSideOf_145 : decode cX5_circleSideOf 145 = .ok (.lmul, 1) := by decide +kernel
theorem dX5_circleSideOf_146 : decode cX5_circleSideOf 146 = .ok (.lsub, 1) := by decide +kernel
theorem dX5_circleSideOf_147 : decode cX5_circleSideOf 147 = .ok (.lmul, 1) := by decide +kernel
theorem dX5_circleSideOf_148 : decode cX5_circleSideOf 148 = .ok (.ladd, 1) := by decide +kernel
theorem dX5_circleSideOf_149 : decode cX5_circleSideOf 149 = .ok (.lload 13, 2) := by decide +kernel
theorem dX5_circleSideOf_151 : decode cX5_circleSideOf 151 = .ok (.lload 13, 2) := by decide +kernel
theorem dX5_circleSideOf_153 : decode cX5_circleSideOf 153 = .ok (.lmul, 1) := by decide +kernel
theorem dX5_circleSideOf_154 : decode cX5_circleSideOf 154 = .ok (.lload 15, 2) := by decide +kernel
theorem dX5_circleSideOf_156 : decode cX5_circleSideOf 156 = .ok (.lload 15, 2) := by decide +kernel
theorem dX5_circleSideOf_158 : decode cX5_circleSideOf 158 = .ok (.lmul, 1) := by decide +kernel
theorem dX5_circleSideOf_159 : decode cX5_circleSideOf 159 = .ok (.ladd, 1) := by decide +kernel
theorem dX5_circleSideOf_160 : decode cX5_circleSideOf 160 = .ok (.lload 5, 2) := by decide +kernel
theorem dX5_circleSideOf_162 : decode cX5_circleSideOf 162 = .ok (.lload 11, 2) := by decide +kernel
theorem dX5_circleSideOf_164 : decode cX5_circleSideOf 164 = .ok (.lmul, 1) := by decide +kernel
theorem dX5_circleSideOf_165 : decode cX5_circleSideOf 165 = .ok (.lload 7, 2) := by decide +kernel
theorem dX5_circleSideOf_167 : decode cX5_circleSideOf 167 = .ok (.lload 9, 2) := by decide +kernel
theorem dX5_circleSideOf_169 : decode cX5_circleSideOf 169 = .ok (.lmul, 1) := by decide +kernel
theorem dX5_circleSideOf_170 : decode cX5_circleSideOf 170 = .ok (.lsub, 1) := by decide +kernel
theorem dX5_circleSideOf_171 : decode cX5_circleSideOf 171 = .ok (.lmul, 1) := by decide +kernel
theorem dX5_circleSideOf_172 : decode cX5_circleSideOf 172 = .ok (.ladd, 1) := by decide +kernel
theorem dX5_circleSideOf_173 : decode cX5_circleSideOf 173 = .ok (.lstore 17, 2) := by decide +kernel
theorem dX5_circleSideOf_175 : decode cX5_circleSideOf 175 = .ok (.lload 17, 2) := by decide +kernel
theorem dX5_circleSideOf_177 : decode cX5_circleSideOf 177 = .ok (.invokestatic 73, 3) := by decide +kernel
theorem dX5_circleSideOf_180 : decode cX5_circleSideOf 180 = .ok (.aload_n 0, 1) := by decide +kernel
theorem dX5_circleSideOf_181 : decode cX5_circleSideOf 181 = .ok (.iload_n 1, 1) := by decide +kernel
theorem dX5_circleSideOf_182 : decode cX5_circleSideOf 182 = .ok (.iload_n 2, 1) := by decide +kernel
theorem dX5_circleSideOf_183 : decode cX5_circleSideOf 183 = .ok (.iload_n 3, 1) := by decide +kernel
theorem dX5_circleSideOf_184 : decode cX5_circleSideOf 184 = .ok (.invokevirtual 77, 3) := by decide +kernel
theorem dX5_circleSideOf_187 : decode cX5_circleSideOf 187 = .ok (.imul, 1) := by decide +kernel
theorem dX5_circleSideOf_188 : decode cX5_circleSideOf 188 = .ok (.ireturn, 1) := by decide +kernel
theorem dX5_someTurn_0 : decode cX5_someTurn 0 = .ok (.iconst (-1), 1) := by decide +kernel
theorem dX5_someTurn_1 : decode cX5_someTurn 1 = .ok (.istore_n 1, 1) := by decide +kernel
theorem dX5_someTurn_2 : decode cX5_someTurn 2 = .ok (.iconst (-1), 1) := by decide +kernel
theorem dX5_someTurn_3 : decode cX5_someTurn 3 = .ok (.istore_n 2, 1) := by decide +kernel
theorem dX5_someTurn_4 : decode cX5_someTurn 4 = .ok (.iconst 0, 1) := by decide +kernel
theorem dX5_someTurn_5 : decode cX5_someTurn 5 = .ok (.istore_n 3, 1) := by decide +kernel
theorem dX5_someTurn_6 : decode cX5_someTurn 6 = .ok (.iload_n 3, 1) := by decide +kernel
theorem dX5_someTurn_7 : decode cX5_someTurn 7 = .ok (.bipush 12, 2) := by decide +kernel
theorem dX5_someTurn_9 : decode cX5_someTurn 9 = .ok (.if_icmp .ge 52, 3) := by decide +kernel
theorem dX5_someTurn_12 : decode cX5_someTurn 12 = .ok (.aload_n 0, 1) := by decide +kernel
theorem dX5_someTurn_13 : decode cX5_someTurn 13 = .ok (.iload_n 3, 1) := by decide +kernel
theorem dX5_someTurn_14 : decode cX5_someTurn 14 = .ok (.invokevirtual 41, 3) := by decide +kernel
theorem dX5_someTurn_17 : decode cX5_someTurn 17 = .ok (.ifCond .ne 6, 3) := by decide +kernel
theorem dX5_someTurn_20 : decode cX5_someTurn 20 = .ok (.goto 35, 3) := by decide +kernel
theorem dX5_someTurn_23 : decode cX5_someTurn 23 = .ok (.iload_n 1, 1) := by decide +kernel
theorem dX5_someTurn_24 : decode cX5_someTurn 24 = .ok (.iconst (-1), 1) := by decide +kernel
theorem dX5_someTurn_25 : decode cX5_someTurn 25 = .ok (.if_icmp .ne 8, 3) := by decide +kernel
theorem dX5_someTurn_28 : decode cX5_someTurn 28 = .ok (.iload_n 3, 1) := by decide +kernel
theorem dX5_someTurn_29 : decode cX5_someTurn 29 = .ok (.istore_n 1, 1) := by decide +kernel
theorem dX5_someTurn_30 : decode cX5_someTurn 30 = .ok (.goto 25, 3) := by decide +kernel
theorem dX5_someTurn_33 : decode cX5_someTurn 33 = .ok (.iload_n 2, 1) := by decide +kernel
theorem dX5_someTurn_34 : decode cX5_someTurn 34 = .ok (.iconst (-1), 1) := by decide +kernel
theorem dX5_someTurn_35 : decode cX5_someTurn 35 = .ok (.if_icmp .ne 8, 3) := by decide +kernel
theorem dX5_someTurn_38 : decode cX5_someTurn 38 = .ok (.iload_n 3, 1) := by decide +kernel
theorem dX5_someTurn_39 : decode cX5_someTurn 39 = .ok (.istore_n 2, 1) := by decide +kernel
theorem dX5_someTurn_40 : decode cX5_someTurn 40 = .ok (.goto 15, 3) := by decide +kernel
theorem dX5_someTurn_43 : decode cX5_someTurn 43 = .ok (.aload_n 0, 1) := by decide +kernel
theorem dX5_someTurn_44 : decode cX5_someTurn 44 = .ok (.iload_n 1, 1) := by decide +kernel
theorem dX5_someTurn_45 : decode cX5_someTurn 45 = .ok (.iload_n 2, 1) := by decide +kernel
theorem dX5_someTurn_46 : decode cX5_someTurn 46 = .ok (.iload_n 3, 1) := by decide +kernel
theorem dX5_someTurn_47 : decode cX5_someTurn 47 = .ok (.invokevirtual 77, 3) := by decide +kernel
theorem dX5_someTurn_50 : decode cX5_someTurn 50 = .ok (.ifCond .eq 5, 3) := by decide +kernel
theorem dX5_someTurn_53 : decode cX5_someTurn 53 = .ok (.iconst 1, 1) := by decide +kernel
theorem dX5_someTurn_54 : decode cX5_someTurn 54 = .ok (.ireturn, 1) := by decide +kernel
theorem dX5_someTurn_55 : decode cX5_someTurn 55 = .ok (.iinc 3 1, 3) := by decide +kernel
theorem dX5_someTurn_58 : decode cX5_someTurn 58 = .ok (.goto (-52), 3) := by decide +kernel
theorem dX5_someTurn_61 : decode cX5_someTurn 61 = .ok (.iconst 0, 1) := by decide +kernel
theorem dX5_someTurn_62 : decode cX5_someTurn 62 = .ok (.ireturn, 1) := by decide +kernel
theorem dX5_nearestAfter_0 : decode cX5_nearestAfter 0 = .ok (.iconst (-1), 1) := by decide +kernel
theorem dX5_nearestAfter_1 : decode cX5_nearestAfter 1 = .ok (.istore 4, 2) := by decide +kernel
theorem dX5_nearestAfter_3 : decode cX5_nearestAfter 3 = .ok (.iconst 0, 1) := by decide +kernel
theorem dX5_nearestAfter_4 : decode cX5_nearestAfter 4 = .ok (.istore 5, 2) := by decide +kernel
theorem dX5_nearestAfter_6 : decode cX5_nearestAfter 6 = .ok (.iconst 0, 1) := by decide +kernel
theorem dX5_nearestAfter_7 : decode cX5_nearestAfter 7 = .ok (.istore 6, 2) := by decide +kernel
theorem dX5_nearestAfter_9 : decode cX5_nearestAfter 9 = .ok (.iload 6, 2) := by decide +kernel
theorem dX5_nearestAfter_11 : decode cX5_nearestAfter 11 = .ok (.bipush 12, 2) := by decide +kernel
theorem dX5_nearestAfter_13 : decode cX5_nearestAfter 13 = .ok (.if_icmp .ge 94, 3) := by decide +kernel
theorem dX5_nearestAfter_16 : decode cX5_nearestAfter 16 = .ok (.aload_n 0, 1) := by decide +kernel
theorem dX5_nearestAfter_17 : decode cX5_nearestAfter 17 = .ok (.iload 6, 2) := by decide +kernel
theorem dX5_nearestAfter_19 : decode cX5_nearestAfter 19 = .ok (.invokevirtual 41, 3) := by decide +kernel
theorem dX5_nearestAfter_22 : decode cX5_nearestAfter 22 = .ok (.ifCond .eq 79, 3) := by decide +kernel
theorem dX5_nearestAfter_25 : decode cX5_nearestAfter 25 = .ok (.aload_n 0, 1) := by decide +kernel
theorem dX5_nearestAfter_26 : decode cX5_nearestAfter 26 = .ok (.getfield 9, 3) := by decide +kernel
theorem dX5_nearestAfter_29 : decode cX5_nearestAfter 29 = .ok (.iload 6, 2) := by decide +kernel
theorem dX5_nearestAfter_31 : decode cX5_nearestAfter 31 = .ok (.iaload, 1) := by decide +kernel
theorem dX5_nearestAfter_32 : decode cX5_nearestAfter 32 = .ok (.iload_n 1, 1) := by decide +kernel
theorem dX5_nearestAfter_33 : decode cX5_nearestAfter 33 = .ok (.aload_n 0, 1) := by decide +kernel
theorem dX5_nearestAfter_34 : decode cX5_nearestAfter 34 = .ok (.getfield 21, 3) := by decide +kernel
theorem dX5_nearestAfter_37 : decode cX5_nearestAfter 37 = .ok (.iload 6, 2) := by decide +kernel
theorem dX5_nearestAfter_39 : decode cX5_nearestAfter 39 = .ok (.iaload, 1) := by decide +kernel
theorem dX5_nearestAfter_40 : decode cX5_nearestAfter 40 = .ok (.imul, 1) := by decide +kernel
theorem dX5_nearestAfter_41 : decode cX5_nearestAfter 41 = .ok (.iadd, 1) := by decide +kernel
theorem dX5_nearestAfter_42 : decode cX5_nearestAfter 42 = .ok (.iload_n 2, 1) := by decide +kernel
theorem dX5_nearestAfter_43 : decode cX5_nearestAfter 43 = .ok (.isub, 1) := by decide +kernel
theorem dX5_nearestAfter_44 : decode cX5_nearestAfter 44 = .ok (.istore 7, 2) := by decide +kernel
theorem dX5_nearestAfter_46 : decode cX5_nearestAfter 46 = .ok (.aload_n 0, 1) := by decide +kernel
theorem dX5_nearestAfter_47 : decode cX5_nearestAfter 47 = .ok (.getfield 15, 3) := by decide +kernel
theorem dX5_nearestAfter_50 : decode cX5_nearestAfter 50 = .ok (.iload 6, 2) := by decide +kernel
theorem dX5_nearestAfter_52 : decode cX5_nearestAfter 52 = .ok (.iaload, 1) := by decide +kernel
theorem dX5_nearestAfter_53 : decode cX5_nearestAfter 53 = .ok (.iload_n 1, 1) := by decide +kernel
theorem dX5_nearestAfter_54 : decode cX5_nearestAfter 54 = .ok (.aload_n 0, 1) := by decide +kernel
theorem dX5_nearestAfter_55 : decode cX5_nearestAfter 55 = .ok (.getfield 24, 3) := by decide +kernel
theorem dX5_nearestAfter_58 : decode cX5_nearestAfter 58 = .ok (.iload 6, 2) := by decide +kernel
theorem dX5_nearestAfter_60 : decode cX5_nearestAfter 60 = .ok (.iaload, 1) := by decide +kernel
theorem dX5_nearestAfter_61 : decode cX5_nearestAfter 61 = .ok (.imul, 1) := by decide +kernel
theorem dX5_nearestAfter_62 : decode cX5_nearestAfter 62 = .ok (.iadd, 1) := by decide +kernel
theorem dX5_nearestAfter_63 : decode cX5_nearestAfter 63 = .ok (.iload_n 3, 1) := by decide +kernel
theorem dX5_nearestAfter_64 : decode cX5_nearestAfter 64 = .ok (.isub, 1) := by decide +kernel
theorem dX5_nearestAfter_65 : decode cX5_nearestAfter 65 = .ok (.istore 8, 2) := by decide +kernel
theorem dX5_nearestAfter_67 : decode cX5_nearestAfter 67 = .ok (.iload 7, 2) := by decide +kernel
theorem dX5_nearestAfter_69 : decode cX5_nearestAfter 69 = .ok (.iload 7, 2) := by decide +kernel
theorem dX5_nearestAfter_71 : decode cX5_nearestAfter 71 = .ok (.imul, 1) := by decide +kernel
theorem dX5_nearestAfter_72 : decode cX5_nearestAfter 72 = .ok (.iload 8, 2) := by decide +kernel
theorem dX5_nearestAfter_74 : decode cX5_nearestAfter 74 = .ok (.iload 8, 2) := by decide +kernel
theorem dX5_nearestAfter_76 : decode cX5_nearestAfter 76 = .ok (.imul, 1) := by decide +kernel
theorem dX5_nearestAfter_77 : decode cX5_nearestAfter 77 = .ok (.iadd, 1) := by decide +kernel
theorem dX5_nearestAfter_78 : decode cX5_nearestAfter 78 = .ok (.istore 9, 2) := by decide +kernel
theorem dX5_nearestAfter_80 : decode cX5_nearestAfter 80 = .ok (.iload 4, 2) := by decide +kernel
theorem dX5_nearestAfter_82 : decode cX5_nearestAfter 82 = .ok (.iconst (-1), 1) := by decide +kernel
theorem dX5_nearestAfter_83 : decode cX5_nearestAfter 83 = .ok (.if_icmp .eq 10, 3) := by decide +kernel
theorem dX5_nearestAfter_86 : decode cX5_nearestAfter 86 = .ok (.iload 9, 2) := by decide +kernel
theorem dX5_nearestAfter_88 : decode cX5_nearestAfter 88 = .ok (.iload 5, 2) := by decide +kernel
theorem dX5_nearestAfter_90 : decode cX5_nearestAfter 90 = .ok (.if_icmp .ge 11, 3) := by decide +kernel
theorem dX5_nearestAfter_93 : decode cX5_nearestAfter 93 = .ok (.iload 6, 2) := by decide +kernel
theorem dX5_nearestAfter_95 : decode cX5_nearestAfter 95 = .ok (.istore 4, 2) := by decide +kernel
theorem dX5_nearestAfter_97 : decode cX5_nearestAfter 97 = .ok (.iload 9, 2) := by decide +kernel
theorem dX5_nearestAfter_99 : decode cX5_nearestAfter 99 = .ok (.istore 5, 2) := by decide +kernel
theorem dX5_nearestAfter_101 : decode cX5_nearestAfter 101 = .ok (.iinc 6 1, 3) := by decide +kernel
theorem dX5_nearestAfter_104 : decode cX5_nearestAfter 104 = .ok (.goto (-95), 3) := by decide +kernel
theorem dX5_nearestAfter_107 : decode cX5_nearestAfter 107 = .ok (.iload 4, 2) := by decide +kernel
theorem dX5_nearestAfter_109 : decode cX5_nearestAfter 109 = .ok (.ireturn, 1) := by decide +kernel
theorem dX5_hasRoomAfter_0 : decode cX5_hasRoomAfter 0 = .ok (.iconst 0, 1) := by decide +kernel
theorem dX5_hasRoomAfter_1 : decode cX5_hasRoomAfter 1 = .ok (.istore_n 2, 1) := by decide +kernel
theorem dX5_hasRoomAfter_2 : decode cX5_hasRoomAfter 2 = .ok (.iload_n 2, 1) := by decide +kernel
theorem dX5_hasRoomAfter_3 : decode cX5_hasRoomAfter 3 = .ok (.bipush 12, 2) := by decide +kernel
theorem dX5_hasRoomAfter_5 : decode cX5_hasRoomAfter 5 = .ok (.if_icmp .ge 37, 3) := by decide +kernel
theorem dX5_hasRoomAfter_8 : decode cX5_hasRoomAfter 8 = .ok (.aload_n 0, 1) := by decide +kernel
theorem dX5_hasRoomAfter_9 : decode cX5_hasRoomAfter 9 = .ok (.iload_n 2, 1) := by decide +kernel
theorem dX5_hasRoomAfter_10 : decode cX5_hasRoomAfter 10 = .ok (.invokevirtual 41, 3) := by decide +kernel
theorem dX5_hasRoomAfter_13 : decode cX5_hasRoomAfter 13 = .ok (.ifCond .eq 23, 3) := by decide +kernel
theorem dX5_hasRoomAfter_16 : decode cX5_hasRoomAfter 16 = .ok (.aload_n 0, 1) := by decide +kernel
theorem dX5_hasRoomAfter_17 : decode cX5_hasRoomAfter 17 = .ok (.iload_n 1, 1) := by decide +kernel
theorem dX5_hasRoomAfter_18 : decode cX5_hasRoomAfter 18 = .ok (.iload_n 2, 1) := by decide +kernel
theorem dX5_hasRoomAfter_19 : decode cX5_hasRoomAfter 19 = .ok (.invokevirtual 80, 3) := by decide +kernel
theorem dX5_hasRoomAfter_22 : decode cX5_hasRoomAfter 22 = .ok (.ifCond .ne 12, 3) := by decide +kernel
theorem dX5_hasRoomAfter_25 : decode cX5_hasRoomAfter 25 = .ok (.aload_n 0, 1) := by decide +kernel
theorem dX5_hasRoomAfter_26 : decode cX5_hasRoomAfter 26 = .ok (.iload_n 1, 1) := by decide +kernel
theorem dX5_hasRoomAfter_27 : decode cX5_hasRoomAfter 27 = .ok (.iload_n 2, 1) := by decide +kernel
theorem dX5_hasRoomAfter_28 : decode cX5_hasRoomAfter 28 = .ok (.invokevirtual 83, 3) := by decide +kernel
theorem dX5_hasRoomAfter_31 : decode cX5_hasRoomAfter 31 = .ok (.ifCond .eq 5, 3) := by decide +kernel
theorem dX5_hasRoomAfter_34 : decode cX5_hasRoomAfter 34 = .ok (.iconst 0, 1) := by decide +kernel
theorem dX5_hasRoomAfter_35 : decode cX5_hasRoomAfter 35 = .ok (.ireturn, 1) := by decide +kernel
theorem dX5_hasRoomAfter_36 : decode cX5_hasRoomAfter 36 = .ok (.iinc 2 1, 3) := by decide +kernel
theorem dX5_hasRoomAfter_39 : decode cX5_hasRoomAfter 39 = .ok (.goto (-37), 3) := by decide +kernel
theorem dX5_hasRoomAfter_42 : decode cX5_hasRoomAfter 42 = .ok (.iconst 1, 1) := by decide +kernel
theorem dX5_hasRoomAfter_43 : decode cX5_hasRoomAfter 43 = .ok (.ireturn, 1) := by decide +kernel
theorem dX5_isBeyondAfter_0 : decode cX5_isBeyondAfter 0 = .ok (.aload_n 0, 1) := by decide +kernel
theorem dX5_isBeyondAfter_1 : decode cX5_isBeyondAfter 1 = .ok (.getfield 9, 3) := by decide +kernel
theorem dX5_isBeyondAfter_4 : decode cX5_isBeyondAfter 4 = .ok (.iload_n 2, 1) := by decide +kernel
theorem dX5_isBeyondAfter_5 : decode cX5_isBeyondAfter 5 = .ok (.iaload, 1) := by decide +kernel
theorem dX5_isBeyondAfter_6 : decode cX5_isBeyondAfter 6 = .ok (.iload_n 1, 1) := by decide +kernel
theorem dX5_isBeyondAfter_7 : decode cX5_isBeyondAfter 7 = .ok (.aload_n 0, 1) := by decide +kernel
theorem dX5_isBeyondAfter_8 : decode cX5_isBeyondAfter 8 = .ok (.getfield 21, 3) := by decide +kernel
theorem dX5_isBeyondAfter_11 : decode cX5_isBeyondAfter 11 = .ok (.iload_n 2, 1) := by decide +kernel
theorem dX5_isBeyondAfter_12 : decode cX5_isBeyondAfter 12 = .ok (.iaload, 1) := by decide +kernel
theorem dX5_isBeyondAfter_13 : decode cX5_isBeyondAfter 13 = .ok (.imul, 1) := by decide +kernel
theorem dX5_isBeyondAfter_14 : decode cX5_isBeyondAfter 14 = .ok (.iadd, 1) := by decide +kernel
theorem dX5_isBeyondAfter_15 : decode cX5_isBeyondAfter 15 = .ok (.invokestatic 52, 3) := by decide +kernel
theorem dX5_isBeyondAfter_18 : decode cX5_isBeyondAfter 18 = .ok (.bipush 100, 2) := by decide +kernel
theorem dX5_isBeyondAfter_20 : decode cX5_isBeyondAfter 20 = .ok (.if_icmp .gt 26, 3) := by decide +kernel
theorem dX5_isBeyondAfter_23 : decode cX5_isBeyondAfter 23 = .ok (.aload_n 0, 1) := by decide +kernel
theorem dX5_isBeyondAfter_24 : decode cX5_isBeyondAfter 24 = .ok (.getfield 15, 3) := by decide +kernel
theorem dX5_isBeyondAfter_27 : decode cX5_isBeyondAfter 27 = .ok (.iload_n 2, 1) := by decide +kernel
theorem dX5_isBeyondAfter_28 : decode cX5_isBeyondAfter 28 = .ok (.iaload, 1) := by decide +kernel
theorem dX5_isBeyondAfter_29 : decode cX5_isBeyondAfter 29 = .ok (.iload_n 1, 1) := by decide +kernel
theorem dX5_isBeyondAfter_30 : decode cX5_isBeyondAfter 30 = .ok (.aload_n 0, 1) := by decide +kernel
theorem dX5_isBeyondAfter_31 : decode cX5_isBeyondAfter 31 = .ok (.getfield 24, 3) := by decide +kernel
theorem dX5_isBeyondAfter_34 : decode cX5_isBeyondAfter 34 = .ok (.iload_n 2, 1) := by decide +kernel
theorem dX5_isBeyondAfter_35 : decode cX5_isBeyondAfter 35 = .ok (.iaload, 1) := by decide +kernel
theorem dX5_isBeyondAfter_36 : decode cX5_isBeyondAfter 36 = .ok (.imul, 1) := by decide +kernel
theorem dX5_isBeyondAfter_37 : decode cX5_isBeyondAfter 37 = .ok (.iadd, 1) := by decide +kernel
theorem dX5_isBeyondAfter_38 : decode cX5_isBeyondAfter 38 = .ok (.invokestatic 52, 3) := by decide +kernel
theorem dX5_isBeyondAfter_41 : decode cX5_isBeyondAfter 41 = .ok (.bipush 100, 2) := by decide +kernel
theorem dX5_isBeyondAfter_43 : decode cX5_isBeyondAfter 43 = .ok (.if_icmp .le 7, 3) := by decide +kernel
theorem dX5_isBeyondAfter_46 : decode cX5_isBeyondAfter 46 = .ok (.iconst 1, 1) := by decide +kernel
theorem dX5_isBeyondAfter_47 : decode cX5_isBeyondAfter 47 = .ok (.goto 4, 3) := by decide +kernel
theorem dX5_isBeyondAfter_50 : decode cX5_isBeyondAfter 50 = .ok (.iconst 0, 1) := by decide +kernel
theorem dX5_isBeyondAfter_51 : decode cX5_isBeyondAfter 51 = .ok (.ireturn, 1) := by decide +kernel
theorem dX5_isMetAfter_0 : decode cX5_isMetAfter 0 = .ok (.iconst 0, 1) := by decide +kernel
theorem dX5_isMetAfter_1 : decode cX5_isMetAfter 1 = .ok (.istore_n 3, 1) := by decide +kernel
theorem dX5_isMetAfter_2 : decode cX5_isMetAfter 2 = .ok (.iload_n 3, 1) := by decide +kernel
theorem dX5_isMetAfter_3 : decode cX5_isMetAfter 3 = .ok (.iload_n 2, 1) := by decide +kernel
theorem dX5_isMetAfter_4 : decode cX5_isMetAfter 4 = .ok (.if_icmp .ge 85, 3) := by decide +kernel
theorem dX5_isMetAfter_7 : decode cX5_isMetAfter 7 = .ok (.aload_n 0, 1) := by decide +kernel
theorem dX5_isMetAfter_8 : decode cX5_isMetAfter 8 = .ok (.iload_n 3, 1) := by decide +kernel
theorem dX5_isMetAfter_9 : decode cX5_isMetAfter 9 = .ok (.invokevirtual 41, 3) := by decide +kernel
theorem dX5_isMetAfter_12 : decode cX5_isMetAfter 12 = .ok (.ifCond .eq 71, 3) := by decide +kernel
theorem dX5_isMetAfter_15 : decode cX5_isMetAfter 15 = .ok (.aload_n 0, 1) := by decide +kernel
theorem dX5_isMetAfter_16 : decode cX5_isMetAfter 16 = .ok (.getfield 9, 3) := by decide +kernel
theorem dX5_isMetAfter_19 : decode cX5_isMetAfter 19 = .ok (.iload_n 2, 1) := by decide +kernel
theorem dX5_isMetAfter_20 : decode cX5_isMetAfter 20 = .ok (.iaload, 1) := by decide +kernel
theorem dX5_isMetAfter_21 : decode cX5_isMetAfter 21 = .ok (.iload_n 1, 1) := by decide +kernel
theorem dX5_isMetAfter_22 : decode cX5_isMetAfter 22 = .ok (.aload_n 0, 1) := by decide +kernel
theorem dX5_isMetAfter_23 : decode cX5_isMetAfter 23 = .ok (.getfield 21, 3) := by decide +kernel
theorem dX5_isMetAfter_26 : decode cX5_isMetAfter 26 = .ok (.iload_n 2, 1) := by decide +kernel
theorem dX5_isMetAfter_27 : decode cX5_isMetAfter 27 = .ok (.iaload, 1) := by decide +kernel
theorem dX5_isMetAfter_28 : decode cX5_isMetAfter 28 = .ok (.imul, 1) := by decide +kernel
theorem dX5_isMetAfter_29 : decode cX5_isMetAfter 29 = .ok (.iadd, 1) := by decide +kernel
theorem dX5_isMetAfter_30 : decode cX5_isMetAfter 30 = .ok (.aload_n 0, 1) := by decide +kernel
theorem dX5_isMetAfter_31 : decode cX5_isMetAfter 31 = .ok (.getfield 9, 3) := by decide +kernel
theorem dX5_isMetAfter_34 : decode cX5_isMetAfter 34 = .ok (.iload_n 3, 1) := by decide +kernel
theorem dX5_isMetAfter_35 : decode cX5_isMetAfter 35 = .ok (.iaload, 1) := by decide +kernel
theorem dX5_isMetAfter_36 : decode cX5_isMetAfter 36 = .ok (.iload_n 1, 1) := by decide +kernel
theorem dX5_isMetAfter_37 : decode cX5_isMetAfter 37 = .ok (.aload_n 0, 1) := by decide +kernel
theorem dX5_isMetAfter_38 : decode cX5_isMetAfter 38 = .ok (.getfield 21, 3) := by decide +kernel
theorem dX5_isMetAfter_41 : decode cX5_isMetAfter 41 = .ok (.iload_n 3, 1) := by decide +kernel
theorem dX5_isMetAfter_42 : decode cX5_isMetAfter 42 = .ok (.iaload, 1) := by decide +kernel
theorem dX5_isMetAfter_43 : decode cX5_isMetAfter 43 = .ok (.imul, 1) := by decide +kernel
theorem dX5_isMetAfter_44 : decode cX5_isMetAfter 44 = .ok (.iadd, 1) := by decide +kernel
theorem dX5_isMetAfter_45 : decode cX5_isMetAfter 45 = .ok (.if_icmp .ne 38, 3) := by decide +kernel
theorem dX5_isMetAfter_48 : decode cX5_isMetAfter 48 = .ok (.aload_n 0, 1) := by decide +kernel
theorem dX5_isMetAfter_49 : decode cX5_isMetAfter 49 = .ok (.getfield 15, 3) := by decide +kernel
theorem dX5_isMetAfter_52 : decode cX5_isMetAfter 52 = .ok (.iload_n 2, 1) := by decide +kernel
theorem dX5_isMetAfter_53 : decode cX5_isMetAfter 53 = .ok (.iaload, 1) := by decide +kernel
theorem dX5_isMetAfter_54 : decode cX5_isMetAfter 54 = .ok (.iload_n 1, 1) := by decide +kernel
theorem dX5_isMetAfter_55 : decode cX5_isMetAfter 55 = .ok (.aload_n 0, 1) := by decide +kernel
theorem dX5_isMetAfter_56 : decode cX5_isMetAfter 56 = .ok (.getfield 24, 3) := by decide +kernel
theorem dX5_isMetAfter_59 : decode cX5_isMetAfter 59 = .ok (.iload_n 2, 1) := by decide +kernel
theorem dX5_isMetAfter_60 : decode cX5_isMetAfter 60 = .ok (.iaload, 1) := by decide +kernel
theorem dX5_isMetAfter_61 : decode cX5_isMetAfter 61 = .ok (.imul, 1) := by decide +kernel
theorem dX5_isMetAfter_62 : decode cX5_isMetAfter 62 = .ok (.iadd, 1) := by decide +kernel
theorem dX5_isMetAfter_63 : decode cX5_isMetAfter 63 = .ok (.aload_n 0, 1) := by decide +kernel
theorem dX5_isMetAfter_64 : decode cX5_isMetAfter 64 = .ok (.getfield 15, 3) := by decide +kernel
theorem dX5_isMetAfter_67 : decode cX5_isMetAfter 67 = .ok (.iload_n 3, 1) := by decide +kernel
theorem dX5_isMetAfter_68 : decode cX5_isMetAfter 68 = .ok (.iaload, 1) := by decide +kernel
theorem dX5_isMetAfter_69 : decode cX5_isMetAfter 69 = .ok (.iload_n 1, 1) := by decide +kernel
theorem dX5_isMetAfter_70 : decode cX5_isMetAfter 70 = .ok (.aload_n 0, 1) := by decide +kernel
theorem dX5_isMetAfter_71 : decode cX5_isMetAfter 71 = .ok (.getfield 24, 3) := by decide +kernel
theorem dX5_isMetAfter_74 : decode cX5_isMetAfter 74 = .ok (.iload_n 3, 1) := by decide +kernel
theorem dX5_isMetAfter_75 : decode cX5_isMetAfter 75 = .ok (.iaload, 1) := by decide +kernel
theorem dX5_isMetAfter_76 : decode cX5_isMetAfter 76 = .ok (.imul, 1) := by decide +kernel
theorem dX5_isMetAfter_77 : decode cX5_isMetAfter 77 = .ok (.iadd, 1) := by decide +kernel
theorem dX5_isMetAfter_78 : decode cX5_isMetAfter 78 = .ok (.if_icmp .ne 5, 3) := by decide +kernel
theorem dX5_isMetAfter_81 : decode cX5_isMetAfter 81 = .ok (.iconst 1, 1) := by decide +kernel
theorem dX5_isMetAfter_82 : decode cX5_isMetAfter 82 = .ok (.ireturn, 1) := by decide +kernel
theorem dX5_isMetAfter_83 : decode cX5_isMetAfter 83 = .ok (.iinc 3 1, 3) := by decide +kernel
theorem dX5_isMetAfter_86 : decode cX5_isMetAfter 86 = .ok (.goto (-84), 3) := by decide +kernel
theorem dX5_isMetAfter_89 : decode cX5_isMetAfter 89 = .ok (.iconst 0, 1) := by decide +kernel
theorem dX5_isMetAfter_90 : decode cX5_isMetAfter 90 = .ok (.ireturn, 1) := by decide +kernel
theorem dX5_goOn_0 : decode cX5_goOn 0 = .ok (.iconst 0, 1) := by decide +kernel
theorem dX5_goOn_1 : decode cX5_goOn 1 = .ok (.istore_n 2, 1) := by decide +kernel
theorem dX5_goOn_2 : decode cX5_goOn 2 = .ok (.iconst 0, 1) := by decide +kernel
theorem dX5_goOn_3 : decode cX5_goOn 3 = .ok (.istore_n 3, 1) := by decide +kernel
theorem dX5_goOn_4 : decode cX5_goOn 4 = .ok (.iload_n 3, 1) := by decide +kernel
theorem dX5_goOn_5 : decode cX5_goOn 5 = .ok (.bipush 12, 2) := by decide +kernel
theorem dX5_goOn_7 : decode cX5_goOn 7 = .ok (.if_icmp .ge 63, 3) := by decide +kernel
theorem dX5_goOn_10 : decode cX5_goOn 10 = .ok (.aload_n 0, 1) := by decide +kernel
theorem dX5_goOn_11 : decode cX5_goOn 11 = .ok (.iload_n 3, 1) := by decide +kernel
theorem dX5_goOn_12 : decode cX5_goOn 12 = .ok (.invokevirtual 41, 3) := by decide +kernel
theorem dX5_goOn_15 : decode cX5_goOn 15 = .ok (.ifCond .eq 49, 3) := by decide +kernel
theorem dX5_goOn_18 : decode cX5_goOn 18 = .ok (.aload_n 0, 1) := by decide +kernel
theorem dX5_goOn_19 : decode cX5_goOn 19 = .ok (.iload_n 3, 1) := by decide +kernel
theorem dX5_goOn_20 : decode cX5_goOn 20 = .ok (.invokevirtual 86, 3) := by decide +kernel
theorem dX5_goOn_23 : decode cX5_goOn 23 = .ok (.ifCond .eq 41, 3) := by decide +kernel
theorem dX5_goOn_26 : decode cX5_goOn 26 = .ok (.aload_n 0, 1) := by decide +kernel
theorem dX5_goOn_27 : decode cX5_goOn 27 = .ok (.iload_n 3, 1) := by decide +kernel
theorem dX5_goOn_28 : decode cX5_goOn 28 = .ok (.aload_n 0, 1) := by decide +kernel
theorem dX5_goOn_29 : decode cX5_goOn 29 = .ok (.getfield 9, 3) := by decide +kernel
theorem dX5_goOn_32 : decode cX5_goOn 32 = .ok (.iload_n 3, 1) := by decide +kernel
theorem dX5_goOn_33 : decode cX5_goOn 33 = .ok (.iaload, 1) := by decide +kernel
theorem dX5_goOn_34 : decode cX5_goOn 34 = .ok (.iload_n 1, 1) := by decide +kernel
theorem dX5_goOn_35 : decode cX5_goOn 35 = .ok (.aload_n 0, 1) := by decide +kernel
theorem dX5_goOn_36 : decode cX5_goOn 36 = .ok (.getfield 21, 3) := by decide +kernel
theorem dX5_goOn_39 : decode cX5_goOn 39 = .ok (.iload_n 3, 1) := by decide +kernel
theorem dX5_goOn_40 : decode cX5_goOn 40 = .ok (.iaload, 1) := by decide +kernel
theorem dX5_goOn_41 : decode cX5_goOn 41 = .ok (.imul, 1) := by decide +kernel
theorem dX5_goOn_42 : decode cX5_goOn 42 = .ok (.iadd, 1) := by decide +kernel
theorem dX5_goOn_43 : decode cX5_goOn 43 = .ok (.aload_n 0, 1) := by decide +kernel
theorem dX5_goOn_44 : decode cX5_goOn 44 = .ok (.getfield 15, 3) := by decide +kernel
theorem dX5_goOn_47 : decode cX5_goOn 47 = .ok (.iload_n 3, 1) := by decide +kernel
theorem dX5_goOn_48 : decode cX5_goOn 48 = .ok (.iaload, 1) := by decide +kernel
theorem dX5_goOn_49 : decode cX5_goOn 49 = .ok (.iload_n 1, 1) := by decide +kernel
theorem dX5_goOn_50 : decode cX5_goOn 50 = .ok (.aload_n 0, 1) := by decide +kernel
theorem dX5_goOn_51 : decode cX5_goOn 51 = .ok (.getfield 24, 3) := by decide +kernel
theorem dX5_goOn_54 : decode cX5_goOn 54 = .ok (.iload_n 3, 1) := by decide +kernel
theorem dX5_goOn_55 : decode cX5_goOn 55 = .ok (.iaload, 1) := by decide +kernel
theorem dX5_goOn_56 : decode cX5_goOn 56 = .ok (.imul, 1) := by decide +kernel
theorem dX5_goOn_57 : decode cX5_goOn 57 = .ok (.iadd, 1) := by decide +kernel
theorem dX5_goOn_58 : decode cX5_goOn 58 = .ok (.invokevirtual 45, 3) := by decide +kernel
theorem dX5_goOn_61 : decode cX5_goOn 61 = .ok (.iinc 2 1, 3) := by decide +kernel
theorem dX5_goOn_64 : decode cX5_goOn 64 = .ok (.iinc 3 1, 3) := by decide +kernel
theorem dX5_goOn_67 : decode cX5_goOn 67 = .ok (.goto (-63), 3) := by decide +kernel
theorem dX5_goOn_70 : decode cX5_goOn 70 = .ok (.iload_n 2, 1) := by decide +kernel
theorem dX5_goOn_71 : decode cX5_goOn 71 = .ok (.ireturn, 1) := by decide +kernel
theorem dX5_writeTo_0 : decode cX5_writeTo 0 = .ok (.iconst 0, 1) := by decide +kernel
theorem dX5_writeTo_1 : decode cX5_writeTo 1 = .ok (.istore_n 2, 1) := by decide +kernel
theorem dX5_writeTo_2 : decode cX5_writeTo 2 = .ok (.iload_n 2, 1) := by decide +kernel
theorem dX5_writeTo_3 : decode cX5_writeTo 3 = .ok (.bipush 12, 2) := by decide +kernel
theorem dX5_writeTo_5 : decode cX5_writeTo 5 = .ok (.if_icmp .ge 94, 3) := by decide +kernel
theorem dX5_writeTo_8 : decode cX5_writeTo 8 = .ok (.iload_n 2, 1) := by decide +kernel
theorem dX5_writeTo_9 : decode cX5_writeTo 9 = .ok (.bipush 6, 2) := by decide +kernel
theorem dX5_writeTo_11 : decode cX5_writeTo 11 = .ok (.imul, 1) := by decide +kernel
theorem dX5_writeTo_12 : decode cX5_writeTo 12 = .ok (.istore_n 3, 1) := by decide +kernel
theorem dX5_writeTo_13 : decode cX5_writeTo 13 = .ok (.iload_n 3, 1) := by decide +kernel
theorem dX5_writeTo_14 : decode cX5_writeTo 14 = .ok (.bipush 6, 2) := by decide +kernel
theorem dX5_writeTo_16 : decode cX5_writeTo 16 = .ok (.iadd, 1) := by decide +kernel
theorem dX5_writeTo_17 : decode cX5_writeTo 17 = .ok (.aload_n 1, 1) := by decide +kernel
theorem dX5_writeTo_18 : decode cX5_writeTo 18 = .ok (.arraylength, 1) := by decide +kernel
theorem dX5_writeTo_19 : decode cX5_writeTo 19 = .ok (.if_icmp .gt 74, 3) := by decide +kernel
theorem dX5_writeTo_22 : decode cX5_writeTo 22 = .ok (.aload_n 1, 1) := by decide +kernel
theorem dX5_writeTo_23 : decode cX5_writeTo 23 = .ok (.iload_n 3, 1) := by decide +kernel
theorem dX5_writeTo_24 : decode cX5_writeTo 24 = .ok (.aload_n 0, 1) := by decide +kernel
theorem dX5_writeTo_25 : decode cX5_writeTo 25 = .ok (.iload_n 2, 1) := by decide +kernel
theorem dX5_writeTo_26 : decode cX5_writeTo 26 = .ok (.invokevirtual 41, 3) := by decide +kernel
theorem dX5_writeTo_29 : decode cX5_writeTo 29 = .ok (.ifCond .eq 7, 3) := by decide +kernel
theorem dX5_writeTo_32 : decode cX5_writeTo 32 = .ok (.iconst 1, 1) := by decide +kernel
theorem dX5_writeTo_33 : decode cX5_writeTo 33 = .ok (.goto 4, 3) := by decide +kernel
theorem dX5_writeTo_36 : decode cX5_writeTo 36 = .ok (.iconst 0, 1) := by decide +kernel
theorem dX5_writeTo_37 : decode cX5_writeTo 37 = .ok (.iastore, 1) := by decide +kernel
theorem dX5_writeTo_38 : decode cX5_writeTo 38 = .ok (.aload_n 1, 1) := by decide +kernel
theorem dX5_writeTo_39 : decode cX5_writeTo 39 = .ok (.iload_n 3, 1) := by decide +kernel
theorem dX5_writeTo_40 : decode cX5_writeTo 40 = .ok (.iconst 1, 1) := by decide +kernel
theorem dX5_writeTo_41 : decode cX5_writeTo 41 = .ok (.iadd, 1) := by decide +kernel
theorem dX5_writeTo_42 : decode cX5_writeTo 42 = .ok (.aload_n 0, 1) := by decide +kernel
theorem dX5_writeTo_43 : decode cX5_writeTo 43 = .ok (.getfield 9, 3) := by decide +kernel
theorem dX5_writeTo_46 : decode cX5_writeTo 46 = .ok (.iload_n 2, 1) := by decide +kernel
theorem dX5_writeTo_47 : decode cX5_writeTo 47 = .ok (.iaload, 1) := by decide +kernel
theorem dX5_writeTo_48 : decode cX5_writeTo 48 = .ok (.iastore, 1) := by decide +kernel
theorem dX5_writeTo_49 : decode cX5_writeTo 49 = .ok (.aload_n 1, 1) := by decide +kernel
theorem dX5_writeTo_50 : decode cX5_writeTo 50 = .ok (.iload_n 3, 1) := by decide +kernel
theorem dX5_writeTo_51 : decode cX5_writeTo 51 = .ok (.iconst 2, 1) := by decide +kernel
theorem dX5_writeTo_52 : decode cX5_writeTo 52 = .ok (.iadd, 1) := by decide +kernel
theorem dX5_writeTo_53 : decode cX5_writeTo 53 = .ok (.aload_n 0, 1) := by decide +kernel
theorem dX5_writeTo_54 : decode cX5_writeTo 54 = .ok (.getfield 15, 3) := by decide +kernel
theorem dX5_writeTo_57 : decode cX5_writeTo 57 = .ok (.iload_n 2, 1) := by decide +kernel
theorem dX5_writeTo_58 : decode cX5_writeTo 58 = .ok (.iaload, 1) := by decide +kernel
theorem dX5_writeTo_59 : decode cX5_writeTo 59 = .ok (.iastore, 1) := by decide +kernel
theorem dX5_writeTo_60 : decode cX5_writeTo 60 = .ok (.aload_n 1, 1) := by decide +kernel
theorem dX5_writeTo_61 : decode cX5_writeTo 61 = .ok (.iload_n 3, 1) := by decide +kernel
theorem dX5_writeTo_62 : decode cX5_writeTo 62 = .ok (.iconst 3, 1) := by decide +kernel
theorem dX5_writeTo_63 : decode cX5_writeTo 63 = .ok (.iadd, 1) := by decide +kernel
theorem dX5_writeTo_64 : decode cX5_writeTo 64 = .ok (.aload_n 0, 1) := by decide +kernel
theorem dX5_writeTo_65 : decode cX5_writeTo 65 = .ok (.getfield 18, 3) := by decide +kernel
theorem dX5_writeTo_68 : decode cX5_writeTo 68 = .ok (.iload_n 2, 1) := by decide +kernel
theorem dX5_writeTo_69 : decode cX5_writeTo 69 = .ok (.iaload, 1) := by decide +kernel
theorem dX5_writeTo_70 : decode cX5_writeTo 70 = .ok (.iastore, 1) := by decide +kernel
theorem dX5_writeTo_71 : decode cX5_writeTo 71 = .ok (.aload_n 1, 1) := by decide +kernel
theorem dX5_writeTo_72 : decode cX5_writeTo 72 = .ok (.iload_n 3, 1) := by decide +kernel
theorem dX5_writeTo_73 : decode cX5_writeTo 73 = .ok (.iconst 4, 1) := by decide +kernel
theorem dX5_writeTo_74 : decode cX5_writeTo 74 = .ok (.iadd, 1) := by decide +kernel
theorem dX5_writeTo_75 : decode cX5_writeTo 75 = .ok (.aload_n 0, 1) := by decide +kernel
theorem dX5_writeTo_76 : decode cX5_writeTo 76 = .ok (.getfield 21, 3) := by decide +kernel
theorem dX5_writeTo_79 : decode cX5_writeTo 79 = .ok (.iload_n 2, 1) := by decide +kernel
theorem dX5_writeTo_80 : decode cX5_writeTo 80 = .ok (.iaload, 1) := by decide +kernel
theorem dX5_writeTo_81 : decode cX5_writeTo 81 = .ok (.iastore, 1) := by decide +kernel
theorem dX5_writeTo_82 : decode cX5_writeTo 82 = .ok (.aload_n 1, 1) := by decide +kernel
theorem dX5_writeTo_83 : decode cX5_writeTo 83 = .ok (.iload_n 3, 1) := by decide +kernel
theorem dX5_writeTo_84 : decode cX5_writeTo 84 = .ok (.iconst 5, 1) := by decide +kernel
theorem dX5_writeTo_85 : decode cX5_writeTo 85 = .ok (.iadd, 1) := by decide +kernel
theorem dX5_writeTo_86 : decode cX5_writeTo 86 = .ok (.aload_n 0, 1) := by decide +kernel
theorem dX5_writeTo_87 : decode cX5_writeTo 87 = .ok (.getfield 24, 3) := by decide +kernel
theorem dX5_writeTo_90 : decode cX5_writeTo 90 = .ok (.iload_n 2, 1) := by decide +kernel
theorem dX5_writeTo_91 : decode cX5_writeTo 91 = .ok (.iaload, 1) := by decide +kernel
theorem dX5_writeTo_92 : decode cX5_writeTo 92 = .ok (.iastore, 1) := by decide +kernel
theorem dX5_writeTo_93 : decode cX5_writeTo 93 = .ok (.iinc 2 1, 3) := by decide +kernel
theorem dX5_writeTo_96 : decode cX5_writeTo 96 = .ok (.goto (-94), 3) := by decide +kernel
theorem dX5_writeTo_99 : decode cX5_writeTo 99 = .ok (.return_, 1) := by decide +kernel
theorem dX5_readFrom_0 : decode cX5_readFrom 0 = .ok (.aload_n 0, 1) := by decide +kernel
theorem dX5_readFrom_1 : decode cX5_readFrom 1 = .ok (.iconst 0, 1) := by decide +kernel
theorem dX5_readFrom_2 : decode cX5_readFrom 2 = .ok (.putfield 27, 3) := by decide +kernel
theorem dX5_readFrom_5 : decode cX5_readFrom 5 = .ok (.iconst 0, 1) := by decide +kernel
theorem dX5_readFrom_6 : decode cX5_readFrom 6 = .ok (.istore_n 2, 1) := by decide +kernel
theorem dX5_readFrom_7 : decode cX5_readFrom 7 = .ok (.iload_n 2, 1) := by decide +kernel
theorem dX5_readFrom_8 : decode cX5_readFrom 8 = .ok (.bipush 12, 2) := by decide +kernel
theorem dX5_readFrom_10 : decode cX5_readFrom 10 = .ok (.if_icmp .ge 92, 3) := by decide +kernel
theorem dX5_readFrom_13 : decode cX5_readFrom 13 = .ok (.iload_n 2, 1) := by decide +kernel
theorem dX5_readFrom_14 : decode cX5_readFrom 14 = .ok (.bipush 6, 2) := by decide +kernel
theorem dX5_readFrom_16 : decode cX5_readFrom 16 = .ok (.imul, 1) := by decide +kernel
theorem dX5_readFrom_17 : decode cX5_readFrom 17 = .ok (.istore_n 3, 1) := by decide +kernel
theorem dX5_readFrom_18 : decode cX5_readFrom 18 = .ok (.iload_n 3, 1) := by decide +kernel
theorem dX5_readFrom_19 : decode cX5_readFrom 19 = .ok (.bipush 6, 2) := by decide +kernel
theorem dX5_readFrom_21 : decode cX5_readFrom 21 = .ok (.iadd, 1) := by decide +kernel
theorem dX5_readFrom_22 : decode cX5_readFrom 22 = .ok (.aload_n 1, 1) := by decide +kernel
theorem dX5_readFrom_23 : decode cX5_readFrom 23 = .ok (.arraylength, 1) := by decide +kernel
theorem dX5_readFrom_24 : decode cX5_readFrom 24 = .ok (.if_icmp .gt 72, 3) := by decide +kernel
theorem dX5_readFrom_27 : decode cX5_readFrom 27 = .ok (.aload_n 0, 1) := by decide +kernel
theorem dX5_readFrom_28 : decode cX5_readFrom 28 = .ok (.dup, 1) := by decide +kernel
theorem dX5_readFrom_29 : decode cX5_readFrom 29 = .ok (.getfield 27, 3) := by decide +kernel
theorem dX5_readFrom_32 : decode cX5_readFrom 32 = .ok (.aload_n 1, 1) := by decide +kernel
theorem dX5_readFrom_33 : decode cX5_readFrom 33 = .ok (.iload_n 3, 1) := by decide +kernel
theorem dX5_readFrom_34 : decode cX5_readFrom 34 = .ok (.iaload, 1) := by decide +kernel
theorem dX5_readFrom_35 : decode cX5_readFrom 35 = .ok (.iload_n 2, 1) := by decide +kernel
theorem dX5_readFrom_36 : decode cX5_readFrom 36 = .ok (.ishl, 1) := by decide +kernel
theorem dX5_readFrom_37 : decode cX5_readFrom 37 = .ok (.ior, 1) := by decide +kernel
theorem dX5_readFrom_38 : decode cX5_readFrom 38 = .ok (.putfield 27, 3) := by decide +kernel
theorem dX5_readFrom_41 : decode cX5_readFrom 41 = .ok (.aload_n 0, 1) := by decide +kernel
theorem dX5_readFrom_42 : decode cX5_readFrom 42 = .ok (.getfield 9, 3) := by decide +kernel
theorem dX5_readFrom_45 : decode cX5_readFrom 45 = .ok (.iload_n 2, 1) := by decide +kernel
theorem dX5_readFrom_46 : decode cX5_readFrom 46 = .ok (.aload_n 1, 1) := by decide +kernel
theorem dX5_readFrom_47 : decode cX5_readFrom 47 = .ok (.iload_n 3, 1) := by decide +kernel
theorem dX5_readFrom_48 : decode cX5_readFrom 48 = .ok (.iconst 1, 1) := by decide +kernel
theorem dX5_readFrom_49 : decode cX5_readFrom 49 = .ok (.iadd, 1) := by decide +kernel
theorem dX5_readFrom_50 : decode cX5_readFrom 50 = .ok (.iaload, 1) := by decide +kernel
theorem dX5_readFrom_51 : decode cX5_readFrom 51 = .ok (.iastore, 1) := by decide +kernel
theorem dX5_readFrom_52 : decode cX5_readFrom 52 = .ok (.aload_n 0, 1) := by decide +kernel
theorem dX5_readFrom_53 : decode cX5_readFrom 53 = .ok (.getfield 15, 3) := by decide +kernel
theorem dX5_readFrom_56 : decode cX5_readFrom 56 = .ok (.iload_n 2, 1) := by decide +kernel
theorem dX5_readFrom_57 : decode cX5_readFrom 57 = .ok (.aload_n 1, 1) := by decide +kernel
theorem dX5_readFrom_58 : decode cX5_readFrom 58 = .ok (.iload_n 3, 1) := by decide +kernel
theorem dX5_readFrom_59 : decode cX5_readFrom 59 = .ok (.iconst 2, 1) := by decide +kernel
theorem dX5_readFrom_60 : decode cX5_readFrom 60 = .ok (.iadd, 1) := by decide +kernel
theorem dX5_readFrom_61 : decode cX5_readFrom 61 = .ok (.iaload, 1) := by decide +kernel
theorem dX5_readFrom_62 : decode cX5_readFrom 62 = .ok (.iastore, 1) := by decide +kernel
theorem dX5_readFrom_63 : decode cX5_readFrom 63 = .ok (.aload_n 0, 1) := by decide +kernel
theorem dX5_readFrom_64 : decode cX5_readFrom 64 = .ok (.getfield 18, 3) := by decide +kernel
theorem dX5_readFrom_67 : decode cX5_readFrom 67 = .ok (.iload_n 2, 1) := by decide +kernel
theorem dX5_readFrom_68 : decode cX5_readFrom 68 = .ok (.aload_n 1, 1) := by decide +kernel
theorem dX5_readFrom_69 : decode cX5_readFrom 69 = .ok (.iload_n 3, 1) := by decide +kernel
theorem dX5_readFrom_70 : decode cX5_readFrom 70 = .ok (.iconst 3, 1) := by decide +kernel
theorem dX5_readFrom_71 : decode cX5_readFrom 71 = .ok (.iadd, 1) := by decide +kernel
theorem dX5_readFrom_72 : decode cX5_readFrom 72 = .ok (.iaload, 1) := by decide +kernel
theorem dX5_readFrom_73 : decode cX5_readFrom 73 = .ok (.iastore, 1) := by decide +kernel
theorem dX5_readFrom_74 : decode cX5_readFrom 74 = .ok (.aload_n 0, 1) := by decide +kernel
theorem dX5_readFrom_75 : decode cX5_readFrom 75 = .ok (.getfield 21, 3) := by decide +kernel
theorem dX5_readFrom_78 : decode cX5_readFrom 78 = .ok (.iload_n 2, 1) := by decide +kernel
theorem dX5_readFrom_79 : decode cX5_readFrom 79 = .ok (.aload_n 1, 1) := by decide +kernel
theorem dX5_readFrom_80 : decode cX5_readFrom 80 = .ok (.iload_n 3, 1) := by decide +kernel
theorem dX5_readFrom_81 : decode cX5_readFrom 81 = .ok (.iconst 4, 1) := by decide +kernel
theorem dX5_readFrom_82 : decode cX5_readFrom 82 = .ok (.iadd, 1) := by decide +kernel
theorem dX5_readFrom_83 : decode cX5_readFrom 83 = .ok (.iaload, 1) := by decide +kernel
theorem dX5_readFrom_84 : decode cX5_readFrom 84 = .ok (.iastore, 1) := by decide +kernel
theorem dX5_readFrom_85 : decode cX5_readFrom 85 = .ok (.aload_n 0, 1) := by decide +kernel
theorem dX5_readFrom_86 : decode cX5_readFrom 86 = .ok (.getfield 24, 3) := by decide +kernel
theorem dX5_readFrom_89 : decode cX5_readFrom 89 = .ok (.iload_n 2, 1) := by decide +kernel
theorem dX5_readFrom_90 : decode cX5_readFrom 90 = .ok (.aload_n 1, 1) := by decide +kernel
theorem dX5_readFrom_91 : decode cX5_readFrom 91 = .ok (.iload_n 3, 1) := by decide +kernel
theorem dX5_readFrom_92 : decode cX5_readFrom 92 = .ok (.iconst 5, 1) := by decide +kernel
theorem dX5_readFrom_93 : decode cX5_readFrom 93 = .ok (.iadd, 1) := by decide +kernel
theorem dX5_readFrom_94 : decode cX5_readFrom 94 = .ok (.iaload, 1) := by decide +kernel
theorem dX5_readFrom_95 : decode cX5_readFrom 95 = .ok (.iastore, 1) := by decide +kernel
theorem dX5_readFrom_96 : decode cX5_readFrom 96 = .ok (.iinc 2 1, 3) := by decide +kernel
theorem dX5_readFrom_99 : decode cX5_readFrom 99 = .ok (.goto (-92), 3) := by decide +kernel
theorem dX5_readFrom_102 : decode cX5_readFrom 102 = .ok (.aload_n 0, 1) := by decide +kernel
theorem dX5_readFrom_103 : decode cX5_readFrom 103 = .ok (.dup, 1) := by decide +kernel
theorem dX5_readFrom_104 : decode cX5_readFrom 104 = .ok (.getfield 49, 3) := by decide +kernel
theorem dX5_readFrom_107 : decode cX5_readFrom 107 = .ok (.iconst 1, 1) := by decide +kernel
theorem dX5_readFrom_108 : decode cX5_readFrom 108 = .ok (.iadd, 1) := by decide +kernel
theorem dX5_readFrom_109 : decode cX5_readFrom 109 = .ok (.putfield 49, 3) := by decide +kernel
theorem dX5_readFrom_112 : decode cX5_readFrom 112 = .ok (.return_, 1) := by decide +kernel
theorem dX6_init_0 : decode cX6_init 0 = .ok (.aload_n 0, 1) := by decide +kernel
theorem dX6_init_1 : decode cX6_init 1 = .ok (.invokespecial 3, 3) := by decide +kernel
theorem dX6_init_4 : decode cX6_init 4 = .ok (.aload_n 0, 1) := by decide +kernel
theorem dX6_init_5 : decode cX6_init 5 = .ok (.bipush 20, 2) := by decide +kernel
theorem dX6_init_7 : decode cX6_init 7 = .ok (.bipush 72, 2) := by decide +kernel
theorem dX6_init_9 : decode cX6_init 9 = .ok (.multianewarray 11 2, 4) := by decide +kernel
theorem dX6_init_13 : decode cX6_init 13 = .ok (.putfield 13, 3) := by decide +kernel
theorem dX6_init_16 : decode cX6_init 16 = .ok (.return_, 1) := by decide +kernel
theorem dX6_keep_0 : decode cX6_keep 0 = .ok (.aload_n 1, 1) := by decide +kernel
theorem dX6_keep_1 : decode cX6_keep 1 = .ok (.aload_n 0, 1) := by decide +kernel
theorem dX6_keep_2 : decode cX6_keep 2 = .ok (.getfield 13, 3) := by decide +kernel
theorem dX6_keep_5 : decode cX6_keep 5 = .ok (.aload_n 0, 1) := by decide +kernel
theorem dX6_keep_6 : decode cX6_keep 6 = .ok (.getfield 16, 3) := by decide +kernel
theorem dX6_keep_9 : decode cX6_keep 9 = .ok (.aaload, 1) := by decide +kernel
theorem dX6_keep_10 : decode cX6_keep 10 = .ok (.invokevirtual 20, 3) := by decide +kernel
theorem dX6_keep_13 : decode cX6_keep 13 = .ok (.aload_n 0, 1) := by decide +kernel
theorem dX6_keep_14 : decode cX6_keep 14 = .ok (.aload_n 0, 1) := by decide +kernel
theorem dX6_keep_15 : decode cX6_keep 15 = .ok (.getfield 16, 3) := by decide +kernel
theorem dX6_keep_18 : decode cX6_keep 18 = .ok (.iconst 1, 1) := by decide +kernel
theorem dX6_keep_19 : decode cX6_keep 19 = .ok (.iadd, 1) := by decide +kernel
theorem dX6_keep_20 : decode cX6_keep 20 = .ok (.bipush 20, 2) := by decide +kernel
theorem dX6_keep_22 : decode cX6_keep 22 = .ok (.if_icmp .ge 12, 3) := by decide +kernel
theorem dX6_keep_25 : decode cX6_keep 25 = .ok (.aload_n 0, 1) := by decide +kernel
theorem dX6_keep_26 : decode cX6_keep 26 = .ok (.getfield 16, 3) := by decide +kernel
theorem dX6_keep_29 : decode cX6_keep 29 = .ok (.iconst 1, 1) := by decide +kernel
theorem dX6_keep_30 : decode cX6_keep 30 = .ok (.iadd, 1) := by decide +kernel
theorem dX6_keep_31 : decode cX6_keep 31 = .ok (.goto 4, 3) := by decide +kernel
theorem dX6_keep_34 : decode cX6_keep 34 = .ok (.iconst 0, 1) := by decide +kernel
theorem dX6_keep_35 : decode cX6_keep 35 = .ok (.putfield 16, 3) := by decide +kernel
theorem dX6_keep_38 : decode cX6_keep 38 = .ok (.aload_n 0, 1) := by decide +kernel
theorem dX6_keep_39 : decode cX6_keep 39 = .ok (.aload_n 0, 1) := by decide +kernel
theorem dX6_keep_40 : decode cX6_keep 40 = .ok (.getfield 26, 3) := by decide +kernel
theorem dX6_keep_43 : decode cX6_keep 43 = .ok (.iconst 1, 1) := by decide +kernel
theorem dX6_keep_44 : decode cX6_keep 44 = .ok (.iadd, 1) := by decide +kernel
theorem dX6_keep_45 : decode cX6_keep 45 = .ok (.bipush 20, 2) := by decide +kernel
theorem dX6_keep_47 : decode cX6_keep 47 = .ok (.invokestatic 29, 3) := by decide +kernel
theorem dX6_keep_50 : decode cX6_keep 50 = .ok (.putfield 26, 3) := by decide +kernel
theorem dX6_keep_53 : decode cX6_keep 53 = .ok (.return_, 1) := by decide +kernel
theorem dX6_takeBack_0 : decode cX6_takeBack 0 = .ok (.aload_n 0, 1) := by decide +kernel
theorem dX6_takeBack_1 : decode cX6_takeBack 1 = .ok (.aload_n 0, 1) := by decide +kernel
theorem dX6_takeBack_2 : decode cX6_takeBack 2 = .ok (.getfield 16, 3) := by decide +kernel
theorem dX6_takeBack_5 : decode cX6_takeBack 5 = .ok (.ifCond .le 12, 3) := by decide +kernel
theorem dX6_takeBack_8 : decode cX6_takeBack 8 = .ok (.aload_n 0, 1) := by decide +kernel
theorem dX6_takeBack_9 : decode cX6_takeBack 9 = .ok (.getfield 16, 3) := by decide +kernel
theorem dX6_takeBack_12 : decode cX6_takeBack 12 = .ok (.iconst 1, 1) := by decide +kernel
theorem dX6_takeBack_13 : decode cX6_takeBack 13 = .ok (.isub, 1) := by decide +kernel
theorem dX6_takeBack_14 : decode cX6_takeBack 14 = .ok (.goto 5, 3) := by decide +kernel
theorem dX6_takeBack_17 : decode cX6_takeBack 17 = .ok (.bipush 19, 2) := by decide +kernel
theorem dX6_takeBack_19 : decode cX6_takeBack 19 = .ok (.putfield 16, 3) := by decide +kernel
theorem dX6_takeBack_22 : decode cX6_takeBack 22 = .ok (.aload_n 0, 1) := by decide +kernel
theorem dX6_takeBack_23 : decode cX6_takeBack 23 = .ok (.dup, 1) := by decide +kernel
theorem dX6_takeBack_24 : decode cX6_takeBack 24 = .ok (.getfield 26, 3) := by decide +kernel
theorem dX6_takeBack_27 : decode cX6_takeBack 27 = .ok (.iconst 1, 1) := by decide +kernel
theorem dX6_takeBack_28 : decode cX6_takeBack 28 = .ok (.isub, 1) := by decide +kernel
theorem dX6_takeBack_29 : decode cX6_takeBack 29 = .ok (.putfield 26, 3) := by decide +kernel
theorem dX6_takeBack_32 : decode cX6_takeBack 32 = .ok (.aload_n 1, 1) := by decide +kernel
theorem dX6_takeBack_33 : decode cX6_takeBack 33 = .ok (.aload_n 0, 1) := by decide +kernel
theorem dX6_takeBack_34 : decode cX6_takeBack 34 = .ok (.getfield 13, 3) := by decide +kernel
theorem dX6_takeBack_37 : decode cX6_takeBack 37 = .ok (.aload_n 0, 1) := by decide +kernel
theorem dX6_takeBack_38 : decode cX6_takeBack 38 = .ok (.getfield 16, 3) := by decide +kernel
theorem dX6_takeBack_41 : decode cX6_takeBack 41 = .ok (.aaload, 1) := by decide +kernel
theorem dX6_takeBack_42 : decode cX6_takeBack 42 = .ok (.invokevirtual 35, 3) := by decide +kernel
theorem dX6_takeBack_45 : decode cX6_takeBack 45 = .ok (.return_, 1) := by decide +kernel
theorem dX7_init_0 : decode cX7_init 0 = .ok (.aload_n 0, 1) := by decide +kernel
theorem dX7_init_1 : decode cX7_init 1 = .ok (.invokespecial 3, 3) := by decide +kernel
theorem dX7_init_4 : decode cX7_init 4 = .ok (.aload_n 0, 1) := by decide +kernel
theorem dX7_init_5 : decode cX7_init 5 = .ok (.bipush 12, 2) := by decide +kernel
theorem dX7_init_7 : decode cX7_init 7 = .ok (.newarray .int, 2) := by decide +kernel
theorem dX7_init_9 : decode cX7_init 9 = .ok (.putfield 9, 3) := by decide +kernel
theorem dX7_init_12 : decode cX7_init 12 = .ok (.return_, 1) := by decide +kernel
theorem dX7_findIn_0 : decode cX7_findIn 0 = .ok (.aload_n 0, 1) := by decide +kernel
theorem dX7_findIn_1 : decode cX7_findIn 1 = .ok (.iconst 0, 1) := by decide +kernel
theorem dX7_findIn_2 : decode cX7_findIn 2 = .ok (.putfield 15, 3) := by decide +kernel
theorem dX7_findIn_5 : decode cX7_findIn 5 = .ok (.aload_n 1, 1) := by decide +kernel
theorem dX7_findIn_6 : decode cX7_findIn 6 = .ok (.invokestatic 19, 3) := by decide +kernel
theorem dX7_findIn_9 : decode cX7_findIn 9 = .ok (.istore_n 2, 1) := by decide +kernel
theorem dX7_findIn_10 : decode cX7_findIn 10 = .ok (.iload_n 2, 1) := by decide +kernel
theorem dX7_findIn_11 : decode cX7_findIn 11 = .ok (.istore_n 3, 1) := by decide +kernel
theorem dX7_findIn_12 : decode cX7_findIn 12 = .ok (.iconst 0, 1) := by decide +kernel
theorem dX7_findIn_13 : decode cX7_findIn 13 = .ok (.istore 4, 2) := by decide +kernel
theorem dX7_findIn_15 : decode cX7_findIn 15 = .ok (.iload 4, 2) := by decide +kernel
theorem dX7_findIn_17 : decode cX7_findIn 17 = .ok (.bipush 12, 2) := by decide +kernel
theorem dX7_findIn_19 : decode cX7_findIn 19 = .ok (.if_icmp .ge 43, 3) := by decide +kernel
theorem dX7_findIn_22 : decode cX7_findIn 22 = .ok (.iload_n 3, 1) := by decide +kernel
theorem dX7_findIn_23 : decode cX7_findIn 23 = .ok (.iconst (-1), 1) := by decide +kernel
theorem dX7_findIn_24 : decode cX7_findIn 24 = .ok (.if_icmp .eq 38, 3) := by decide +kernel
theorem dX7_findIn_27 : decode cX7_findIn 27 = .ok (.aload_n 0, 1) := by decide +kernel
theorem dX7_findIn_28 : decode cX7_findIn 28 = .ok (.getfield 9, 3) := by decide +kernel
theorem dX7_findIn_31 : decode cX7_findIn 31 = .ok (.iload 4, 2) := by decide +kernel
theorem dX7_findIn_33 : decode cX7_findIn 33 = .ok (.iload_n 3, 1) := by decide +kernel
theorem dX7_findIn_34 : decode cX7_findIn 34 = .ok (.iastore, 1) := by decide +kernel
theorem dX7_findIn_35 : decode cX7_findIn 35 = .ok (.aload_n 0, 1) := by decide +kernel
theorem dX7_findIn_36 : decode cX7_findIn 36 = .ok (.iload 4, 2) := by decide +kernel
theorem dX7_findIn_38 : decode cX7_findIn 38 = .ok (.iconst 1, 1) := by decide +kernel
theorem dX7_findIn_39 : decode cX7_findIn 39 = .ok (.iadd, 1) := by decide +kernel
theorem dX7_findIn_40 : decode cX7_findIn 40 = .ok (.putfield 15, 3) := by decide +kernel
theorem dX7_findIn_43 : decode cX7_findIn 43 = .ok (.aload_n 1, 1) := by decide +kernel
theorem dX7_findIn_44 : decode cX7_findIn 44 = .ok (.iload_n 3, 1) := by decide +kernel
theorem dX7_findIn_45 : decode cX7_findIn 45 = .ok (.invokestatic 23, 3) := by decide +kernel
theorem dX7_findIn_48 : decode cX7_findIn 48 = .ok (.istore_n 3, 1) := by decide +kernel
theorem dX7_findIn_49 : decode cX7_findIn 49 = .ok (.iload_n 3, 1) := by decide +kernel
theorem dX7_findIn_50 : decode cX7_findIn 50 = .ok (.iload_n 2, 1) := by decide +kernel
theorem dX7_findIn_51 : decode cX7_findIn 51 = .ok (.if_icmp .ne 5, 3) := by decide +kernel
theorem dX7_findIn_54 : decode cX7_findIn 54 = .ok (.iconst (-1), 1) := by decide +kernel
theorem dX7_findIn_55 : decode cX7_findIn 55 = .ok (.istore_n 3, 1) := by decide +kernel
theorem dX7_findIn_56 : decode cX7_findIn 56 = .ok (.iinc 4 1, 3) := by decide +kernel
theorem dX7_findIn_59 : decode cX7_findIn 59 = .ok (.goto (-44), 3) := by decide +kernel
theorem dX7_findIn_62 : decode cX7_findIn 62 = .ok (.return_, 1) := by decide +kernel
theorem dX7_lowestPlaced_0 : decode cX7_lowestPlaced 0 = .ok (.iconst (-1), 1) := by decide +kernel
theorem dX7_lowestPlaced_1 : decode cX7_lowestPlaced 1 = .ok (.istore_n 1, 1) := by decide +kernel
theorem dX7_lowestPlaced_2 : decode cX7_lowestPlaced 2 = .ok (.iconst 0, 1) := by decide +kernel
theorem dX7_lowestPlaced_3 : decode cX7_lowestPlaced 3 = .ok (.istore_n 2, 1) := by decide +kernel
theorem dX7_lowestPlaced_4 : decode cX7_lowestPlaced 4 = .ok (.iload_n 2, 1) := by decide +kernel
theorem dX7_lowestPlaced_5 : decode cX7_lowestPlaced 5 = .ok (.bipush 12, 2) := by decide +kernel
theorem dX7_lowestPlaced_7 : decode cX7_lowestPlaced 7 = .ok (.if_icmp .ge 33, 3) := by decide +kernel
theorem dX7_lowestPlaced_10 : decode cX7_lowestPlaced 10 = .ok (.aload_n 0, 1) := by decide +kernel
theorem dX7_lowestPlaced_11 : decode cX7_lowestPlaced 11 = .ok (.iload_n 2, 1) := by decide +kernel
theorem dX7_lowestPlaced_12 : decode cX7_lowestPlaced 12 = .ok (.invokevirtual 27, 3) := by decide +kernel
theorem dX7_lowestPlaced_15 : decode cX7_lowestPlaced 15 = .ok (.ifCond .eq 19, 3) := by decide +kernel
theorem dX7_lowestPlaced_18 : decode cX7_lowestPlaced 18 = .ok (.iload_n 1, 1) := by decide +kernel
theorem dX7_lowestPlaced_19 : decode cX7_lowestPlaced 19 = .ok (.iconst (-1), 1) := by decide +kernel
theorem dX7_lowestPlaced_20 : decode cX7_lowestPlaced 20 = .ok (.if_icmp .eq 12, 3) := by decide +kernel
theorem dX7_lowestPlaced_23 : decode cX7_lowestPlaced 23 = .ok (.aload_n 0, 1) := by decide +kernel
theorem dX7_lowestPlaced_24 : decode cX7_lowestPlaced 24 = .ok (.iload_n 2, 1) := by decide +kernel
theorem dX7_lowestPlaced_25 : decode cX7_lowestPlaced 25 = .ok (.iload_n 1, 1) := by decide +kernel
theorem dX7_lowestPlaced_26 : decode cX7_lowestPlaced 26 = .ok (.invokestatic 33, 3) := by decide +kernel
theorem dX7_lowestPlaced_29 : decode cX7_lowestPlaced 29 = .ok (.ifCond .eq 5, 3) := by decide +kernel
theorem dX7_lowestPlaced_32 : decode cX7_lowestPlaced 32 = .ok (.iload_n 2, 1) := by decide +kernel
theorem dX7_lowestPlaced_33 : decode cX7_lowestPlaced 33 = .ok (.istore_n 1, 1) := by decide +kernel
theorem dX7_lowestPlaced_34 : decode cX7_lowestPlaced 34 = .ok (.iinc 2 1, 3) := by decide +kernel
theorem dX7_lowestPlaced_37 : decode cX7_lowestPlaced 37 = .ok (.goto (-33), 3) := by decide +kernel
theorem dX7_lowestPlaced_40 : decode cX7_lowestPlaced 40 = .ok (.iload_n 1, 1) := by decide +kernel
theorem dX7_lowestPlaced_41 : decode cX7_lowestPlaced 41 = .ok (.ireturn, 1) := by decide +kernel
theorem dX7_isLower_0 : decode cX7_isLower 0 = .ok (.aload_n 0, 1) := by decide +kernel
theorem dX7_isLower_1 : decode cX7_isLower 1 = .ok (.getfield 37, 3) := by decide +kernel
theorem dX7_isLower_4 : decode cX7_isLower 4 = .ok (.iload_n 1, 1) := by decide +kernel
theorem dX7_isLower_5 : decode cX7_isLower 5 = .ok (.iaload, 1) := by decide +kernel
theorem dX7_isLower_6 : decode cX7_isLower 6 = .ok (.aload_n 0, 1) := by decide +kernel
theorem dX7_isLower_7 : decode cX7_isLower 7 = .ok (.getfield 37, 3) := by decide +kernel
theorem dX7_isLower_10 : decode cX7_isLower 10 = .ok (.iload_n 2, 1) := by decide +kernel
theorem dX7_isLower_11 : decode cX7_isLower 11 = .ok (.iaload, 1) := by decide +kernel
theorem dX7_isLower_12 : decode cX7_isLower 12 = .ok (.if_icmp .eq 24, 3) := by decide +kernel
theorem dX7_isLower_15 : decode cX7_isLower 15 = .ok (.aload_n 0, 1) := by decide +kernel
theorem dX7_isLower_16 : decode cX7_isLower 16 = .ok (.getfield 37, 3) := by decide +kernel
theorem dX7_isLower_19 : decode cX7_isLower 19 = .ok (.iload_n 1, 1) := by decide +kernel
theorem dX7_isLower_20 : decode cX7_isLower 20 = .ok (.iaload, 1) := by decide +kernel
theorem dX7_isLower_21 : decode cX7_isLower 21 = .ok (.aload_n 0, 1) := by decide +kernel
theorem dX7_isLower_22 : decode cX7_isLower 22 = .ok (.getfield 37, 3) := by decide +kernel
theorem dX7_isLower_25 : decode cX7_isLower 25 = .ok (.iload_n 2, 1) := by decide +kernel
theorem dX7_isLower_26 : decode cX7_isLower 26 = .ok (.iaload, 1) := by decide +kernel
theorem dX7_isLower_27 : decode cX7_isLower 27 = .ok (.if_icmp .ge 7, 3) := by decide +kernel
theorem dX7_isLower_30 : decode cX7_isLower 30 = .ok (.iconst 1, 1) := by decide +kernel
theorem dX7_isLower_31 : decode cX7_isLower 31 = .ok (.goto 4, 3) := by decide +kernel
theorem dX7_isLower_34 : decode cX7_isLower 34 = .ok (.iconst 0, 1) := by decide +kernel
theorem dX7_isLower_35 : decode cX7_isLower 35 = .ok (.ireturn, 1) := by decide +kernel
theorem dX7_isLower_36 : decode cX7_isLower 36 = .ok (.aload_n 0, 1) := by decide +kernel
theorem dX7_isLower_37 : decode cX7_isLower 37 = .ok (.getfield 40, 3) := by decide +kernel
theorem dX7_isLower_40 : decode cX7_isLower 40 = .ok (.iload_n 1, 1) := by decide +kernel
theorem dX7_isLower_41 : decode cX7_isLower 41 = .ok (.iaload, 1) := by decide +kernel
theorem dX7_isLower_42 : decode cX7_isLower 42 = .ok (.aload_n 0, 1) := by decide +kernel
theorem dX7_isLower_43 : decode cX7_isLower 43 = .ok (.getfield 40, 3) := by decide +kernel
theorem dX7_isLower_46 : decode cX7_isLower 46 = .ok (.iload_n 2, 1) := by decide +kernel
theorem dX7_isLower_47 : decode cX7_isLower 47 = .ok (.iaload, 1) := by decide +kernel
theorem dX7_isLower_48 : decode cX7_isLower 48 = .ok (.if_icmp .ge 7, 3) := by decide +kernel
theorem dX7_isLower_51 : decode cX7_isLower 51 = .ok (.iconst 1, 1) := by decide +kernel
theorem dX7_isLower_52 : decode cX7_isLower 52 = .ok (.goto 4, 3) := by decide +kernel
theorem dX7_isLower_55 : decode cX7_isLower 55 = .ok (.iconst 0, 1) := by decide +kernel
theorem dX7_isLower_56 : decode cX7_isLower 56 = .ok (.ireturn, 1) := by decide +kernel
theorem dX7_cornerAfter_0 : decode cX7_cornerAfter 0 = .ok (.iconst (-1), 1) := by decide +kernel
theorem dX7_cornerAfter_1 : decode cX7_cornerAfter 1 = .ok (.istore_n 2, 1) := by decide +kernel
theorem dX7_cornerAfter_2 : decode cX7_cornerAfter 2 = .ok (.iconst 0, 1) := by decide +kernel
theorem dX7_cornerAfter_3 : decode cX7_cornerAfter 3 = .ok (.istore_n 3, 1) := by decide +kernel
theorem dX7_cornerAfter_4 : decode cX7_cornerAfter 4 = .ok (.iload_n 3, 1) := by decide +kernel
theorem dX7_cornerAfter_5 : decode cX7_cornerAfter 5 = .ok (.bipush 12, 2) := by decide +kernel
theorem dX7_cornerAfter_7 : decode cX7_cornerAfter 7 = .ok (.if_icmp .ge 70, 3) := by decide +kernel
theorem dX7_cornerAfter_10 : decode cX7_cornerAfter 10 = .ok (.aload_n 0, 1) := by decide +kernel
theorem dX7_cornerAfter_11 : decode cX7_cornerAfter 11 = .ok (.iload_n 3, 1) := by decide +kernel
theorem dX7_cornerAfter_12 : decode cX7_cornerAfter 12 = .ok (.invokevirtual 27, 3) := by decide +kernel
theorem dX7_cornerAfter_15 : decode cX7_cornerAfter 15 = .ok (.ifCond .eq 56, 3) := by decide +kernel
theorem dX7_cornerAfter_18 : decode cX7_cornerAfter 18 = .ok (.iload_n 3, 1) := by decide +kernel
theorem dX7_cornerAfter_19 : decode cX7_cornerAfter 19 = .ok (.iload_n 1, 1) := by decide +kernel
theorem dX7_cornerAfter_20 : decode cX7_cornerAfter 20 = .ok (.if_icmp .ne 6, 3) := by decide +kernel
theorem dX7_cornerAfter_23 : decode cX7_cornerAfter 23 = .ok (.goto 48, 3) := by decide +kernel
theorem dX7_cornerAfter_26 : decode cX7_cornerAfter 26 = .ok (.iload_n 2, 1) := by decide +kernel
theorem dX7_cornerAfter_27 : decode cX7_cornerAfter 27 = .ok (.iconst (-1), 1) := by decide +kernel
theorem dX7_cornerAfter_28 : decode cX7_cornerAfter 28 = .ok (.if_icmp .ne 7, 3) := by decide +kernel
theorem dX7_cornerAfter_31 : decode cX7_cornerAfter 31 = .ok (.iconst (-1), 1) := by decide +kernel
theorem dX7_cornerAfter_32 : decode cX7_cornerAfter 32 = .ok (.goto 10, 3) := by decide +kernel
theorem dX7_cornerAfter_35 : decode cX7_cornerAfter 35 = .ok (.aload_n 0, 1) := by decide +kernel
theorem dX7_cornerAfter_36 : decode cX7_cornerAfter 36 = .ok (.iload_n 1, 1) := by decide +kernel
theorem dX7_cornerAfter_37 : decode cX7_cornerAfter 37 = .ok (.iload_n 2, 1) := by decide +kernel
theorem dX7_cornerAfter_38 : decode cX7_cornerAfter 38 = .ok (.iload_n 3, 1) := by decide +kernel
theorem dX7_cornerAfter_39 : decode cX7_cornerAfter 39 = .ok (.invokevirtual 43, 3) := by decide +kernel
theorem dX7_cornerAfter_42 : decode cX7_cornerAfter 42 = .ok (.istore 4, 2) := by decide +kernel
theorem dX7_cornerAfter_44 : decode cX7_cornerAfter 44 = .ok (.iload 4, 2) := by decide +kernel
theorem dX7_cornerAfter_46 : decode cX7_cornerAfter 46 = .ok (.ifCond .lt 23, 3) := by decide +kernel
theorem dX7_cornerAfter_49 : decode cX7_cornerAfter 49 = .ok (.iload 4, 2) := by decide +kernel
theorem dX7_cornerAfter_51 : decode cX7_cornerAfter 51 = .ok (.ifCond .ne 20, 3) := by decide +kernel
theorem dX7_cornerAfter_54 : decode cX7_cornerAfter 54 = .ok (.aload_n 0, 1) := by decide +kernel
theorem dX7_cornerAfter_55 : decode cX7_cornerAfter 55 = .ok (.iload_n 1, 1) := by decide +kernel
theorem dX7_cornerAfter_56 : decode cX7_cornerAfter 56 = .ok (.iload_n 3, 1) := by decide +kernel
theorem dX7_cornerAfter_57 : decode cX7_cornerAfter 57 = .ok (.invokevirtual 47, 3) := by decide +kernel
theorem dX7_cornerAfter_60 : decode cX7_cornerAfter 60 = .ok (.aload_n 0, 1) := by decide +kernel
theorem dX7_cornerAfter_61 : decode cX7_cornerAfter 61 = .ok (.iload_n 1, 1) := by decide +kernel
theorem dX7_cornerAfter_62 : decode cX7_cornerAfter 62 = .ok (.iload_n 2, 1) := by decide +kernel
theorem dX7_cornerAfter_63 : decode cX7_cornerAfter 63 = .ok (.invokevirtual 47, 3) := by decide +kernel
theorem dX7_cornerAfter_66 : decode cX7_cornerAfter 66 = .ok (.if_icmp .le 5, 3) := by decide +kernel
theorem dX7_cornerAfter_69 : decode cX7_cornerAfter 69 = .ok (.iload_n 3, 1) := by decide +kernel
theorem dX7_cornerAfter_70 : decode cX7_cornerAfter 70 = .ok (.istore_n 2, 1) := by decide +kernel
theorem dX7_cornerAfter_71 : decode cX7_cornerAfter 71 = .ok (.iinc 3 1, 3) := by decide +kernel
theorem dX7_cornerAfter_74 : decode cX7_cornerAfter 74 = .ok (.goto (-70), 3) := by decide +kernel
theorem dX7_cornerAfter_77 : decode cX7_cornerAfter 77 = .ok (.iload_n 2, 1) := by decide +kernel
theorem dX7_cornerAfter_78 : decode cX7_cornerAfter 78 = .ok (.ireturn, 1) := by decide +kernel
theorem dX7_doubleArea_0 : decode cX7_doubleArea 0 = .ok (.iconst 0, 1) := by decide +kernel
theorem dX7_doubleArea_1 : decode cX7_doubleArea 1 = .ok (.istore_n 2, 1) := by decide +kernel
theorem dX7_doubleArea_2 : decode cX7_doubleArea 2 = .ok (.iconst 1, 1) := by decide +kernel
theorem dX7_doubleArea_3 : decode cX7_doubleArea 3 = .ok (.istore_n 3, 1) := by decide +kernel
theorem dX7_doubleArea_4 : decode cX7_doubleArea 4 = .ok (.iload_n 3, 1) := by decide +kernel
theorem dX7_doubleArea_5 : decode cX7_doubleArea 5 = .ok (.iconst 1, 1) := by decide +kernel
theorem dX7_doubleArea_6 : decode cX7_doubleArea 6 = .ok (.iadd, 1) := by decide +kernel
theorem dX7_doubleArea_7 : decode cX7_doubleArea 7 = .ok (.aload_n 0, 1) := by decide +kernel
theorem dX7_doubleArea_8 : decode cX7_doubleArea 8 = .ok (.getfield 15, 3) := by decide +kernel
theorem dX7_doubleArea_11 : decode cX7_doubleArea 11 = .ok (.if_icmp .ge 44, 3) := by decide +kernel
theorem dX7_doubleArea_14 : decode cX7_doubleArea 14 = .ok (.iload_n 3, 1) := by decide +kernel
theorem dX7_doubleArea_15 : decode cX7_doubleArea 15 = .ok (.iconst 1, 1) := by decide +kernel
theorem dX7_doubleArea_16 : decode cX7_doubleArea 16 = .ok (.iadd, 1) := by decide +kernel
theorem dX7_doubleArea_17 : decode cX7_doubleArea 17 = .ok (.bipush 12, 2) := by decide +kernel
theorem dX7_doubleArea_19 : decode cX7_doubleArea 19 = .ok (.if_icmp .ge 36, 3) := by decide +kernel
theorem dX7_doubleArea_22 : decode cX7_doubleArea 22 = .ok (.iload_n 2, 1) := by decide +kernel
theorem dX7_doubleArea_23 : decode cX7_doubleArea 23 = .ok (.aload_n 1, 1) := by decide +kernel
theorem dX7_doubleArea_24 : decode cX7_doubleArea 24 = .ok (.aload_n 0, 1) := by decide +kernel
theorem dX7_doubleArea_25 : decode cX7_doubleArea 25 = .ok (.getfield 9, 3) := by decide +kernel
theorem dX7_doubleArea_28 : decode cX7_doubleArea 28 = .ok (.iconst 0, 1) := by decide +kernel
theorem dX7_doubleArea_29 : decode cX7_doubleArea 29 = .ok (.iaload, 1) := by decide +kernel
theorem dX7_doubleArea_30 : decode cX7_doubleArea 30 = .ok (.aload_n 0, 1) := by decide +kernel
theorem dX7_doubleArea_31 : decode cX7_doubleArea 31 = .ok (.getfield 9, 3) := by decide +kernel
theorem dX7_doubleArea_34 : decode cX7_doubleArea 34 = .ok (.iload_n 3, 1) := by decide +kernel
theorem dX7_doubleArea_35 : decode cX7_doubleArea 35 = .ok (.iaload, 1) := by decide +kernel
theorem dX7_doubleArea_36 : decode cX7_doubleArea 36 = .ok (.aload_n 0, 1) := by decide +kernel
theorem dX7_doubleArea_37 : decode cX7_doubleArea 37 = .ok (.getfield 9, 3) := by decide +kernel
theorem dX7_doubleArea_40 : decode cX7_doubleArea 40 = .ok (.iload_n 3, 1) := by decide +kernel
theorem dX7_doubleArea_41 : decode cX7_doubleArea 41 = .ok (.iconst 1, 1) := by decide +kernel
theorem dX7_doubleArea_42 : decode cX7_doubleArea 42 = .ok (.iadd, 1) := by decide +kernel
theorem dX7_doubleArea_43 : decode cX7_doubleArea 43 = .ok (.iaload, 1) := by decide +kernel
theorem dX7_doubleArea_44 : decode cX7_doubleArea 44 = .ok (.invokevirtual 51, 3) := by decide +kernel
theorem dX7_doubleArea_47 : decode cX7_doubleArea 47 = .ok (.iadd, 1) := by decide +kernel
theorem dX7_doubleArea_48 : decode cX7_doubleArea 48 = .ok (.istore_n 2, 1) := by decide +kernel
theorem dX7_doubleArea_49 : decode cX7_doubleArea 49 = .ok (.iinc 3 1, 3) := by decide +kernel
theorem dX7_doubleArea_52 : decode cX7_doubleArea 52 = .ok (.goto (-48), 3) := by decide +kernel
theorem dX7_doubleArea_55 : decode cX7_doubleArea 55 = .ok (.iload_n 2, 1) := by decide +kernel
theorem dX7_doubleArea_56 : decode cX7_doubleArea 56 = .ok (.ireturn, 1) := by decide +kernel
theorem dX7_layerOf_0 : decode cX7_layerOf 0 = .ok (.aload_n 1, 1) := by decide +kernel
theorem dX7_layerOf_1 : decode cX7_layerOf 1 = .ok (.getfield 54, 3) := by decide +kernel
theorem dX7_layerOf_4 : decode cX7_layerOf 4 = .ok (.istore_n 3, 1) := by decide +kernel
theorem dX7_layerOf_5 : decode cX7_layerOf 5 = .ok (.iconst 0, 1) := by decide +kernel
theorem dX7_layerOf_6 : decode cX7_layerOf 6 = .ok (.istore 4, 2) := by decide +kernel
theorem dX7_layerOf_8 : decode cX7_layerOf 8 = .ok (.iload 4, 2) := by decide +kernel
theorem dX7_layerOf_10 : decode cX7_layerOf 10 = .ok (.bipush 12, 2) := by decide +kernel
theorem dX7_layerOf_12 : decode cX7_layerOf 12 = .ok (.if_icmp .ge 35, 3) := by decide +kernel
theorem dX7_layerOf_15 : decode cX7_layerOf 15 = .ok (.aload_n 1, 1) := by decide +kernel
theorem dX7_layerOf_16 : decode cX7_layerOf 16 = .ok (.iload_n 3, 1) := by decide +kernel
theorem dX7_layerOf_17 : decode cX7_layerOf 17 = .ok (.invokestatic 57, 3) := by decide +kernel
theorem dX7_layerOf_20 : decode cX7_layerOf 20 = .ok (.istore 5, 2) := by decide +kernel
theorem dX7_layerOf_22 : decode cX7_layerOf 22 = .ok (.iload 5, 2) := by decide +kernel
theorem dX7_layerOf_24 : decode cX7_layerOf 24 = .ok (.iload_n 2, 1) := by decide +kernel
theorem dX7_layerOf_25 : decode cX7_layerOf 25 = .ok (.invokestatic 60, 3) := by decide +kernel
theorem dX7_layerOf_28 : decode cX7_layerOf 28 = .ok (.ifCond .eq 6, 3) := by decide +kernel
theorem dX7_layerOf_31 : decode cX7_layerOf 31 = .ok (.iload 4, 2) := by decide +kernel
theorem dX7_layerOf_33 : decode cX7_layerOf 33 = .ok (.ireturn, 1) := by decide +kernel
theorem dX7_layerOf_34 : decode cX7_layerOf 34 = .ok (.iload_n 3, 1) := by decide +kernel
theorem dX7_layerOf_35 : decode cX7_layerOf 35 = .ok (.iload 5, 2) := by decide +kernel
theorem dX7_layerOf_37 : decode cX7_layerOf 37 = .ok (.iconst (-1), 1) := by decide +kernel
theorem dX7_layerOf_38 : decode cX7_layerOf 38 = .ok (.ixor, 1) := by decide +kernel
theorem dX7_layerOf_39 : decode cX7_layerOf 39 = .ok (.iand, 1) := by decide +kernel
theorem dX7_layerOf_40 : decode cX7_layerOf 40 = .ok (.istore_n 3, 1) := by decide +kernel
theorem dX7_layerOf_41 : decode cX7_layerOf 41 = .ok (.iinc 4 1, 3) := by decide +kernel
theorem dX7_layerOf_44 : decode cX7_layerOf 44 = .ok (.goto (-36), 3) := by decide +kernel
theorem dX7_layerOf_47 : decode cX7_layerOf 47 = .ok (.bipush 12, 2) := by decide +kernel
theorem dX7_layerOf_49 : decode cX7_layerOf 49 = .ok (.ireturn, 1) := by decide +kernel
theorem dX7_outermostOf_0 : decode cX7_outermostOf 0 = .ok (.iconst 0, 1) := by decide +kernel
theorem dX7_outermostOf_1 : decode cX7_outermostOf 1 = .ok (.istore_n 2, 1) := by decide +kernel
theorem dX7_outermostOf_2 : decode cX7_outermostOf 2 = .ok (.iconst 0, 1) := by decide +kernel
theorem dX7_outermostOf_3 : decode cX7_outermostOf 3 = .ok (.istore_n 3, 1) := by decide +kernel
theorem dX7_outermostOf_4 : decode cX7_outermostOf 4 = .ok (.iload_n 3, 1) := by decide +kernel
theorem dX7_outermostOf_5 : decode cX7_outermostOf 5 = .ok (.bipush 12, 2) := by decide +kernel
theorem dX7_outermostOf_7 : decode cX7_outermostOf 7 = .ok (.if_icmp .ge 32, 3) := by decide +kernel
theorem dX7_outermostOf_10 : decode cX7_outermostOf 10 = .ok (.iload_n 1, 1) := by decide +kernel
theorem dX7_outermostOf_11 : decode cX7_outermostOf 11 = .ok (.iload_n 3, 1) := by decide +kernel
theorem dX7_outermostOf_12 : decode cX7_outermostOf 12 = .ok (.invokestatic 60, 3) := by decide +kernel
theorem dX7_outermostOf_15 : decode cX7_outermostOf 15 = .ok (.ifCond .eq 18, 3) := by decide +kernel
theorem dX7_outermostOf_18 : decode cX7_outermostOf 18 = .ok (.aload_n 0, 1) := by decide +kernel
theorem dX7_outermostOf_19 : decode cX7_outermostOf 19 = .ok (.iload_n 1, 1) := by decide +kernel
theorem dX7_outermostOf_20 : decode cX7_outermostOf 20 = .ok (.iload_n 3, 1) := by decide +kernel
theorem dX7_outermostOf_21 : decode cX7_outermostOf 21 = .ok (.invokestatic 64, 3) := by decide +kernel
theorem dX7_outermostOf_24 : decode cX7_outermostOf 24 = .ok (.ifCond .eq 9, 3) := by decide +kernel
theorem dX7_outermostOf_27 : decode cX7_outermostOf 27 = .ok (.iload_n 2, 1) := by decide +kernel
theorem dX7_outermostOf_28 : decode cX7_outermostOf 28 = .ok (.iconst 1, 1) := by decide +kernel
theorem dX7_outermostOf_29 : decode cX7_outermostOf 29 = .ok (.iload_n 3, 1) := by decide +kernel
theorem dX7_outermostOf_30 : decode cX7_outermostOf 30 = .ok (.ishl, 1) := by decide +kernel
theorem dX7_outermostOf_31 : decode cX7_outermostOf 31 = .ok (.ior, 1) := by decide +kernel
theorem dX7_outermostOf_32 : decode cX7_outermostOf 32 = .ok (.istore_n 2, 1) := by decide +kernel
theorem dX7_outermostOf_33 : decode cX7_outermostOf 33 = .ok (.iinc 3 1, 3) := by decide +kernel
theorem dX7_outermostOf_36 : decode cX7_outermostOf 36 = .ok (.goto (-32), 3) := by decide +kernel
theorem dX7_outermostOf_39 : decode cX7_outermostOf 39 = .ok (.iload_n 2, 1) := by decide +kernel
theorem dX7_outermostOf_40 : decode cX7_outermostOf 40 = .ok (.ireturn, 1) := by decide +kernel
theorem dX7_isOutermost_0 : decode cX7_isOutermost 0 = .ok (.iconst 0, 1) := by decide +kernel
theorem dX7_isOutermost_1 : decode cX7_isOutermost 1 = .ok (.istore_n 3, 1) := by decide +kernel
theorem dX7_isOutermost_2 : decode cX7_isOutermost 2 = .ok (.iload_n 3, 1) := by decide +kernel
theorem dX7_isOutermost_3 : decode cX7_isOutermost 3 = .ok (.bipush 12, 2) := by decide +kernel
theorem dX7_isOutermost_5 : decode cX7_isOutermost 5 = .ok (.if_icmp .ge 34, 3) := by decide +kernel
theorem dX7_isOutermost_8 : decode cX7_isOutermost 8 = .ok (.iload_n 1, 1) := by decide +kernel
theorem dX7_isOutermost_9 : decode cX7_isOutermost 9 = .ok (.iload_n 3, 1) := by decide +kernel
theorem dX7_isOutermost_10 : decode cX7_isOutermost 10 = .ok (.invokestatic 60, 3) := by decide +kernel
theorem dX7_isOutermost_13 : decode cX7_isOutermost 13 = .ok (.ifCond .eq 20, 3) := by decide +kernel
theorem dX7_isOutermost_16 : decode cX7_isOutermost 16 = .ok (.iload_n 3, 1) := by decide +kernel
theorem dX7_isOutermost_17 : decode cX7_isOutermost 17 = .ok (.iload_n 2, 1) := by decide +kernel
theorem dX7_isOutermost_18 : decode cX7_isOutermost 18 = .ok (.if_icmp .eq 15, 3) := by decide +kernel
theorem dX7_isOutermost_21 : decode cX7_isOutermost 21 = .ok (.aload_n 0, 1) := by decide +kernel
theorem dX7_isOutermost_22 : decode cX7_isOutermost 22 = .ok (.iload_n 1, 1) := by decide +kernel
theorem dX7_isOutermost_23 : decode cX7_isOutermost 23 = .ok (.iload_n 2, 1) := by decide +kernel
theorem dX7_isOutermost_24 : decode cX7_isOutermost 24 = .ok (.iload_n 3, 1) := by decide +kernel
theorem dX7_isOutermost_25 : decode cX7_isOutermost 25 = .ok (.invokestatic 67, 3) := by decide +kernel
theorem dX7_isOutermost_28 : decode cX7_isOutermost 28 = .ok (.ifCond .eq 5, 3) := by decide +kernel
theorem dX7_isOutermost_31 : decode cX7_isOutermost 31 = .ok (.iconst 1, 1) := by decide +kernel
theorem dX7_isOutermost_32 : decode cX7_isOutermost 32 = .ok (.ireturn, 1) := by decide +kernel
theorem dX7_isOutermost_33 : decode cX7_isOutermost 33 = .ok (.iinc 3 1, 3) := by decide +kernel
theorem dX7_isOutermost_36 : decode cX7_isOutermost 36 = .ok (.goto (-34), 3) := by decide +kernel
theorem dX7_isOutermost_39 : decode cX7_isOutermost 39 = .ok (.iload_n 1, 1) := by decide +kernel
theorem dX7_isOutermost_40 : decode cX7_isOutermost 40 = .ok (.iconst 1, 1) := by decide +kernel
theorem dX7_isOutermost_41 : decode cX7_isOutermost 41 = .ok (.iload_n 2, 1) := by decide +kernel
theorem dX7_isOutermost_42 : decode cX7_isOutermost 42 = .ok (.ishl, 1) := by decide +kernel
theorem dX7_isOutermost_43 : decode cX7_isOutermost 43 = .ok (.if_icmp .ne 7, 3) := by decide +kernel
theorem dX7_isOutermost_46 : decode cX7_isOutermost 46 = .ok (.iconst 1, 1) := by decide +kernel
theorem dX7_isOutermost_47 : decode cX7_isOutermost 47 = .ok (.goto 4, 3) := by decide +kernel
theorem dX7_isOutermost_50 : decode cX7_isOutermost 50 = .ok (.iconst 0, 1) := by decide +kernel
theorem dX7_isOutermost_51 : decode cX7_isOutermost 51 = .ok (.ireturn, 1) := by decide +kernel
theorem dX7_isOnBorder_0 : decode cX7_isOnBorder 0 = .ok (.aload_n 0, 1) := by decide +kernel
theorem dX7_isOnBorder_1 : decode cX7_isOnBorder 1 = .ok (.iload_n 1, 1) := by decide +kernel
theorem dX7_isOnBorder_2 : decode cX7_isOnBorder 2 = .ok (.iload_n 2, 1) := by decide +kernel
theorem dX7_isOnBorder_3 : decode cX7_isOnBorder 3 = .ok (.iload_n 3, 1) := by decide +kernel
theorem dX7_isOnBorder_4 : decode cX7_isOnBorder 4 = .ok (.iconst 1, 1) := by decide +kernel
theorem dX7_isOnBorder_5 : decode cX7_isOnBorder 5 = .ok (.invokestatic 71, 3) := by decide +kernel
theorem dX7_isOnBorder_8 : decode cX7_isOnBorder 8 = .ok (.ifCond .eq 14, 3) := by decide +kernel
theorem dX7_isOnBorder_11 : decode cX7_isOnBorder 11 = .ok (.aload_n 0, 1) := by decide +kernel
theorem dX7_isOnBorder_12 : decode cX7_isOnBorder 12 = .ok (.iload_n 1, 1) := by decide +kernel
theorem dX7_isOnBorder_13 : decode cX7_isOnBorder 13 = .ok (.iload_n 2, 1) := by decide +kernel
theorem dX7_isOnBorder_14 : decode cX7_isOnBorder 14 = .ok (.iload_n 3, 1) := by decide +kernel
theorem dX7_isOnBorder_15 : decode cX7_isOnBorder 15 = .ok (.iconst (-1), 1) := by decide +kernel
theorem dX7_isOnBorder_16 : decode cX7_isOnBorder 16 = .ok (.invokestatic 71, 3) := by decide +kernel
theorem dX7_isOnBorder_19 : decode cX7_isOnBorder 19 = .ok (.ifCond .ne 7, 3) := by decide +kernel
theorem dX7_isOnBorder_22 : decode cX7_isOnBorder 22 = .ok (.iconst 1, 1) := by decide +kernel
theorem dX7_isOnBorder_23 : decode cX7_isOnBorder 23 = .ok (.goto 4, 3) := by decide +kernel
theorem dX7_isOnBorder_26 : decode cX7_isOnBorder 26 = .ok (.iconst 0, 1) := by decide +kernel
theorem dX7_isOnBorder_27 : decode cX7_isOnBorder 27 = .ok (.ireturn, 1) := by decide +kernel
theorem dX7_countAt_0 : decode cX7_countAt 0 = .ok (.iconst 0, 1) := by decide +kernel
theorem dX7_countAt_1 : decode cX7_countAt 1 = .ok (.istore 5, 2) := by decide +kernel
theorem dX7_countAt_3 : decode cX7_countAt 3 = .ok (.iconst 0, 1) := by decide +kernel
theorem dX7_countAt_4 : decode cX7_countAt 4 = .ok (.istore 6, 2) := by decide +kernel
theorem dX7_countAt_6 : decode cX7_countAt 6 = .ok (.iload 6, 2) := by decide +kernel
theorem dX7_countAt_8 : decode cX7_countAt 8 = .ok (.bipush 12, 2) := by decide +kernel
theorem dX7_countAt_10 : decode cX7_countAt 10 = .ok (.if_icmp .ge 34, 3) := by decide +kernel
theorem dX7_countAt_13 : decode cX7_countAt 13 = .ok (.iload_n 1, 1) := by decide +kernel
theorem dX7_countAt_14 : decode cX7_countAt 14 = .ok (.iload 6, 2) := by decide +kernel
theorem dX7_countAt_16 : decode cX7_countAt 16 = .ok (.invokestatic 60, 3) := by decide +kernel
theorem dX7_countAt_19 : decode cX7_countAt 19 = .ok (.ifCond .eq 19, 3) := by decide +kernel
theorem dX7_countAt_22 : decode cX7_countAt 22 = .ok (.aload_n 0, 1) := by decide +kernel
theorem dX7_countAt_23 : decode cX7_countAt 23 = .ok (.iload_n 2, 1) := by decide +kernel
theorem dX7_countAt_24 : decode cX7_countAt 24 = .ok (.iload_n 3, 1) := by decide +kernel
theorem dX7_countAt_25 : decode cX7_countAt 25 = .ok (.iload 6, 2) := by decide +kernel
theorem dX7_countAt_27 : decode cX7_countAt 27 = .ok (.invokevirtual 43, 3) := by decide +kernel
theorem dX7_countAt_30 : decode cX7_countAt 30 = .ok (.iload 4, 2) := by decide +kernel
theorem dX7_countAt_32 : decode cX7_countAt 32 = .ok (.if_icmp .ne 6, 3) := by decide +kernel
theorem dX7_countAt_35 : decode cX7_countAt 35 = .ok (.iinc 5 1, 3) := by decide +kernel
theorem dX7_countAt_38 : decode cX7_countAt 38 = .ok (.iinc 6 1, 3) := by decide +kernel
theorem dX7_countAt_41 : decode cX7_countAt 41 = .ok (.goto (-35), 3) := by decide +kernel
theorem dX7_countAt_44 : decode cX7_countAt 44 = .ok (.iload 5, 2) := by decide +kernel
theorem dX7_countAt_46 : decode cX7_countAt 46 = .ok (.ireturn, 1) := by decide +kernel
theorem dX7_depthOf_0 : decode cX7_depthOf 0 = .ok (.aload_n 1, 1) := by decide +kernel
theorem dX7_depthOf_1 : decode cX7_depthOf 1 = .ok (.invokevirtual 75, 3) := by decide +kernel
theorem dX7_depthOf_4 : decode cX7_depthOf 4 = .ok (.istore_n 3, 1) := by decide +kernel
theorem dX7_depthOf_5 : decode cX7_depthOf 5 = .ok (.iconst 0, 1) := by decide +kernel
theorem dX7_depthOf_6 : decode cX7_depthOf 6 = .ok (.istore 4, 2) := by decide +kernel
theorem dX7_depthOf_8 : decode cX7_depthOf 8 = .ok (.iload 4, 2) := by decide +kernel
theorem dX7_depthOf_10 : decode cX7_depthOf 10 = .ok (.bipush 12, 2) := by decide +kernel
theorem dX7_depthOf_12 : decode cX7_depthOf 12 = .ok (.if_icmp .ge 100, 3) := by decide +kernel
theorem dX7_depthOf_15 : decode cX7_depthOf 15 = .ok (.aload_n 1, 1) := by decide +kernel
theorem dX7_depthOf_16 : decode cX7_depthOf 16 = .ok (.iload 4, 2) := by decide +kernel
theorem dX7_depthOf_18 : decode cX7_depthOf 18 = .ok (.invokevirtual 27, 3) := by decide +kernel
theorem dX7_depthOf_21 : decode cX7_depthOf 21 = .ok (.ifCond .eq 85, 3) := by decide +kernel
theorem dX7_depthOf_24 : decode cX7_depthOf 24 = .ok (.iload 4, 2) := by decide +kernel
theorem dX7_depthOf_26 : decode cX7_depthOf 26 = .ok (.iload_n 2, 1) := by decide +kernel
theorem dX7_depthOf_27 : decode cX7_depthOf 27 = .ok (.if_icmp .eq 79, 3) := by decide +kernel
theorem dX7_depthOf_30 : decode cX7_depthOf 30 = .ok (.aload_n 1, 1) := by decide +kernel
theorem dX7_depthOf_31 : decode cX7_depthOf 31 = .ok (.aload_n 1, 1) := by decide +kernel
theorem dX7_depthOf_32 : decode cX7_depthOf 32 = .ok (.getfield 54, 3) := by decide +kernel
theorem dX7_depthOf_35 : decode cX7_depthOf 35 = .ok (.iload_n 2, 1) := by decide +kernel
theorem dX7_depthOf_36 : decode cX7_depthOf 36 = .ok (.iload 4, 2) := by decide +kernel
theorem dX7_depthOf_38 : decode cX7_depthOf 38 = .ok (.iconst 1, 1) := by decide +kernel
theorem dX7_depthOf_39 : decode cX7_depthOf 39 = .ok (.invokestatic 71, 3) := by decide +kernel
theorem dX7_depthOf_42 : decode cX7_depthOf 42 = .ok (.istore 5, 2) := by decide +kernel
theorem dX7_depthOf_44 : decode cX7_depthOf 44 = .ok (.aload_n 1, 1) := by decide +kernel
theorem dX7_depthOf_45 : decode cX7_depthOf 45 = .ok (.aload_n 1, 1) := by decide +kernel
theorem dX7_depthOf_46 : decode cX7_depthOf 46 = .ok (.getfield 54, 3) := by decide +kernel
theorem dX7_depthOf_49 : decode cX7_depthOf 49 = .ok (.iload_n 2, 1) := by decide +kernel
theorem dX7_depthOf_50 : decode cX7_depthOf 50 = .ok (.iload 4, 2) := by decide +kernel
theorem dX7_depthOf_52 : decode cX7_depthOf 52 = .ok (.iconst (-1), 1) := by decide +kernel
theorem dX7_depthOf_53 : decode cX7_depthOf 53 = .ok (.invokestatic 71, 3) := by decide +kernel
theorem dX7_depthOf_56 : decode cX7_depthOf 56 = .ok (.istore 6, 2) := by decide +kernel
theorem dX7_depthOf_58 : decode cX7_depthOf 58 = .ok (.aload_n 1, 1) := by decide +kernel
theorem dX7_depthOf_59 : decode cX7_depthOf 59 = .ok (.iload_n 2, 1) := by decide +kernel
theorem dX7_depthOf_60 : decode cX7_depthOf 60 = .ok (.iload 4, 2) := by decide +kernel
theorem dX7_depthOf_62 : decode cX7_depthOf 62 = .ok (.invokestatic 78, 3) := by decide +kernel
theorem dX7_depthOf_65 : decode cX7_depthOf 65 = .ok (.istore 7, 2) := by decide +kernel
theorem dX7_depthOf_67 : decode cX7_depthOf 67 = .ok (.aload_n 1, 1) := by decide +kernel
theorem dX7_depthOf_68 : decode cX7_depthOf 68 = .ok (.invokevirtual 75, 3) := by decide +kernel
theorem dX7_depthOf_71 : decode cX7_depthOf 71 = .ok (.iconst 1, 1) := by decide +kernel
theorem dX7_depthOf_72 : decode cX7_depthOf 72 = .ok (.isub, 1) := by decide +kernel
theorem dX7_depthOf_73 : decode cX7_depthOf 73 = .ok (.iload 5, 2) := by decide +kernel
theorem dX7_depthOf_75 : decode cX7_depthOf 75 = .ok (.isub, 1) := by decide +kernel
theorem dX7_depthOf_76 : decode cX7_depthOf 76 = .ok (.iload 6, 2) := by decide +kernel
theorem dX7_depthOf_78 : decode cX7_depthOf 78 = .ok (.isub, 1) := by decide +kernel
theorem dX7_depthOf_79 : decode cX7_depthOf 79 = .ok (.iload 7, 2) := by decide +kernel
theorem dX7_depthOf_81 : decode cX7_depthOf 81 = .ok (.isub, 1) := by decide +kernel
theorem dX7_depthOf_82 : decode cX7_depthOf 82 = .ok (.istore 8, 2) := by decide +kernel
theorem dX7_depthOf_84 : decode cX7_depthOf 84 = .ok (.iload_n 3, 1) := by decide +kernel
theorem dX7_depthOf_85 : decode cX7_depthOf 85 = .ok (.iconst 1, 1) := by decide +kernel
theorem dX7_depthOf_86 : decode cX7_depthOf 86 = .ok (.iload 5, 2) := by decide +kernel
theorem dX7_depthOf_88 : decode cX7_depthOf 88 = .ok (.iload 6, 2) := by decide +kernel
theorem dX7_depthOf_90 : decode cX7_depthOf 90 = .ok (.invokestatic 82, 3) := by decide +kernel
theorem dX7_depthOf_93 : decode cX7_depthOf 93 = .ok (.iadd, 1) := by decide +kernel
theorem dX7_depthOf_94 : decode cX7_depthOf 94 = .ok (.iload 7, 2) := by decide +kernel
theorem dX7_depthOf_96 : decode cX7_depthOf 96 = .ok (.iload 8, 2) := by decide +kernel
theorem dX7_depthOf_98 : decode cX7_depthOf 98 = .ok (.invokestatic 82, 3) := by decide +kernel
theorem dX7_depthOf_101 : decode cX7_depthOf 101 = .ok (.iadd, 1) := by decide +kernel
theorem dX7_depthOf_102 : decode cX7_depthOf 102 = .ok (.invokestatic 82, 3) := by decide +kernel
theorem dX7_depthOf_105 : decode cX7_depthOf 105 = .ok (.istore_n 3, 1) := by decide +kernel
theorem dX7_depthOf_106 : decode cX7_depthOf 106 = .ok (.iinc 4 1, 3) := by decide +kernel
theorem dX7_depthOf_109 : decode cX7_depthOf 109 = .ok (.goto (-101), 3) := by decide +kernel
theorem dX7_depthOf_112 : decode cX7_depthOf 112 = .ok (.iload_n 3, 1) := by decide +kernel
theorem dX7_depthOf_113 : decode cX7_depthOf 113 = .ok (.ireturn, 1) := by decide +kernel
theorem dX7_countAhead_0 : decode cX7_countAhead 0 = .ok (.iconst 0, 1) := by decide +kernel
theorem dX7_countAhead_1 : decode cX7_countAhead 1 = .ok (.istore_n 3, 1) := by decide +kernel
theorem dX7_countAhead_2 : decode cX7_countAhead 2 = .ok (.iconst 0, 1) := by decide +kernel
theorem dX7_countAhead_3 : decode cX7_countAhead 3 = .ok (.istore 4, 2) := by decide +kernel
theorem dX7_countAhead_5 : decode cX7_countAhead 5 = .ok (.iload 4, 2) := by decide +kernel
theorem dX7_countAhead_7 : decode cX7_countAhead 7 = .ok (.bipush 12, 2) := by decide +kernel
theorem dX7_countAhead_9 : decode cX7_countAhead 9 = .ok (.if_icmp .ge 101, 3) := by decide +kernel
theorem dX7_countAhead_12 : decode cX7_countAhead 12 = .ok (.aload_n 0, 1) := by decide +kernel
theorem dX7_countAhead_13 : decode cX7_countAhead 13 = .ok (.iload 4, 2) := by decide +kernel
theorem dX7_countAhead_15 : decode cX7_countAhead 15 = .ok (.invokevirtual 27, 3) := by decide +kernel
theorem dX7_countAhead_18 : decode cX7_countAhead 18 = .ok (.ifCond .eq 86, 3) := by decide +kernel
theorem dX7_countAhead_21 : decode cX7_countAhead 21 = .ok (.aload_n 0, 1) := by decide +kernel
theorem dX7_countAhead_22 : decode cX7_countAhead 22 = .ok (.iload_n 1, 1) := by decide +kernel
theorem dX7_countAhead_23 : decode cX7_countAhead 23 = .ok (.iload_n 2, 1) := by decide +kernel
theorem dX7_countAhead_24 : decode cX7_countAhead 24 = .ok (.iload 4, 2) := by decide +kernel
theorem dX7_countAhead_26 : decode cX7_countAhead 26 = .ok (.invokevirtual 43, 3) := by decide +kernel
theorem dX7_countAhead_29 : decode cX7_countAhead 29 = .ok (.ifCond .ne 75, 3) := by decide +kernel
theorem dX7_countAhead_32 : decode cX7_countAhead 32 = .ok (.aload_n 0, 1) := by decide +kernel
theorem dX7_countAhead_33 : decode cX7_countAhead 33 = .ok (.getfield 40, 3) := by decide +kernel
theorem dX7_countAhead_36 : decode cX7_countAhead 36 = .ok (.iload_n 2, 1) := by decide +kernel
theorem dX7_countAhead_37 : decode cX7_countAhead 37 = .ok (.iaload, 1) := by decide +kernel
theorem dX7_countAhead_38 : decode cX7_countAhead 38 = .ok (.aload_n 0, 1) := by decide +kernel
theorem dX7_countAhead_39 : decode cX7_countAhead 39 = .ok (.getfield 40, 3) := by decide +kernel
theorem dX7_countAhead_42 : decode cX7_countAhead 42 = .ok (.iload_n 1, 1) := by decide +kernel
theorem dX7_countAhead_43 : decode cX7_countAhead 43 = .ok (.iaload, 1) := by decide +kernel
theorem dX7_countAhead_44 : decode cX7_countAhead 44 = .ok (.isub, 1) := by decide +kernel
theorem dX7_countAhead_45 : decode cX7_countAhead 45 = .ok (.aload_n 0, 1) := by decide +kernel
theorem dX7_countAhead_46 : decode cX7_countAhead 46 = .ok (.getfield 40, 3) := by decide +kernel
theorem dX7_countAhead_49 : decode cX7_countAhead 49 = .ok (.iload 4, 2) := by decide +kernel
theorem dX7_countAhead_51 : decode cX7_countAhead 51 = .ok (.iaload, 1) := by decide +kernel
theorem dX7_countAhead_52 : decode cX7_countAhead 52 = .ok (.aload_n 0, 1) := by decide +kernel
theorem dX7_countAhead_53 : decode cX7_countAhead 53 = .ok (.getfield 40, 3) := by decide +kernel
theorem dX7_countAhead_56 : decode cX7_countAhead 56 = .ok (.iload_n 1, 1) := by decide +kernel
theorem dX7_countAhead_57 : decode cX7_countAhead 57 = .ok (.iaload, 1) := by decide +kernel
theorem dX7_countAhead_58 : decode cX7_countAhead 58 = .ok (.isub, 1) := by decide +kernel
theorem dX7_countAhead_59 : decode cX7_countAhead 59 = .ok (.imul, 1) := by decide +kernel
theorem dX7_countAhead_60 : decode cX7_countAhead 60 = .ok (.aload_n 0, 1) := by decide +kernel
theorem dX7_countAhead_61 : decode cX7_countAhead 61 = .ok (.getfield 37, 3) := by decide +kernel
theorem dX7_countAhead_64 : decode cX7_countAhead 64 = .ok (.iload_n 2, 1) := by decide +kernel
theorem dX7_countAhead_65 : decode cX7_countAhead 65 = .ok (.iaload, 1) := by decide +kernel
theorem dX7_countAhead_66 : decode cX7_countAhead 66 = .ok (.aload_n 0, 1) := by decide +kernel
theorem dX7_countAhead_67 : decode cX7_countAhead 67 = .ok (.getfield 37, 3) := by decide +kernel
theorem dX7_countAhead_70 : decode cX7_countAhead 70 = .ok (.iload_n 1, 1) := by decide +kernel
theorem dX7_countAhead_71 : decode cX7_countAhead 71 = .ok (.iaload, 1) := by decide +kernel
theorem dX7_countAhead_72 : decode cX7_countAhead 72 = .ok (.isub, 1) := by decide +kernel
theorem dX7_countAhead_73 : decode cX7_countAhead 73 = .ok (.aload_n 0, 1) := by decide +kernel
theorem dX7_countAhead_74 : decode cX7_countAhead 74 = .ok (.getfield 37, 3) := by decide +kernel
theorem dX7_countAhead_77 : decode cX7_countAhead 77 = .ok (.iload 4, 2) := by decide +kernel
theorem dX7_countAhead_79 : decode cX7_countAhead 79 = .ok (.iaload, 1) := by decide +kernel
theorem dX7_countAhead_80 : decode cX7_countAhead 80 = .ok (.aload_n 0, 1) := by decide +kernel
theorem dX7_countAhead_81 : decode cX7_countAhead 81 = .ok (.getfield 37, 3) := by decide +kernel
theorem dX7_countAhead_84 : decode cX7_countAhead 84 = .ok (.iload_n 1, 1) := by decide +kernel
theorem dX7_countAhead_85 : decode cX7_countAhead 85 = .ok (.iaload, 1) := by decide +kernel
theorem dX7_countAhead_86 : decode cX7_countAhead 86 = .ok (.isub, 1) := by decide +kernel
theorem dX7_countAhead_87 : decode cX7_countAhead 87 = .ok (.imul, 1) := by decide +kernel
theorem dX7_countAhead_88 : decode cX7_countAhead 88 = .ok (.iadd, 1) := by decide +kernel
theorem dX7_countAhead_89 : decode cX7_countAhead 89 = .ok (.istore 5, 2) := by decide +kernel
theorem dX7_countAhead_91 : decode cX7_countAhead 91 = .ok (.iload_n 3, 1) := by decide +kernel
theorem dX7_countAhead_92 : decode cX7_countAhead 92 = .ok (.iload 5, 2) := by decide +kernel
theorem dX7_countAhead_94 : decode cX7_countAhead 94 = .ok (.ifCond .le 7, 3) := by decide +kernel
theorem dX7_countAhead_97 : decode cX7_countAhead 97 = .ok (.iconst 1, 1) := by decide +kernel
theorem dX7_countAhead_98 : decode cX7_countAhead 98 = .ok (.goto 4, 3) := by decide +kernel
theorem dX7_countAhead_101 : decode cX7_countAhead 101 = .ok (.iconst 0, 1) := by decide +kernel
theorem dX7_countAhead_102 : decode cX7_countAhead 102 = .ok (.iadd, 1) := by decide +kernel
theorem dX7_countAhead_103 : decode cX7_countAhead 103 = .ok (.istore_n 3, 1) := by decide +kernel
theorem dX7_countAhead_104 : decode cX7_countAhead 104 = .ok (.iinc 4 1, 3) := by decide +kernel
theorem dX7_countAhead_107 : decode cX7_countAhead 107 = .ok (.goto (-102), 3) := by decide +kernel
theorem dX7_countAhead_110 : decode cX7_countAhead 110 = .ok (.iload_n 3, 1) := by decide +kernel
theorem dX7_countAhead_111 : decode cX7_countAhead 111 = .ok (.ireturn, 1) := by decide +kernel
theorem dX8_init_0 : decode cX8_init 0 = .ok (.aload_n 0, 1) := by decide +kernel
theorem dX8_init_1 : decode cX8_init 1 = .ok (.invokespecial 3, 3) := by decide +kernel
theorem dX8_init_4 : decode cX8_init 4 = .ok (.aload_n 0, 1) := by decide +kernel
theorem dX8_init_5 : decode cX8_init 5 = .ok (.bipush 12, 2) := by decide +kernel
theorem dX8_init_7 : decode cX8_init 7 = .ok (.newarray .int, 2) := by decide +kernel
theorem dX8_init_9 : decode cX8_init 9 = .ok (.putfield 9, 3) := by decide +kernel
theorem dX8_init_12 : decode cX8_init 12 = .ok (.return_, 1) := by decide +kernel
theorem dX8_startWith_0 : decode cX8_startWith 0 = .ok (.iconst 0, 1) := by decide +kernel
theorem dX8_startWith_1 : decode cX8_startWith 1 = .ok (.istore_n 2, 1) := by decide +kernel
theorem dX8_startWith_2 : decode cX8_startWith 2 = .ok (.iload_n 2, 1) := by decide +kernel
theorem dX8_startWith_3 : decode cX8_startWith 3 = .ok (.bipush 12, 2) := by decide +kernel
theorem dX8_startWith_5 : decode cX8_startWith 5 = .ok (.if_icmp .ge 28, 3) := by decide +kernel
theorem dX8_startWith_8 : decode cX8_startWith 8 = .ok (.aload_n 0, 1) := by decide +kernel
theorem dX8_startWith_9 : decode cX8_startWith 9 = .ok (.getfield 9, 3) := by decide +kernel
theorem dX8_startWith_12 : decode cX8_startWith 12 = .ok (.iload_n 2, 1) := by decide +kernel
theorem dX8_startWith_13 : decode cX8_startWith 13 = .ok (.aload_n 1, 1) := by decide +kernel
theorem dX8_startWith_14 : decode cX8_startWith 14 = .ok (.iload_n 2, 1) := by decide +kernel
theorem dX8_startWith_15 : decode cX8_startWith 15 = .ok (.invokevirtual 15, 3) := by decide +kernel
theorem dX8_startWith_18 : decode cX8_startWith 18 = .ok (.ifCond .eq 7, 3) := by decide +kernel
theorem dX8_startWith_21 : decode cX8_startWith 21 = .ok (.iload_n 2, 1) := by decide +kernel
theorem dX8_startWith_22 : decode cX8_startWith 22 = .ok (.goto 4, 3) := by decide +kernel
theorem dX8_startWith_25 : decode cX8_startWith 25 = .ok (.iconst (-1), 1) := by decide +kernel
theorem dX8_startWith_26 : decode cX8_startWith 26 = .ok (.iastore, 1) := by decide +kernel
theorem dX8_startWith_27 : decode cX8_startWith 27 = .ok (.iinc 2 1, 3) := by decide +kernel
theorem dX8_startWith_30 : decode cX8_startWith 30 = .ok (.goto (-28), 3) := by decide +kernel
theorem dX8_startWith_33 : decode cX8_startWith 33 = .ok (.aload_n 0, 1) := by decide +kernel
theorem dX8_startWith_34 : decode cX8_startWith 34 = .ok (.aload_n 1, 1) := by decide +kernel
theorem dX8_startWith_35 : decode cX8_startWith 35 = .ok (.invokevirtual 21, 3) := by decide +kernel
theorem dX8_startWith_38 : decode cX8_startWith 38 = .ok (.putfield 25, 3) := by decide +kernel
theorem dX8_startWith_41 : decode cX8_startWith 41 = .ok (.return_, 1) := by decide +kernel
theorem dX8_isLowest_0 : decode cX8_isLowest 0 = .ok (.aload_n 0, 1) := by decide +kernel
theorem dX8_isLowest_1 : decode cX8_isLowest 1 = .ok (.getfield 9, 3) := by decide +kernel
theorem dX8_isLowest_4 : decode cX8_isLowest 4 = .ok (.iload_n 1, 1) := by decide +kernel
theorem dX8_isLowest_5 : decode cX8_isLowest 5 = .ok (.iaload, 1) := by decide +kernel
theorem dX8_isLowest_6 : decode cX8_isLowest 6 = .ok (.iload_n 1, 1) := by decide +kernel
theorem dX8_isLowest_7 : decode cX8_isLowest 7 = .ok (.if_icmp .ne 7, 3) := by decide +kernel
theorem dX8_isLowest_10 : decode cX8_isLowest 10 = .ok (.iconst 1, 1) := by decide +kernel
theorem dX8_isLowest_11 : decode cX8_isLowest 11 = .ok (.goto 4, 3) := by decide +kernel
theorem dX8_isLowest_14 : decode cX8_isLowest 14 = .ok (.iconst 0, 1) := by decide +kernel
theorem dX8_isLowest_15 : decode cX8_isLowest 15 = .ok (.ireturn, 1) := by decide +kernel
theorem dX8_areApart_0 : decode cX8_areApart 0 = .ok (.aload_n 0, 1) := by decide +kernel
theorem dX8_areApart_1 : decode cX8_areApart 1 = .ok (.getfield 9, 3) := by decide +kernel
theorem dX8_areApart_4 : decode cX8_areApart 4 = .ok (.iload_n 1, 1) := by decide +kernel
theorem dX8_areApart_5 : decode cX8_areApart 5 = .ok (.iaload, 1) := by decide +kernel
theorem dX8_areApart_6 : decode cX8_areApart 6 = .ok (.aload_n 0, 1) := by decide +kernel
theorem dX8_areApart_7 : decode cX8_areApart 7 = .ok (.getfield 9, 3) := by decide +kernel
theorem dX8_areApart_10 : decode cX8_areApart 10 = .ok (.iload_n 2, 1) := by decide +kernel
theorem dX8_areApart_11 : decode cX8_areApart 11 = .ok (.iaload, 1) := by decide +kernel
theorem dX8_areApart_12 : decode cX8_areApart 12 = .ok (.if_icmp .eq 7, 3) := by decide +kernel
theorem dX8_areApart_15 : decode cX8_areApart 15 = .ok (.iconst 1, 1) := by decide +kernel
theorem dX8_areApart_16 : decode cX8_areApart 16 = .ok (.goto 4, 3) := by decide +kernel
theorem dX8_areApart_19 : decode cX8_areApart 19 = .ok (.iconst 0, 1) := by decide +kernel
theorem dX8_areApart_20 : decode cX8_areApart 20 = .ok (.ireturn, 1) := by decide +kernel
theorem dX8_unite_0 : decode cX8_unite 0 = .ok (.aload_n 0, 1) := by decide +kernel
theorem dX8_unite_1 : decode cX8_unite 1 = .ok (.getfield 9, 3) := by decide +kernel
theorem dX8_unite_4 : decode cX8_unite 4 = .ok (.iload_n 1, 1) := by decide +kernel
theorem dX8_unite_5 : decode cX8_unite 5 = .ok (.iaload, 1) := by decide +kernel
theorem dX8_unite_6 : decode cX8_unite 6 = .ok (.aload_n 0, 1) := by decide +kernel
theorem dX8_unite_7 : decode cX8_unite 7 = .ok (.getfield 9, 3) := by decide +kernel
theorem dX8_unite_10 : decode cX8_unite 10 = .ok (.iload_n 2, 1) := by decide +kernel
theorem dX8_unite_11 : decode cX8_unite 11 = .ok (.iaload, 1) := by decide +kernel
theorem dX8_unite_12 : decode cX8_unite 12 = .ok (.invokestatic 28, 3) := by decide +kernel
theorem dX8_unite_15 : decode cX8_unite 15 = .ok (.istore_n 3, 1) := by decide +kernel
theorem dX8_unite_16 : decode cX8_unite 16 = .ok (.aload_n 0, 1) := by decide +kernel
theorem dX8_unite_17 : decode cX8_unite 17 = .ok (.getfield 9, 3) := by decide +kernel
theorem dX8_unite_20 : decode cX8_unite 20 = .ok (.iload_n 1, 1) := by decide +kernel
theorem dX8_unite_21 : decode cX8_unite 21 = .ok (.iaload, 1) := by decide +kernel
theorem dX8_unite_22 : decode cX8_unite 22 = .ok (.aload_n 0, 1) := by decide +kernel
theorem dX8_unite_23 : decode cX8_unite 23 = .ok (.getfield 9, 3) := by decide +kernel
theorem dX8_unite_26 : decode cX8_unite 26 = .ok (.iload_n 2, 1) := by decide +kernel
theorem dX8_unite_27 : decode cX8_unite 27 = .ok (.iaload, 1) := by decide +kernel
theorem dX8_unite_28 : decode cX8_unite 28 = .ok (.invokestatic 34, 3) := by decide +kernel
theorem dX8_unite_31 : decode cX8_unite 31 = .ok (.istore 4, 2) := by decide +kernel
theorem dX8_unite_33 : decode cX8_unite 33 = .ok (.iload_n 3, 1) := by decide +kernel
theorem dX8_unite_34 : decode cX8_unite 34 = .ok (.iload 4, 2) := by decide +kernel
theorem dX8_unite_36 : decode cX8_unite 36 = .ok (.if_icmp .ne 4, 3) := by decide +kernel
theorem dX8_unite_39 : decode cX8_unite 39 = .ok (.return_, 1) := by decide +kernel
theorem dX8_unite_40 : decode cX8_unite 40 = .ok (.iconst 0, 1) := by decide +kernel
theorem dX8_unite_41 : decode cX8_unite 41 = .ok (.istore 5, 2) := by decide +kernel
theorem dX8_unite_43 : decode cX8_unite 43 = .ok (.iload 5, 2) := by decide +kernel
theorem dX8_unite_45 : decode cX8_unite 45 = .ok (.bipush 12, 2) := by decide +kernel
theorem dX8_unite_47 : decode cX8_unite 47 = .ok (.if_icmp .ge 29, 3) := by decide +kernel
theorem dX8_unite_50 : decode cX8_unite 50 = .ok (.aload_n 0, 1) := by decide +kernel
theorem dX8_unite_51 : decode cX8_unite 51 = .ok (.getfield 9, 3) := by decide +kernel
theorem dX8_unite_54 : decode cX8_unite 54 = .ok (.iload 5, 2) := by decide +kernel
theorem dX8_unite_56 : decode cX8_unite 56 = .ok (.iaload, 1) := by decide +kernel
theorem dX8_unite_57 : decode cX8_unite 57 = .ok (.iload 4, 2) := by decide +kernel
theorem dX8_unite_59 : decode cX8_unite 59 = .ok (.if_icmp .ne 11, 3) := by decide +kernel
theorem dX8_unite_62 : decode cX8_unite 62 = .ok (.aload_n 0, 1) := by decide +kernel
theorem dX8_unite_63 : decode cX8_unite 63 = .ok (.getfield 9, 3) := by decide +kernel
theorem dX8_unite_66 : decode cX8_unite 66 = .ok (.iload 5, 2) := by decide +kernel
theorem dX8_unite_68 : decode cX8_unite 68 = .ok (.iload_n 3, 1) := by decide +kernel
theorem dX8_unite_69 : decode cX8_unite 69 = .ok (.iastore, 1) := by decide +kernel
theorem dX8_unite_70 : decode cX8_unite 70 = .ok (.iinc 5 1, 3) := by decide +kernel
theorem dX8_unite_73 : decode cX8_unite 73 = .ok (.goto (-30), 3) := by decide +kernel
theorem dX8_unite_76 : decode cX8_unite 76 = .ok (.aload_n 0, 1) := by decide +kernel
theorem dX8_unite_77 : decode cX8_unite 77 = .ok (.dup, 1) := by decide +kernel
theorem dX8_unite_78 : decode cX8_unite 78 = .ok (.getfield 25, 3) := by decide +kernel
theorem dX8_unite_81 : decode cX8_unite 81 = .ok (.iconst 1, 1) := by decide +kernel
theorem dX8_unite_82 : decode cX8_unite 82 = .ok (.isub, 1) := by decide +kernel
theorem dX8_unite_83 : decode cX8_unite 83 = .ok (.putfield 25, 3) := by decide +kernel
theorem dX8_unite_86 : decode cX8_unite 86 = .ok (.return_, 1) := by decide +kernel
theorem dX9_init_0 : decode cX9_init 0 = .ok (.aload_n 0, 1) := by decide +kernel
theorem dX9_init_1 : decode cX9_init 1 = .ok (.invokespecial 3, 3) := by decide +kernel
theorem dX9_init_4 : decode cX9_init 4 = .ok (.aload_n 0, 1) := by decide +kernel
theorem dX9_init_5 : decode cX9_init 5 = .ok (.new 9, 3) := by decide +kernel
theorem dX9_init_8 : decode cX9_init 8 = .ok (.dup, 1) := by decide +kernel
theorem dX9_init_9 : decode cX9_init 9 = .ok (.invokespecial 11, 3) := by decide +kernel
theorem dX9_init_12 : decode cX9_init 12 = .ok (.putfield 12, 3) := by decide +kernel
theorem dX9_init_15 : decode cX9_init 15 = .ok (.return_, 1) := by decide +kernel
theorem dX9_cutAt_0 : decode cX9_cutAt 0 = .ok (.aload_n 0, 1) := by decide +kernel
theorem dX9_cutAt_1 : decode cX9_cutAt 1 = .ok (.getfield 12, 3) := by decide +kernel
theorem dX9_cutAt_4 : decode cX9_cutAt 4 = .ok (.aload_n 1, 1) := by decide +kernel
theorem dX9_cutAt_5 : decode cX9_cutAt 5 = .ok (.invokevirtual 18, 3) := by decide +kernel
theorem dX9_cutAt_8 : decode cX9_cutAt 8 = .ok (.aload_n 0, 1) := by decide +kernel
theorem dX9_cutAt_9 : decode cX9_cutAt 9 = .ok (.iconst 0, 1) := by decide +kernel
theorem dX9_cutAt_10 : decode cX9_cutAt 10 = .ok (.putfield 22, 3) := by decide +kernel
theorem dX9_cutAt_13 : decode cX9_cutAt 13 = .ok (.iconst 0, 1) := by decide +kernel
theorem dX9_cutAt_14 : decode cX9_cutAt 14 = .ok (.istore 4, 2) := by decide +kernel
theorem dX9_cutAt_16 : decode cX9_cutAt 16 = .ok (.iload 4, 2) := by decide +kernel
theorem dX9_cutAt_18 : decode cX9_cutAt 18 = .ok (.bipush 12, 2) := by decide +kernel
theorem dX9_cutAt_20 : decode cX9_cutAt 20 = .ok (.if_icmp .ge 74, 3) := by decide +kernel
theorem dX9_cutAt_23 : decode cX9_cutAt 23 = .ok (.iload 4, 2) := by decide +kernel
theorem dX9_cutAt_25 : decode cX9_cutAt 25 = .ok (.iconst 1, 1) := by decide +kernel
theorem dX9_cutAt_26 : decode cX9_cutAt 26 = .ok (.iadd, 1) := by decide +kernel
theorem dX9_cutAt_27 : decode cX9_cutAt 27 = .ok (.istore 5, 2) := by decide +kernel
theorem dX9_cutAt_29 : decode cX9_cutAt 29 = .ok (.iload 5, 2) := by decide +kernel
theorem dX9_cutAt_31 : decode cX9_cutAt 31 = .ok (.bipush 12, 2) := by decide +kernel
theorem dX9_cutAt_33 : decode cX9_cutAt 33 = .ok (.if_icmp .ge 55, 3) := by decide +kernel
theorem dX9_cutAt_36 : decode cX9_cutAt 36 = .ok (.aload_n 2, 1) := by decide +kernel
theorem dX9_cutAt_37 : decode cX9_cutAt 37 = .ok (.iload 4, 2) := by decide +kernel
theorem dX9_cutAt_39 : decode cX9_cutAt 39 = .ok (.iload 5, 2) := by decide +kernel
theorem dX9_cutAt_41 : decode cX9_cutAt 41 = .ok (.invokevirtual 26, 3) := by decide +kernel
theorem dX9_cutAt_44 : decode cX9_cutAt 44 = .ok (.ifCond .eq 38, 3) := by decide +kernel
theorem dX9_cutAt_47 : decode cX9_cutAt 47 = .ok (.aload_n 1, 1) := by decide +kernel
theorem dX9_cutAt_48 : decode cX9_cutAt 48 = .ok (.iload 4, 2) := by decide +kernel
theorem dX9_cutAt_50 : decode cX9_cutAt 50 = .ok (.iload 5, 2) := by decide +kernel
theorem dX9_cutAt_52 : decode cX9_cutAt 52 = .ok (.invokevirtual 32, 3) := by decide +kernel
theorem dX9_cutAt_55 : decode cX9_cutAt 55 = .ok (.iconst 4, 1) := by decide +kernel
theorem dX9_cutAt_56 : decode cX9_cutAt 56 = .ok (.iload_n 3, 1) := by decide +kernel
theorem dX9_cutAt_57 : decode cX9_cutAt 57 = .ok (.imul, 1) := by decide +kernel
theorem dX9_cutAt_58 : decode cX9_cutAt 58 = .ok (.if_icmp .gt 24, 3) := by decide +kernel
theorem dX9_cutAt_61 : decode cX9_cutAt 61 = .ok (.aload_n 0, 1) := by decide +kernel
theorem dX9_cutAt_62 : decode cX9_cutAt 62 = .ok (.dup, 1) := by decide +kernel
theorem dX9_cutAt_63 : decode cX9_cutAt 63 = .ok (.getfield 22, 3) := by decide +kernel
theorem dX9_cutAt_66 : decode cX9_cutAt 66 = .ok (.iconst 1, 1) := by decide +kernel
theorem dX9_cutAt_67 : decode cX9_cutAt 67 = .ok (.iadd, 1) := by decide +kernel
theorem dX9_cutAt_68 : decode cX9_cutAt 68 = .ok (.putfield 22, 3) := by decide +kernel
theorem dX9_cutAt_71 : decode cX9_cutAt 71 = .ok (.aload_n 0, 1) := by decide +kernel
theorem dX9_cutAt_72 : decode cX9_cutAt 72 = .ok (.getfield 12, 3) := by decide +kernel
theorem dX9_cutAt_75 : decode cX9_cutAt 75 = .ok (.iload 4, 2) := by decide +kernel
theorem dX9_cutAt_77 : decode cX9_cutAt 77 = .ok (.iload 5, 2) := by decide +kernel
theorem dX9_cutAt_79 : decode cX9_cutAt 79 = .ok (.invokevirtual 38, 3) := by decide +kernel
theorem dX9_cutAt_82 : decode cX9_cutAt 82 = .ok (.iinc 5 1, 3) := by decide +kernel
theorem dX9_cutAt_85 : decode cX9_cutAt 85 = .ok (.goto (-56), 3) := by decide +kernel
theorem dX9_cutAt_88 : decode cX9_cutAt 88 = .ok (.iinc 4 1, 3) := by decide +kernel
theorem dX9_cutAt_91 : decode cX9_cutAt 91 = .ok (.goto (-75), 3) := by decide +kernel
theorem dX9_cutAt_94 : decode cX9_cutAt 94 = .ok (.aload_n 0, 1) := by decide +kernel
theorem dX9_cutAt_95 : decode cX9_cutAt 95 = .ok (.iconst 0, 1) := by decide +kernel
theorem dX9_cutAt_96 : decode cX9_cutAt 96 = .ok (.putfield 42, 3) := by decide +kernel
theorem dX9_cutAt_99 : decode cX9_cutAt 99 = .ok (.iconst 0, 1) := by decide +kernel
theorem dX9_cutAt_100 : decode cX9_cutAt 100 = .ok (.istore 4, 2) := by decide +kernel
theorem dX9_cutAt_102 : decode cX9_cutAt 102 = .ok (.iload 4, 2) := by decide +kernel
theorem dX9_cutAt_104 : decode cX9_cutAt 104 = .ok (.aload_n 2, 1) := by decide +kernel
theorem dX9_cutAt_105 : decode cX9_cutAt 105 = .ok (.getfield 45, 3) := by decide +kernel
theorem dX9_cutAt_108 : decode cX9_cutAt 108 = .ok (.if_icmp .ge 30, 3) := by decide +kernel
theorem dX9_cutAt_111 : decode cX9_cutAt 111 = .ok (.aload_n 2, 1) := by decide +kernel
theorem dX9_cutAt_112 : decode cX9_cutAt 112 = .ok (.aload_n 1, 1) := by decide +kernel
theorem dX9_cutAt_113 : decode cX9_cutAt 113 = .ok (.iload 4, 2) := by decide +kernel
theorem dX9_cutAt_115 : decode cX9_cutAt 115 = .ok (.iload_n 3, 1) := by decide +kernel
theorem dX9_cutAt_116 : decode cX9_cutAt 116 = .ok (.invokevirtual 48, 3) := by decide +kernel
theorem dX9_cutAt_119 : decode cX9_cutAt 119 = .ok (.ifCond .eq 13, 3) := by decide +kernel
theorem dX9_cutAt_122 : decode cX9_cutAt 122 = .ok (.aload_n 0, 1) := by decide +kernel
theorem dX9_cutAt_123 : decode cX9_cutAt 123 = .ok (.dup, 1) := by decide +kernel
theorem dX9_cutAt_124 : decode cX9_cutAt 124 = .ok (.getfield 42, 3) := by decide +kernel
theorem dX9_cutAt_127 : decode cX9_cutAt 127 = .ok (.iconst 1, 1) := by decide +kernel
theorem dX9_cutAt_128 : decode cX9_cutAt 128 = .ok (.iadd, 1) := by decide +kernel
theorem dX9_cutAt_129 : decode cX9_cutAt 129 = .ok (.putfield 42, 3) := by decide +kernel
theorem dX9_cutAt_132 : decode cX9_cutAt 132 = .ok (.iinc 4 1, 3) := by decide +kernel
theorem dX9_cutAt_135 : decode cX9_cutAt 135 = .ok (.goto (-33), 3) := by decide +kernel
theorem dX9_cutAt_138 : decode cX9_cutAt 138 = .ok (.return_, 1) := by decide +kernel
theorem dX10_init_0 : decode cX10_init 0 = .ok (.aload_n 0, 1) := by decide +kernel
theorem dX10_init_1 : decode cX10_init 1 = .ok (.invokespecial 3, 3) := by decide +kernel
theorem dX10_init_4 : decode cX10_init 4 = .ok (.aload_n 0, 1) := by decide +kernel
theorem dX10_init_5 : decode cX10_init 5 = .ok (.bipush 10, 2) := by decide +kernel
theorem dX10_init_7 : decode cX10_init 7 = .ok (.newarray .int, 2) := by decide +kernel
theorem dX10_init_9 : decode cX10_init 9 = .ok (.putfield 9, 3) := by decide +kernel
theorem dX10_init_12 : decode cX10_init 12 = .ok (.aload_n 0, 1) := by decide +kernel
theorem dX10_init_13 : decode cX10_init 13 = .ok (.bipush 10, 2) := by decide +kernel
theorem dX10_init_15 : decode cX10_init 15 = .ok (.newarray .int, 2) := by decide +kernel
theorem dX10_init_17 : decode cX10_init 17 = .ok (.putfield 15, 3) := by decide +kernel
theorem dX10_init_20 : decode cX10_init 20 = .ok (.aload_n 0, 1) := by decide +kernel
theorem dX10_init_21 : decode cX10_init 21 = .ok (.bipush 10, 2) := by decide +kernel
theorem dX10_init_23 : decode cX10_init 23 = .ok (.newarray .int, 2) := by decide +kernel
theorem dX10_init_25 : decode cX10_init 25 = .ok (.putfield 18, 3) := by decide +kernel
theorem dX10_init_28 : decode cX10_init 28 = .ok (.aload_n 0, 1) := by decide +kernel
theorem dX10_init_29 : decode cX10_init 29 = .ok (.bipush 10, 2) := by decide +kernel
theorem dX10_init_31 : decode cX10_init 31 = .ok (.newarray .int, 2) := by decide +kernel
theorem dX10_init_33 : decode cX10_init 33 = .ok (.putfield 21, 3) := by decide +kernel
theorem dX10_init_36 : decode cX10_init 36 = .ok (.return_, 1) := by decide +kernel
theorem dX10_append_0 : decode cX10_append 0 = .ok (.aload_n 0, 1) := by decide +kernel
theorem dX10_append_1 : decode cX10_append 1 = .ok (.getfield 24, 3) := by decide +kernel
theorem dX10_append_4 : decode cX10_append 4 = .ok (.ifCond .lt 12, 3) := by decide +kernel
theorem dX10_append_7 : decode cX10_append 7 = .ok (.aload_n 0, 1) := by decide +kernel
theorem dX10_append_8 : decode cX10_append 8 = .ok (.getfield 24, 3) := by decide +kernel
theorem dX10_append_11 : decode cX10_append 11 = .ok (.bipush 10, 2) := by decide +kernel
theorem dX10_append_13 : decode cX10_append 13 = .ok (.if_icmp .lt 4, 3) := by decide +kernel
theorem dX10_append_16 : decode cX10_append 16 = .ok (.return_, 1) := by decide +kernel
theorem dX10_append_17 : decode cX10_append 17 = .ok (.aload_n 0, 1) := by decide +kernel
theorem dX10_append_18 : decode cX10_append 18 = .ok (.getfield 9, 3) := by decide +kernel
theorem dX10_append_21 : decode cX10_append 21 = .ok (.aload_n 0, 1) := by decide +kernel
theorem dX10_append_22 : decode cX10_append 22 = .ok (.getfield 24, 3) := by decide +kernel
theorem dX10_append_25 : decode cX10_append 25 = .ok (.iload_n 1, 1) := by decide +kernel
theorem dX10_append_26 : decode cX10_append 26 = .ok (.iastore, 1) := by decide +kernel
theorem dX10_append_27 : decode cX10_append 27 = .ok (.aload_n 0, 1) := by decide +kernel
theorem dX10_append_28 : decode cX10_append 28 = .ok (.getfield 15, 3) := by decide +kernel
theorem dX10_append_31 : decode cX10_append 31 = .ok (.aload_n 0, 1) := by decide +kernel
theorem dX10_append_32 : decode cX10_append 32 = .ok (.getfield 24, 3) := by decide +kernel
theorem dX10_append_35 : decode cX10_append 35 = .ok (.iload_n 2, 1) := by decide +kernel
theorem dX10_append_36 : decode cX10_append 36 = .ok (.iastore, 1) := by decide +kernel
theorem dX10_append_37 : decode cX10_append 37 = .ok (.aload_n 0, 1) := by decide +kernel
theorem dX10_append_38 : decode cX10_append 38 = .ok (.getfield 18, 3) := by decide +kernel
theorem dX10_append_41 : decode cX10_append 41 = .ok (.aload_n 0, 1) := by decide +kernel
theorem dX10_append_42 : decode cX10_append 42 = .ok (.getfield 24, 3) := by decide +kernel
theorem dX10_append_45 : decode cX10_append 45 = .ok (.iload_n 3, 1) := by decide +kernel
theorem dX10_append_46 : decode cX10_append 46 = .ok (.iastore, 1) := by decide +kernel
theorem dX10_append_47 : decode cX10_append 47 = .ok (.aload_n 0, 1) := by decide +kernel
theorem dX10_append_48 : decode cX10_append 48 = .ok (.getfield 21, 3) := by decide +kernel
theorem dX10_append_51 : decode cX10_append 51 = .ok (.aload_n 0, 1) := by decide +kernel
theorem dX10_append_52 : decode cX10_append 52 = .ok (.getfield 24, 3) := by decide +kernel
theorem dX10_append_55 : decode cX10_append 55 = .ok (.iload 4, 2) := by decide +kernel
theorem dX10_append_57 : decode cX10_append 57 = .ok (.iastore, 1) := by decide +kernel
theorem dX10_append_58 : decode cX10_append 58 = .ok (.aload_n 0, 1) := by decide +kernel
theorem dX10_append_59 : decode cX10_append 59 = .ok (.dup, 1) := by decide +kernel
theorem dX10_append_60 : decode cX10_append 60 = .ok (.getfield 24, 3) := by decide +kernel
theorem dX10_append_63 : decode cX10_append 63 = .ok (.iconst 1, 1) := by decide +kernel
theorem dX10_append_64 : decode cX10_append 64 = .ok (.iadd, 1) := by decide +kernel
theorem dX10_append_65 : decode cX10_append 65 = .ok (.putfield 24, 3) := by decide +kernel
theorem dX10_append_68 : decode cX10_append 68 = .ok (.return_, 1) := by decide +kernel
theorem dX10_leaveOpen_0 : decode cX10_leaveOpen 0 = .ok (.iconst 0, 1) := by decide +kernel
theorem dX10_leaveOpen_1 : decode cX10_leaveOpen 1 = .ok (.istore 5, 2) := by decide +kernel
theorem dX10_leaveOpen_3 : decode cX10_leaveOpen 3 = .ok (.iload 5, 2) := by decide +kernel
theorem dX10_leaveOpen_5 : decode cX10_leaveOpen 5 = .ok (.aload_n 0, 1) := by decide +kernel
theorem dX10_leaveOpen_6 : decode cX10_leaveOpen 6 = .ok (.getfield 24, 3) := by decide +kernel
theorem dX10_leaveOpen_9 : decode cX10_leaveOpen 9 = .ok (.if_icmp .ge 46, 3) := by decide +kernel
theorem dX10_leaveOpen_12 : decode cX10_leaveOpen 12 = .ok (.iload 5, 2) := by decide +kernel
theorem dX10_leaveOpen_14 : decode cX10_leaveOpen 14 = .ok (.bipush 10, 2) := by decide +kernel
theorem dX10_leaveOpen_16 : decode cX10_leaveOpen 16 = .ok (.if_icmp .ge 39, 3) := by decide +kernel
theorem dX10_leaveOpen_19 : decode cX10_leaveOpen 19 = .ok (.aload_n 0, 1) := by decide +kernel
theorem dX10_leaveOpen_20 : decode cX10_leaveOpen 20 = .ok (.iload 5, 2) := by decide +kernel
theorem dX10_leaveOpen_22 : decode cX10_leaveOpen 22 = .ok (.iload_n 1, 1) := by decide +kernel
theorem dX10_leaveOpen_23 : decode cX10_leaveOpen 23 = .ok (.iload_n 2, 1) := by decide +kernel
theorem dX10_leaveOpen_24 : decode cX10_leaveOpen 24 = .ok (.iload_n 3, 1) := by decide +kernel
theorem dX10_leaveOpen_25 : decode cX10_leaveOpen 25 = .ok (.iload 4, 2) := by decide +kernel
theorem dX10_leaveOpen_27 : decode cX10_leaveOpen 27 = .ok (.invokevirtual 28, 3) := by decide +kernel
theorem dX10_leaveOpen_30 : decode cX10_leaveOpen 30 = .ok (.ifCond .eq 19, 3) := by decide +kernel
theorem dX10_leaveOpen_33 : decode cX10_leaveOpen 33 = .ok (.aload_n 0, 1) := by decide +kernel
theorem dX10_leaveOpen_34 : decode cX10_leaveOpen 34 = .ok (.iload 5, 2) := by decide +kernel
theorem dX10_leaveOpen_36 : decode cX10_leaveOpen 36 = .ok (.iload_n 1, 1) := by decide +kernel
theorem dX10_leaveOpen_37 : decode cX10_leaveOpen 37 = .ok (.iload_n 2, 1) := by decide +kernel
theorem dX10_leaveOpen_38 : decode cX10_leaveOpen 38 = .ok (.iload_n 3, 1) := by decide +kernel
theorem dX10_leaveOpen_39 : decode cX10_leaveOpen 39 = .ok (.iload 4, 2) := by decide +kernel
theorem dX10_leaveOpen_41 : decode cX10_leaveOpen 41 = .ok (.invokevirtual 32, 3) := by decide +kernel
theorem dX10_leaveOpen_44 : decode cX10_leaveOpen 44 = .ok (.ifCond .eq 5, 3) := by decide +kernel
theorem dX10_leaveOpen_47 : decode cX10_leaveOpen 47 = .ok (.iconst 0, 1) := by decide +kernel
theorem dX10_leaveOpen_48 : decode cX10_leaveOpen 48 = .ok (.ireturn, 1) := by decide +kernel
theorem dX10_leaveOpen_49 : decode cX10_leaveOpen 49 = .ok (.iinc 5 1, 3) := by decide +kernel
theorem dX10_leaveOpen_52 : decode cX10_leaveOpen 52 = .ok (.goto (-49), 3) := by decide +kernel
theorem dX10_leaveOpen_55 : decode cX10_leaveOpen 55 = .ok (.iconst 1, 1) := by decide +kernel
theorem dX10_leaveOpen_56 : decode cX10_leaveOpen 56 = .ok (.ireturn, 1) := by decide +kernel
theorem dX10_spansMeet_0 : decode cX10_spansMeet 0 = .ok (.iload_n 2, 1) := by decide +kernel
theorem dX10_spansMeet_1 : decode cX10_spansMeet 1 = .ok (.iload 4, 2) := by decide +kernel
theorem dX10_spansMeet_3 : decode cX10_spansMeet 3 = .ok (.invokestatic 35, 3) := by decide +kernel
theorem dX10_spansMeet_6 : decode cX10_spansMeet 6 = .ok (.aload_n 0, 1) := by decide +kernel
theorem dX10_spansMeet_7 : decode cX10_spansMeet 7 = .ok (.getfield 9, 3) := by decide +kernel
theorem dX10_spansMeet_10 : decode cX10_spansMeet 10 = .ok (.iload_n 1, 1) := by decide +kernel
theorem dX10_spansMeet_11 : decode cX10_spansMeet 11 = .ok (.iaload, 1) := by decide +kernel
theorem dX10_spansMeet_12 : decode cX10_spansMeet 12 = .ok (.aload_n 0, 1) := by decide +kernel
theorem dX10_spansMeet_13 : decode cX10_spansMeet 13 = .ok (.getfield 18, 3) := by decide +kernel
theorem dX10_spansMeet_16 : decode cX10_spansMeet 16 = .ok (.iload_n 1, 1) := by decide +kernel
theorem dX10_spansMeet_17 : decode cX10_spansMeet 17 = .ok (.iaload, 1) := by decide +kernel
theorem dX10_spansMeet_18 : decode cX10_spansMeet 18 = .ok (.invokestatic 41, 3) := by decide +kernel
theorem dX10_spansMeet_21 : decode cX10_spansMeet 21 = .ok (.if_icmp .gt 79, 3) := by decide +kernel
theorem dX10_spansMeet_24 : decode cX10_spansMeet 24 = .ok (.iload_n 2, 1) := by decide +kernel
theorem dX10_spansMeet_25 : decode cX10_spansMeet 25 = .ok (.iload 4, 2) := by decide +kernel
theorem dX10_spansMeet_27 : decode cX10_spansMeet 27 = .ok (.invokestatic 41, 3) := by decide +kernel
theorem dX10_spansMeet_30 : decode cX10_spansMeet 30 = .ok (.aload_n 0, 1) := by decide +kernel
theorem dX10_spansMeet_31 : decode cX10_spansMeet 31 = .ok (.getfield 9, 3) := by decide +kernel
theorem dX10_spansMeet_34 : decode cX10_spansMeet 34 = .ok (.iload_n 1, 1) := by decide +kernel
theorem dX10_spansMeet_35 : decode cX10_spansMeet 35 = .ok (.iaload, 1) := by decide +kernel
theorem dX10_spansMeet_36 : decode cX10_spansMeet 36 = .ok (.aload_n 0, 1) := by decide +kernel
theorem dX10_spansMeet_37 : decode cX10_spansMeet 37 = .ok (.getfield 18, 3) := by decide +kernel
theorem dX10_spansMeet_40 : decode cX10_spansMeet 40 = .ok (.iload_n 1, 1) := by decide +kernel
theorem dX10_spansMeet_41 : decode cX10_spansMeet 41 = .ok (.iaload, 1) := by decide +kernel
theorem dX10_spansMeet_42 : decode cX10_spansMeet 42 = .ok (.invokestatic 35, 3) := by decide +kernel
theorem dX10_spansMeet_45 : decode cX10_spansMeet 45 = .ok (.if_icmp .lt 55, 3) := by decide +kernel
theorem dX10_spansMeet_48 : decode cX10_spansMeet 48 = .ok (.iload_n 3, 1) := by decide +kernel
theorem dX10_spansMeet_49 : decode cX10_spansMeet 49 = .ok (.iload 5, 2) := by decide +kernel
theorem dX10_spansMeet_51 : decode cX10_spansMeet 51 = .ok (.invokestatic 35, 3) := by decide +kernel
theorem dX10_spansMeet_54 : decode cX10_spansMeet 54 = .ok (.aload_n 0, 1) := by decide +kernel
theorem dX10_spansMeet_55 : decode cX10_spansMeet 55 = .ok (.getfield 15, 3) := by decide +kernel
theorem dX10_spansMeet_58 : decode cX10_spansMeet 58 = .ok (.iload_n 1, 1) := by decide +kernel
theorem dX10_spansMeet_59 : decode cX10_spansMeet 59 = .ok (.iaload, 1) := by decide +kernel
theorem dX10_spansMeet_60 : decode cX10_spansMeet 60 = .ok (.aload_n 0, 1) := by decide +kernel
theorem dX10_spansMeet_61 : decode cX10_spansMeet 61 = .ok (.getfield 21, 3) := by decide +kernel
theorem dX10_spansMeet_64 : decode cX10_spansMeet 64 = .ok (.iload_n 1, 1) := by decide +kernel
theorem dX10_spansMeet_65 : decode cX10_spansMeet 65 = .ok (.iaload, 1) := by decide +kernel
theorem dX10_spansMeet_66 : decode cX10_spansMeet 66 = .ok (.invokestatic 41, 3) := by decide +kernel
theorem dX10_spansMeet_69 : decode cX10_spansMeet 69 = .ok (.if_icmp .gt 31, 3) := by decide +kernel
theorem dX10_spansMeet_72 : decode cX10_spansMeet 72 = .ok (.iload_n 3, 1) := by decide +kernel
theorem dX10_spansMeet_73 : decode cX10_spansMeet 73 = .ok (.iload 5, 2) := by decide +kernel
theorem dX10_spansMeet_75 : decode cX10_spansMeet 75 = .ok (.invokestatic 41, 3) := by decide +kernel
theorem dX10_spansMeet_78 : decode cX10_spansMeet 78 = .ok (.aload_n 0, 1) := by decide +kernel
theorem dX10_spansMeet_79 : decode cX10_spansMeet 79 = .ok (.getfield 15, 3) := by decide +kernel
theorem dX10_spansMeet_82 : decode cX10_spansMeet 82 = .ok (.iload_n 1, 1) := by decide +kernel
theorem dX10_spansMeet_83 : decode cX10_spansMeet 83 = .ok (.iaload, 1) := by decide +kernel
theorem dX10_spansMeet_84 : decode cX10_spansMeet 84 = .ok (.aload_n 0, 1) := by decide +kernel
theorem dX10_spansMeet_85 : decode cX10_spansMeet 85 = .ok (.getfield 21, 3) := by decide +kernel
theorem dX10_spansMeet_88 : decode cX10_spansMeet 88 = .ok (.iload_n 1, 1) := by decide +kernel
theorem dX10_spansMeet_89 : decode cX10_spansMeet 89 = .ok (.iaload, 1) := by decide +kernel
theorem dX10_spansMeet_90 : decode cX10_spansMeet 90 = .ok (.invokestatic 35, 3) := by decide +kernel
theorem dX10_spansMeet_93 : decode cX10_spansMeet 93 = .ok (.if_icmp .lt 7, 3) := by decide +kernel
theorem dX10_spansMeet_96 : decode cX10_spansMeet 96 = .ok (.iconst 1, 1) := by decide +kernel
theorem dX10_spansMeet_97 : decode cX10_spansMeet 97 = .ok (.goto 4, 3) := by decide +kernel
theorem dX10_spansMeet_100 : decode cX10_spansMeet 100 = .ok (.iconst 0, 1) := by decide +kernel
theorem dX10_spansMeet_101 : decode cX10_spansMeet 101 = .ok (.ireturn, 1) := by decide +kernel
theorem dX10_linesCross_0 : decode cX10_linesCross 0 = .ok (.aload_n 0, 1) := by decide +kernel
theorem dX10_linesCross_1 : decode cX10_linesCross 1 = .ok (.getfield 9, 3) := by decide +kernel
theorem dX10_linesCross_4 : decode cX10_linesCross 4 = .ok (.iload_n 1, 1) := by decide +kernel
theorem dX10_linesCross_5 : decode cX10_linesCross 5 = .ok (.iaload, 1) := by decide +kernel
theorem dX10_linesCross_6 : decode cX10_linesCross 6 = .ok (.istore 6, 2) := by decide +kernel
theorem dX10_linesCross_8 : decode cX10_linesCross 8 = .ok (.aload_n 0, 1) := by decide +kernel
theorem dX10_linesCross_9 : decode cX10_linesCross 9 = .ok (.getfield 15, 3) := by decide +kernel
theorem dX10_linesCross_12 : decode cX10_linesCross 12 = .ok (.iload_n 1, 1) := by decide +kernel
theorem dX10_linesCross_13 : decode cX10_linesCross 13 = .ok (.iaload, 1) := by decide +kernel
theorem dX10_linesCross_14 : decode cX10_linesCross 14 = .ok (.istore 7, 2) := by decide +kernel
theorem dX10_linesCross_16 : decode cX10_linesCross 16 = .ok (.aload_n 0, 1) := by decide +kernel
theorem dX10_linesCross_17 : decode cX10_linesCross 17 = .ok (.getfield 18, 3) := by decide +kernel
theorem dX10_linesCross_20 : decode cX10_linesCross 20 = .ok (.iload_n 1, 1) := by decide +kernel
theorem dX10_linesCross_21 : decode cX10_linesCross 21 = .ok (.iaload, 1) := by decide +kernel
theorem dX10_linesCross_22 : decode cX10_linesCross 22 = .ok (.istore 8, 2) := by decide +kernel
theorem dX10_linesCross_24 : decode cX10_linesCross 24 = .ok (.aload_n 0, 1) := by decide +kernel
theorem dX10_linesCross_25 : decode cX10_linesCross 25 = .ok (.getfield 21, 3) := by decide +kernel
theorem dX10_linesCross_28 : decode cX10_linesCross 28 = .ok (.iload_n 1, 1) := by decide +kernel
theorem dX10_linesCross_29 : decode cX10_linesCross 29 = .ok (.iaload, 1) := by decide +kernel
theorem dX10_linesCross_30 : decode cX10_linesCross 30 = .ok (.istore 9, 2) := by decide +kernel
theorem dX10_linesCross_32 : decode cX10_linesCross 32 = .ok (.iload 6, 2) := by decide +kernel
theorem dX10_linesCross_34 : decode cX10_linesCross 34 = .ok (.iload 7, 2) := by decide +kernel
theorem dX10_linesCross_36 : decode cX10_linesCross 36 = .ok (.iload 8, 2) := by decide +kernel
theorem dX10_linesCross_38 : decode cX10_linesCross 38 = .ok (.iload 9, 2) := by decide +kernel
theorem dX10_linesCross_40 : decode cX10_linesCross 40 = .ok (.iload_n 2, 1) := by decide +kernel
theorem dX10_linesCross_41 : decode cX10_linesCross 41 = .ok (.iload_n 3, 1) := by decide +kernel
theorem dX10_linesCross_42 : decode cX10_linesCross 42 = .ok (.invokestatic 44, 3) := by decide +kernel
theorem dX10_linesCross_45 : decode cX10_linesCross 45 = .ok (.iload 6, 2) := by decide +kernel
theorem dX10_linesCross_47 : decode cX10_linesCross 47 = .ok (.iload 7, 2) := by decide +kernel
theorem dX10_linesCross_49 : decode cX10_linesCross 49 = .ok (.iload 8, 2) := by decide +kernel
theorem dX10_linesCross_51 : decode cX10_linesCross 51 = .ok (.iload 9, 2) := by decide +kernel
theorem dX10_linesCross_53 : decode cX10_linesCross 53 = .ok (.iload 4, 2) := by decide +kernel
theorem dX10_linesCross_55 : decode cX10_linesCross 55 = .ok (.iload 5, 2) := by decide +kernel
theorem dX10_linesCross_57 : decode cX10_linesCross 57 = .ok (.invokestatic 44, 3) := by decide +kernel
theorem dX10_linesCross_60 : decode cX10_linesCross 60 = .ok (.imul, 1) := by decide +kernel
theorem dX10_linesCross_61 : decode cX10_linesCross 61 = .ok (.ifCond .gt 37, 3) := by decide +kernel
theorem dX10_linesCross_64 : decode cX10_linesCross 64 = .ok (.iload_n 2, 1) := by decide +kernel
theorem dX10_linesCross_65 : decode cX10_linesCross 65 = .ok (.iload_n 3, 1) := by decide +kernel
theorem dX10_linesCross_66 : decode cX10_linesCross 66 = .ok (.iload 4, 2) := by decide +kernel
theorem dX10_linesCross_68 : decode cX10_linesCross 68 = .ok (.iload 5, 2) := by decide +kernel
theorem dX10_linesCross_70 : decode cX10_linesCross 70 = .ok (.iload 6, 2) := by decide +kernel
theorem dX10_linesCross_72 : decode cX10_linesCross 72 = .ok (.iload 7, 2) := by decide +kernel
theorem dX10_linesCross_74 : decode cX10_linesCross 74 = .ok (.invokestatic 44, 3) := by decide +kernel
theorem dX10_linesCross_77 : decode cX10_linesCross 77 = .ok (.iload_n 2, 1) := by decide +kernel
theorem dX10_linesCross_78 : decode cX10_linesCross 78 = .ok (.iload_n 3, 1) := by decide +kernel
theorem dX10_linesCross_79 : decode cX10_linesCross 79 = .ok (.iload 4, 2) := by decide +kernel
theorem dX10_linesCross_81 : decode cX10_linesCross 81 = .ok (.iload 5, 2) := by decide +kernel
theorem dX10_linesCross_83 : decode cX10_linesCross 83 = .ok (.iload 8, 2) := by decide +kernel
theorem dX10_linesCross_85 : decode cX10_linesCross 85 = .ok (.iload 9, 2) := by decide +kernel
theorem dX10_linesCross_87 : decode cX10_linesCross 87 = .ok (.invokestatic 44, 3) := by decide +kernel
theorem dX10_linesCross_90 : decode cX10_linesCross 90 = .ok (.imul, 1) := by decide +kernel
theorem dX10_linesCross_91 : decode cX10_linesCross 91 = .ok (.ifCond .gt 7, 3) := by decide +kernel
theorem dX10_linesCross_94 : decode cX10_linesCross 94 = .ok (.iconst 1, 1) := by decide +kernel
theorem dX10_linesCross_95 : decode cX10_linesCross 95 = .ok (.goto 4, 3) := by decide +kernel
theorem dX10_linesCross_98 : decode cX10_linesCross 98 = .ok (.iconst 0, 1) := by decide +kernel
theorem dX10_linesCross_99 : decode cX10_linesCross 99 = .ok (.ireturn, 1) := by decide +kernel
theorem dX10_side_0 : decode cX10_side 0 = .ok (.iload_n 2, 1) := by decide +kernel
theorem dX10_side_1 : decode cX10_side 1 = .ok (.iload_n 0, 1) := by decide +kernel
theorem dX10_side_2 : decode cX10_side 2 = .ok (.isub, 1) := by decide +kernel
theorem dX10_side_3 : decode cX10_side 3 = .ok (.iload 5, 2) := by decide +kernel
theorem dX10_side_5 : decode cX10_side 5 = .ok (.iload_n 1, 1) := by decide +kernel
theorem dX10_side_6 : decode cX10_side 6 = .ok (.isub, 1) := by decide +kernel
theorem dX10_side_7 : decode cX10_side 7 = .ok (.imul, 1) := by decide +kernel
theorem dX10_side_8 : decode cX10_side 8 = .ok (.iload_n 3, 1) := by decide +kernel
theorem dX10_side_9 : decode cX10_side 9 = .ok (.iload_n 1, 1) := by decide +kernel
theorem dX10_side_10 : decode cX10_side 10 = .ok (.isub, 1) := by decide +kernel
theorem dX10_side_11 : decode cX10_side 11 = .ok (.iload 4, 2) := by decide +kernel
theorem dX10_side_13 : decode cX10_side 13 = .ok (.iload_n 0, 1) := by decide +kernel
theorem dX10_side_14 : decode cX10_side 14 = .ok (.isub, 1) := by decide +kernel
theorem dX10_side_15 : decode cX10_side 15 = .ok (.imul, 1) := by decide +kernel
theorem dX10_side_16 : decode cX10_side 16 = .ok (.isub, 1) := by decide +kernel
theorem dX10_side_17 : decode cX10_side 17 = .ok (.i2l, 1) := by decide +kernel
theorem dX10_side_18 : decode cX10_side 18 = .ok (.invokestatic 48, 3) := by decide +kernel
theorem dX10_side_21 : decode cX10_side 21 = .ok (.ireturn, 1) := by decide +kernel
theorem dX11_init_0 : decode cX11_init 0 = .ok (.aload_n 0, 1) := by decide +kernel
theorem dX11_init_1 : decode cX11_init 1 = .ok (.invokespecial 3, 3) := by decide +kernel
theorem dX11_init_4 : decode cX11_init 4 = .ok (.aload_n 0, 1) := by decide +kernel
theorem dX11_init_5 : decode cX11_init 5 = .ok (.new 9, 3) := by decide +kernel
theorem dX11_init_8 : decode cX11_init 8 = .ok (.dup, 1) := by decide +kernel
theorem dX11_init_9 : decode cX11_init 9 = .ok (.invokespecial 11, 3) := by decide +kernel
theorem dX11_init_12 : decode cX11_init 12 = .ok (.putfield 12, 3) := by decide +kernel
theorem dX11_init_15 : decode cX11_init 15 = .ok (.aload_n 0, 1) := by decide +kernel
theorem dX11_init_16 : decode cX11_init 16 = .ok (.new 16, 3) := by decide +kernel
theorem dX11_init_19 : decode cX11_init 19 = .ok (.dup, 1) := by decide +kernel
theorem dX11_init_20 : decode cX11_init 20 = .ok (.invokespecial 18, 3) := by decide +kernel
theorem dX11_init_23 : decode cX11_init 23 = .ok (.putfield 19, 3) := by decide +kernel
theorem dX11_init_26 : decode cX11_init 26 = .ok (.aload_n 0, 1) := by decide +kernel
theorem dX11_init_27 : decode cX11_init 27 = .ok (.new 23, 3) := by decide +kernel
theorem dX11_init_30 : decode cX11_init 30 = .ok (.dup, 1) := by decide +kernel
theorem dX11_init_31 : decode cX11_init 31 = .ok (.invokespecial 25, 3) := by decide +kernel
theorem dX11_init_34 : decode cX11_init 34 = .ok (.putfield 26, 3) := by decide +kernel
theorem dX11_init_37 : decode cX11_init 37 = .ok (.aload_n 0, 1) := by decide +kernel
theorem dX11_init_38 : decode cX11_init 38 = .ok (.new 30, 3) := by decide +kernel
theorem dX11_init_41 : decode cX11_init 41 = .ok (.dup, 1) := by decide +kernel
theorem dX11_init_42 : decode cX11_init 42 = .ok (.invokespecial 32, 3) := by decide +kernel
theorem dX11_init_45 : decode cX11_init 45 = .ok (.putfield 33, 3) := by decide +kernel
theorem dX11_init_48 : decode cX11_init 48 = .ok (.aload_n 0, 1) := by decide +kernel
theorem dX11_init_49 : decode cX11_init 49 = .ok (.new 37, 3) := by decide +kernel
theorem dX11_init_52 : decode cX11_init 52 = .ok (.dup, 1) := by decide +kernel
theorem dX11_init_53 : decode cX11_init 53 = .ok (.invokespecial 39, 3) := by decide +kernel
theorem dX11_init_56 : decode cX11_init 56 = .ok (.putfield 40, 3) := by decide +kernel
theorem dX11_init_59 : decode cX11_init 59 = .ok (.aload_n 0, 1) := by decide +kernel
theorem dX11_init_60 : decode cX11_init 60 = .ok (.new 44, 3) := by decide +kernel
theorem dX11_init_63 : decode cX11_init 63 = .ok (.dup, 1) := by decide +kernel
theorem dX11_init_64 : decode cX11_init 64 = .ok (.invokespecial 46, 3) := by decide +kernel
theorem dX11_init_67 : decode cX11_init 67 = .ok (.putfield 47, 3) := by decide +kernel
theorem dX11_init_70 : decode cX11_init 70 = .ok (.aload_n 0, 1) := by decide +kernel
theorem dX11_init_71 : decode cX11_init 71 = .ok (.new 51, 3) := by decide +kernel
theorem dX11_init_74 : decode cX11_init 74 = .ok (.dup, 1) := by decide +kernel
theorem dX11_init_75 : decode cX11_init 75 = .ok (.invokespecial 53, 3) := by decide +kernel
theorem dX11_init_78 : decode cX11_init 78 = .ok (.putfield 54, 3) := by decide +kernel
theorem dX11_init_81 : decode cX11_init 81 = .ok (.aload_n 0, 1) := by decide +kernel
theorem dX11_init_82 : decode cX11_init 82 = .ok (.new 58, 3) := by decide +kernel
theorem dX11_init_85 : decode cX11_init 85 = .ok (.dup, 1) := by decide +kernel
theorem dX11_init_86 : decode cX11_init 86 = .ok (.invokespecial 60, 3) := by decide +kernel
theorem dX11_init_89 : decode cX11_init 89 = .ok (.putfield 61, 3) := by decide +kernel
theorem dX11_init_92 : decode cX11_init 92 = .ok (.aload_n 0, 1) := by decide +kernel
theorem dX11_init_93 : decode cX11_init 93 = .ok (.new 65, 3) := by decide +kernel
theorem dX11_init_96 : decode cX11_init 96 = .ok (.dup, 1) := by decide +kernel
theorem dX11_init_97 : decode cX11_init 97 = .ok (.invokespecial 67, 3) := by decide +kernel
theorem dX11_init_100 : decode cX11_init 100 = .ok (.putfield 68, 3) := by decide +kernel
theorem dX11_init_103 : decode cX11_init 103 = .ok (.aload_n 0, 1) := by decide +kernel
theorem dX11_init_104 : decode cX11_init 104 = .ok (.new 72, 3) := by decide +kernel
theorem dX11_init_107 : decode cX11_init 107 = .ok (.dup, 1) := by decide +kernel
theorem dX11_init_108 : decode cX11_init 108 = .ok (.invokespecial 74, 3) := by decide +kernel
theorem dX11_init_111 : decode cX11_init 111 = .ok (.putfield 75, 3) := by decide +kernel
theorem dX11_init_114 : decode cX11_init 114 = .ok (.return_, 1) := by decide +kernel
theorem dX11_addPoint_0 : decode cX11_addPoint 0 = .ok (.iload_n 1, 1) := by decide +kernel
theorem dX11_addPoint_1 : decode cX11_addPoint 1 = .ok (.iload_n 2, 1) := by decide +kernel
theorem dX11_addPoint_2 : decode cX11_addPoint 2 = .ok (.bipush 100, 2) := by decide +kernel
theorem dX11_addPoint_4 : decode cX11_addPoint 4 = .ok (.invokestatic 79, 3) := by decide +kernel
theorem dX11_addPoint_7 : decode cX11_addPoint 7 = .ok (.aload_n 0, 1) := by decide +kernel
theorem dX11_addPoint_8 : decode cX11_addPoint 8 = .ok (.getfield 12, 3) := by decide +kernel
theorem dX11_addPoint_11 : decode cX11_addPoint 11 = .ok (.iload_n 1, 1) := by decide +kernel
theorem dX11_addPoint_12 : decode cX11_addPoint 12 = .ok (.iload_n 2, 1) := by decide +kernel
theorem dX11_addPoint_13 : decode cX11_addPoint 13 = .ok (.invokevirtual 83, 3) := by decide +kernel
theorem dX11_addPoint_16 : decode cX11_addPoint 16 = .ok (.iconst (-1), 1) := by decide +kernel
theorem dX11_addPoint_17 : decode cX11_addPoint 17 = .ok (.if_icmp .eq 13, 3) := by decide +kernel
theorem dX11_addPoint_20 : decode cX11_addPoint 20 = .ok (.new 87, 3) := by decide +kernel
theorem dX11_addPoint_23 : decode cX11_addPoint 23 = .ok (.dup, 1) := by decide +kernel
theorem dX11_addPoint_24 : decode cX11_addPoint 24 = .ok (.ldc 89, 2) := by decide +kernel
theorem dX11_addPoint_26 : decode cX11_addPoint 26 = .ok (.invokespecial 91, 3) := by decide +kernel
theorem dX11_addPoint_29 : decode cX11_addPoint 29 = .ok (.athrow, 1) := by decide +kernel
theorem dX11_addPoint_30 : decode cX11_addPoint 30 = .ok (.aload_n 0, 1) := by decide +kernel
theorem dX11_addPoint_31 : decode cX11_addPoint 31 = .ok (.getfield 12, 3) := by decide +kernel
theorem dX11_addPoint_34 : decode cX11_addPoint 34 = .ok (.invokevirtual 94, 3) := by decide +kernel
theorem dX11_addPoint_37 : decode cX11_addPoint 37 = .ok (.istore_n 3, 1) := by decide +kernel
theorem dX11_addPoint_38 : decode cX11_addPoint 38 = .ok (.iload_n 3, 1) := by decide +kernel
theorem dX11_addPoint_39 : decode cX11_addPoint 39 = .ok (.iconst (-1), 1) := by decide +kernel
theorem dX11_addPoint_40 : decode cX11_addPoint 40 = .ok (.if_icmp .ne 13, 3) := by decide +kernel
theorem dX11_addPoint_43 : decode cX11_addPoint 43 = .ok (.new 98, 3) := by decide +kernel
theorem dX11_addPoint_46 : decode cX11_addPoint 46 = .ok (.dup, 1) := by decide +kernel
theorem dX11_addPoint_47 : decode cX11_addPoint 47 = .ok (.ldc 100, 2) := by decide +kernel
theorem dX11_addPoint_49 : decode cX11_addPoint 49 = .ok (.invokespecial 102, 3) := by decide +kernel
theorem dX11_addPoint_52 : decode cX11_addPoint 52 = .ok (.athrow, 1) := by decide +kernel
theorem dX11_addPoint_53 : decode cX11_addPoint 53 = .ok (.aload_n 0, 1) := by decide +kernel
theorem dX11_addPoint_54 : decode cX11_addPoint 54 = .ok (.getfield 19, 3) := by decide +kernel
theorem dX11_addPoint_57 : decode cX11_addPoint 57 = .ok (.aload_n 0, 1) := by decide +kernel
theorem dX11_addPoint_58 : decode cX11_addPoint 58 = .ok (.getfield 12, 3) := by decide +kernel
theorem dX11_addPoint_61 : decode cX11_addPoint 61 = .ok (.invokevirtual 103, 3) := by decide +kernel
theorem dX11_addPoint_64 : decode cX11_addPoint 64 = .ok (.aload_n 0, 1) := by decide +kernel
theorem dX11_addPoint_65 : decode cX11_addPoint 65 = .ok (.getfield 12, 3) := by decide +kernel
theorem dX11_addPoint_68 : decode cX11_addPoint 68 = .ok (.iload_n 3, 1) := by decide +kernel
theorem dX11_addPoint_69 : decode cX11_addPoint 69 = .ok (.iload_n 1, 1) := by decide +kernel
theorem dX11_addPoint_70 : decode cX11_addPoint 70 = .ok (.iload_n 2, 1) := by decide +kernel
theorem dX11_addPoint_71 : decode cX11_addPoint 71 = .ok (.invokevirtual 107, 3) := by decide +kernel
theorem dX11_addPoint_74 : decode cX11_addPoint 74 = .ok (.iload_n 3, 1) := by decide +kernel
theorem dX11_addPoint_75 : decode cX11_addPoint 75 = .ok (.ireturn, 1) := by decide +kernel
theorem dX11_remove_0 : decode cX11_remove 0 = .ok (.aload_n 0, 1) := by decide +kernel
theorem dX11_remove_1 : decode cX11_remove 1 = .ok (.iload_n 1, 1) := by decide +kernel
theorem dX11_remove_2 : decode cX11_remove 2 = .ok (.invokevirtual 110, 3) := by decide +kernel
theorem dX11_remove_5 : decode cX11_remove 5 = .ok (.aload_n 0, 1) := by decide +kernel
theorem dX11_remove_6 : decode cX11_remove 6 = .ok (.getfield 19, 3) := by decide +kernel
theorem dX11_remove_9 : decode cX11_remove 9 = .ok (.aload_n 0, 1) := by decide +kernel
theorem dX11_remove_10 : decode cX11_remove 10 = .ok (.getfield 12, 3) := by decide +kernel
theorem dX11_remove_13 : decode cX11_remove 13 = .ok (.invokevirtual 103, 3) := by decide +kernel
theorem dX11_remove_16 : decode cX11_remove 16 = .ok (.aload_n 0, 1) := by decide +kernel
theorem dX11_remove_17 : decode cX11_remove 17 = .ok (.getfield 12, 3) := by decide +kernel
theorem dX11_remove_20 : decode cX11_remove 20 = .ok (.iload_n 1, 1) := by decide +kernel
theorem dX11_remove_21 : decode cX11_remove 21 = .ok (.invokevirtual 114, 3) := by decide +kernel
theorem dX11_remove_24 : decode cX11_remove 24 = .ok (.aload_n 0, 1) := by decide +kernel
theorem dX11_remove_25 : decode cX11_remove 25 = .ok (.getfield 12, 3) := by decide +kernel
theorem dX11_remove_28 : decode cX11_remove 28 = .ok (.invokevirtual 117, 3) := by decide +kernel
theorem dX11_remove_31 : decode cX11_remove 31 = .ok (.ireturn, 1) := by decide +kernel
theorem dX11_move_0 : decode cX11_move 0 = .ok (.aload_n 0, 1) := by decide +kernel
theorem dX11_move_1 : decode cX11_move 1 = .ok (.iload_n 1, 1) := by decide +kernel
theorem dX11_move_2 : decode cX11_move 2 = .ok (.invokevirtual 110, 3) := by decide +kernel
theorem dX11_move_5 : decode cX11_move 5 = .ok (.iload_n 2, 1) := by decide +kernel
theorem dX11_move_6 : decode cX11_move 6 = .ok (.iload_n 3, 1) := by decide +kernel
theorem dX11_move_7 : decode cX11_move 7 = .ok (.bipush 100, 2) := by decide +kernel
theorem dX11_move_9 : decode cX11_move 9 = .ok (.invokestatic 79, 3) := by decide +kernel
theorem dX11_move_12 : decode cX11_move 12 = .ok (.aload_n 0, 1) := by decide +kernel
theorem dX11_move_13 : decode cX11_move 13 = .ok (.getfield 12, 3) := by decide +kernel
theorem dX11_move_16 : decode cX11_move 16 = .ok (.iload_n 2, 1) := by decide +kernel
theorem dX11_move_17 : decode cX11_move 17 = .ok (.iload_n 3, 1) := by decide +kernel
theorem dX11_move_18 : decode cX11_move 18 = .ok (.invokevirtual 83, 3) := by decide +kernel
theorem dX11_move_21 : decode cX11_move 21 = .ok (.istore 4, 2) := by decide +kernel
theorem dX11_move_23 : decode cX11_move 23 = .ok (.iload 4, 2) := by decide +kernel
theorem dX11_move_25 : decode cX11_move 25 = .ok (.iconst (-1), 1) := by decide +kernel
theorem dX11_move_26 : decode cX11_move 26 = .ok (.if_icmp .eq 19, 3) := by decide +kernel
theorem dX11_move_29 : decode cX11_move 29 = .ok (.iload 4, 2) := by decide +kernel
theorem dX11_move_31 : decode cX11_move 31 = .ok (.iload_n 1, 1) := by decide +kernel
theorem dX11_move_32 : decode cX11_move 32 = .ok (.if_icmp .eq 13, 3) := by decide +kernel
theorem dX11_move_35 : decode cX11_move 35 = .ok (.new 87, 3) := by decide +kernel
theorem dX11_move_38 : decode cX11_move 38 = .ok (.dup, 1) := by decide +kernel
theorem dX11_move_39 : decode cX11_move 39 = .ok (.ldc 120, 2) := by decide +kernel
theorem dX11_move_41 : decode cX11_move 41 = .ok (.invokespecial 91, 3) := by decide +kernel
theorem dX11_move_44 : decode cX11_move 44 = .ok (.athrow, 1) := by decide +kernel
theorem dX11_move_45 : decode cX11_move 45 = .ok (.aload_n 0, 1) := by decide +kernel
theorem dX11_move_46 : decode cX11_move 46 = .ok (.getfield 12, 3) := by decide +kernel
theorem dX11_move_49 : decode cX11_move 49 = .ok (.bipush 101, 2) := by decide +kernel
theorem dX11_move_51 : decode cX11_move 51 = .ok (.iload_n 1, 1) := by decide +kernel
theorem dX11_move_52 : decode cX11_move 52 = .ok (.iload_n 2, 1) := by decide +kernel
theorem dX11_move_53 : decode cX11_move 53 = .ok (.iload_n 3, 1) := by decide +kernel
theorem dX11_move_54 : decode cX11_move 54 = .ok (.invokevirtual 122, 3) := by decide +kernel
theorem dX11_move_57 : decode cX11_move 57 = .ok (.istore 5, 2) := by decide +kernel
theorem dX11_move_59 : decode cX11_move 59 = .ok (.aload_n 0, 1) := by decide +kernel
theorem dX11_move_60 : decode cX11_move 60 = .ok (.getfield 19, 3) := by decide +kernel
theorem dX11_move_63 : decode cX11_move 63 = .ok (.aload_n 0, 1) := by decide +kernel
theorem dX11_move_64 : decode cX11_move 64 = .ok (.getfield 12, 3) := by decide +kernel
theorem dX11_move_67 : decode cX11_move 67 = .ok (.invokevirtual 103, 3) := by decide +kernel
theorem dX11_move_70 : decode cX11_move 70 = .ok (.aload_n 0, 1) := by decide +kernel
theorem dX11_move_71 : decode cX11_move 71 = .ok (.getfield 12, 3) := by decide +kernel
theorem dX11_move_74 : decode cX11_move 74 = .ok (.iload_n 1, 1) := by decide +kernel
theorem dX11_move_75 : decode cX11_move 75 = .ok (.iload_n 2, 1) := by decide +kernel
theorem dX11_move_76 : decode cX11_move 76 = .ok (.iload_n 3, 1) := by decide +kernel
theorem dX11_move_77 : decode cX11_move 77 = .ok (.invokevirtual 126, 3) := by decide +kernel
theorem dX11_move_80 : decode cX11_move 80 = .ok (.iload 5, 2) := by decide +kernel
theorem dX11_move_82 : decode cX11_move 82 = .ok (.ireturn, 1) := by decide +kernel
theorem dX11_setWeight_0 : decode cX11_setWeight 0 = .ok (.aload_n 0, 1) := by decide +kernel
theorem dX11_setWeight_1 : decode cX11_setWeight 1 = .ok (.iload_n 1, 1) := by decide +kernel
theorem dX11_setWeight_2 : decode cX11_setWeight 2 = .ok (.invokevirtual 110, 3) := by decide +kernel
theorem dX11_setWeight_5 : decode cX11_setWeight 5 = .ok (.iload_n 2, 1) := by decide +kernel
theorem dX11_setWeight_6 : decode cX11_setWeight 6 = .ok (.iconst 0, 1) := by decide +kernel
theorem dX11_setWeight_7 : decode cX11_setWeight 7 = .ok (.sipush 999, 3) := by decide +kernel
theorem dX11_setWeight_10 : decode cX11_setWeight 10 = .ok (.invokestatic 129, 3) := by decide +kernel
theorem dX11_setWeight_13 : decode cX11_setWeight 13 = .ok (.aload_n 0, 1) := by decide +kernel
theorem dX11_setWeight_14 : decode cX11_setWeight 14 = .ok (.getfield 12, 3) := by decide +kernel
theorem dX11_setWeight_17 : decode cX11_setWeight 17 = .ok (.getfield 132, 3) := by decide +kernel
theorem dX11_setWeight_20 : decode cX11_setWeight 20 = .ok (.iload_n 1, 1) := by decide +kernel
theorem dX11_setWeight_21 : decode cX11_setWeight 21 = .ok (.iaload, 1) := by decide +kernel
theorem dX11_setWeight_22 : decode cX11_setWeight 22 = .ok (.istore_n 3, 1) := by decide +kernel
theorem dX11_setWeight_23 : decode cX11_setWeight 23 = .ok (.aload_n 0, 1) := by decide +kernel
theorem dX11_setWeight_24 : decode cX11_setWeight 24 = .ok (.getfield 12, 3) := by decide +kernel
theorem dX11_setWeight_27 : decode cX11_setWeight 27 = .ok (.getfield 132, 3) := by decide +kernel
theorem dX11_setWeight_30 : decode cX11_setWeight 30 = .ok (.iload_n 1, 1) := by decide +kernel
theorem dX11_setWeight_31 : decode cX11_setWeight 31 = .ok (.iload_n 2, 1) := by decide +kernel
theorem dX11_setWeight_32 : decode cX11_setWeight 32 = .ok (.iastore, 1) := by decide +kernel
theorem dX11_setWeight_33 : decode cX11_setWeight 33 = .ok (.iload_n 3, 1) := by decide +kernel
theorem dX11_setWeight_34 : decode cX11_setWeight 34 = .ok (.ireturn, 1) := by decide +kernel
theorem dX11_countPoints_0 : decode cX11_countPoints 0 = .ok (.aload_n 0, 1) := by decide +kernel
theorem dX11_countPoints_1 : decode cX11_countPoints 1 = .ok (.getfield 12, 3) := by decide +kernel
theorem dX11_countPoints_4 : decode cX11_countPoints 4 = .ok (.invokevirtual 117, 3) := by decide +kernel
theorem dX11_countPoints_7 : decode cX11_countPoints 7 = .ok (.ireturn, 1) := by decide +kernel
theorem dX11_pointAt_0 : decode cX11_pointAt 0 = .ok (.aload_n 0, 1) := by decide +kernel
theorem dX11_pointAt_1 : decode cX11_pointAt 1 = .ok (.getfield 12, 3) := by decide +kernel
theorem dX11_pointAt_4 : decode cX11_pointAt 4 = .ok (.iload_n 1, 1) := by decide +kernel
theorem dX11_pointAt_5 : decode cX11_pointAt 5 = .ok (.iload_n 2, 1) := by decide +kernel
theorem dX11_pointAt_6 : decode cX11_pointAt 6 = .ok (.invokevirtual 83, 3) := by decide +kernel
theorem dX11_pointAt_9 : decode cX11_pointAt 9 = .ok (.istore_n 3, 1) := by decide +kernel
theorem dX11_pointAt_10 : decode cX11_pointAt 10 = .ok (.iload_n 3, 1) := by decide +kernel
theorem dX11_pointAt_11 : decode cX11_pointAt 11 = .ok (.iconst (-1), 1) := by decide +kernel
theorem dX11_pointAt_12 : decode cX11_pointAt 12 = .ok (.if_icmp .ne 13, 3) := by decide +kernel
theorem dX11_pointAt_15 : decode cX11_pointAt 15 = .ok (.new 136, 3) := by decide +kernel
theorem dX11_pointAt_18 : decode cX11_pointAt 18 = .ok (.dup, 1) := by decide +kernel
theorem dX11_pointAt_19 : decode cX11_pointAt 19 = .ok (.ldc 138, 2) := by decide +kernel
theorem dX11_pointAt_21 : decode cX11_pointAt 21 = .ok (.invokespecial 140, 3) := by decide +kernel
theorem dX11_pointAt_24 : decode cX11_pointAt 24 = .ok (.athrow, 1) := by decide +kernel
theorem dX11_pointAt_25 : decode cX11_pointAt 25 = .ok (.iload_n 3, 1) := by decide +kernel
theorem dX11_pointAt_26 : decode cX11_pointAt 26 = .ok (.ireturn, 1) := by decide +kernel
theorem dX11_undo_0 : decode cX11_undo 0 = .ok (.aload_n 0, 1) := by decide +kernel
theorem dX11_undo_1 : decode cX11_undo 1 = .ok (.getfield 19, 3) := by decide +kernel
theorem dX11_undo_4 : decode cX11_undo 4 = .ok (.getfield 141, 3) := by decide +kernel
theorem dX11_undo_7 : decode cX11_undo 7 = .ok (.ifCond .ne 13, 3) := by decide +kernel
theorem dX11_undo_10 : decode cX11_undo 10 = .ok (.new 136, 3) := by decide +kernel
theorem dX11_undo_13 : decode cX11_undo 13 = .ok (.dup, 1) := by decide +kernel
theorem dX11_undo_14 : decode cX11_undo 14 = .ok (.ldc 144, 2) := by decide +kernel
theorem dX11_undo_16 : decode cX11_undo 16 = .ok (.invokespecial 140, 3) := by decide +kernel
theorem dX11_undo_19 : decode cX11_undo 19 = .ok (.athrow, 1) := by decide +kernel
theorem dX11_undo_20 : decode cX11_undo 20 = .ok (.aload_n 0, 1) := by decide +kernel
theorem dX11_undo_21 : decode cX11_undo 21 = .ok (.getfield 19, 3) := by decide +kernel
theorem dX11_undo_24 : decode cX11_undo 24 = .ok (.aload_n 0, 1) := by decide +kernel
theorem dX11_undo_25 : decode cX11_undo 25 = .ok (.getfield 12, 3) := by decide +kernel
theorem dX11_undo_28 : decode cX11_undo 28 = .ok (.invokevirtual 146, 3) := by decide +kernel
theorem dX11_undo_31 : decode cX11_undo 31 = .ok (.aload_n 0, 1) := by decide +kernel
theorem dX11_undo_32 : decode cX11_undo 32 = .ok (.getfield 19, 3) := by decide +kernel
theorem dX11_undo_35 : decode cX11_undo 35 = .ok (.getfield 141, 3) := by decide +kernel
theorem dX11_undo_38 : decode cX11_undo 38 = .ok (.ireturn, 1) := by decide +kernel
theorem dX11_nearest_0 : decode cX11_nearest 0 = .ok (.iload_n 1, 1) := by decide +kernel
theorem dX11_nearest_1 : decode cX11_nearest 1 = .ok (.invokestatic 149, 3) := by decide +kernel
theorem dX11_nearest_4 : decode cX11_nearest 4 = .ok (.iload_n 2, 1) := by decide +kernel
theorem dX11_nearest_5 : decode cX11_nearest 5 = .ok (.iload_n 3, 1) := by decide +kernel
theorem dX11_nearest_6 : decode cX11_nearest 6 = .ok (.sipush 999, 3) := by decide +kernel
theorem dX11_nearest_9 : decode cX11_nearest 9 = .ok (.invokestatic 79, 3) := by decide +kernel
theorem dX11_nearest_12 : decode cX11_nearest 12 = .ok (.aload_n 0, 1) := by decide +kernel
theorem dX11_nearest_13 : decode cX11_nearest 13 = .ok (.invokevirtual 153, 3) := by decide +kernel
theorem dX11_nearest_16 : decode cX11_nearest 16 = .ok (.aload_n 0, 1) := by decide +kernel
theorem dX11_nearest_17 : decode cX11_nearest 17 = .ok (.getfield 12, 3) := by decide +kernel
theorem dX11_nearest_20 : decode cX11_nearest 20 = .ok (.iload_n 1, 1) := by decide +kernel
theorem dX11_nearest_21 : decode cX11_nearest 21 = .ok (.iload_n 2, 1) := by decide +kernel
theorem dX11_nearest_22 : decode cX11_nearest 22 = .ok (.iload_n 3, 1) := by decide +kernel
theorem dX11_nearest_23 : decode cX11_nearest 23 = .ok (.invokevirtual 156, 3) := by decide +kernel
theorem dX11_nearest_26 : decode cX11_nearest 26 = .ok (.ireturn, 1) := by decide +kernel
theorem dX11_nearness_0 : decode cX11_nearness 0 = .ok (.iload_n 1, 1) := by decide +kernel
theorem dX11_nearness_1 : decode cX11_nearness 1 = .ok (.invokestatic 149, 3) := by decide +kernel
theorem dX11_nearness_4 : decode cX11_nearness 4 = .ok (.iload_n 2, 1) := by decide +kernel
theorem dX11_nearness_5 : decode cX11_nearness 5 = .ok (.iload_n 3, 1) := by decide +kernel
theorem dX11_nearness_6 : decode cX11_nearness 6 = .ok (.sipush 999, 3) := by decide +kernel
theorem dX11_nearness_9 : decode cX11_nearness 9 = .ok (.invokestatic 79, 3) := by decide +kernel
theorem dX11_nearness_12 : decode cX11_nearness 12 = .ok (.aload_n 0, 1) := by decide +kernel
theorem dX11_nearness_13 : decode cX11_nearness 13 = .ok (.invokevirtual 153, 3) := by decide +kernel
theorem dX11_nearness_16 : decode cX11_nearness 16 = .ok (.aload_n 0, 1) := by decide +kernel
theorem dX11_nearness_17 : decode cX11_nearness 17 = .ok (.getfield 12, 3) := by decide +kernel
theorem dX11_nearness_20 : decode cX11_nearness 20 = .ok (.iload_n 1, 1) := by decide +kernel
theorem dX11_nearness_21 : decode cX11_nearness 21 = .ok (.iload_n 2, 1) := by decide +kernel
theorem dX11_nearness_22 : decode cX11_nearness 22 = .ok (.iload_n 3, 1) := by decide +kernel
theorem dX11_nearness_23 : decode cX11_nearness 23 = .ok (.invokevirtual 156, 3) := by decide +kernel
theorem dX11_nearness_26 : decode cX11_nearness 26 = .ok (.istore 4, 2) := by decide +kernel
theorem dX11_nearness_28 : decode cX11_nearness 28 = .ok (.aload_n 0, 1) := by decide +kernel
theorem dX11_nearness_29 : decode cX11_nearness 29 = .ok (.getfield 12, 3) := by decide +kernel
theorem dX11_nearness_32 : decode cX11_nearness 32 = .ok (.iload 4, 2) := by decide +kernel
theorem dX11_nearness_34 : decode cX11_nearness 34 = .ok (.invokevirtual 160, 3) := by decide +kernel
theorem dX11_nearness_37 : decode cX11_nearness 37 = .ok (.ifCond .eq 18, 3) := by decide +kernel
theorem dX11_nearness_40 : decode cX11_nearness 40 = .ok (.aload_n 0, 1) := by decide +kernel
theorem dX11_nearness_41 : decode cX11_nearness 41 = .ok (.getfield 12, 3) := by decide +kernel
theorem dX11_nearness_44 : decode cX11_nearness 44 = .ok (.iload_n 1, 1) := by decide +kernel
theorem dX11_nearness_45 : decode cX11_nearness 45 = .ok (.iload 4, 2) := by decide +kernel
theorem dX11_nearness_47 : decode cX11_nearness 47 = .ok (.iload_n 2, 1) := by decide +kernel
theorem dX11_nearness_48 : decode cX11_nearness 48 = .ok (.iload_n 3, 1) := by decide +kernel
theorem dX11_nearness_49 : decode cX11_nearness 49 = .ok (.invokevirtual 122, 3) := by decide +kernel
theorem dX11_nearness_52 : decode cX11_nearness 52 = .ok (.goto 4, 3) := by decide +kernel
theorem dX11_nearness_55 : decode cX11_nearness 55 = .ok (.iconst 0, 1) := by decide +kernel
theorem dX11_nearness_56 : decode cX11_nearness 56 = .ok (.ireturn, 1) := by decide +kernel
theorem dX11_farthest_0 : decode cX11_farthest 0 = .ok (.iload_n 1, 1) := by decide +kernel
theorem dX11_farthest_1 : decode cX11_farthest 1 = .ok (.invokestatic 149, 3) := by decide +kernel
theorem dX11_farthest_4 : decode cX11_farthest 4 = .ok (.iload_n 2, 1) := by decide +kernel
theorem dX11_farthest_5 : decode cX11_farthest 5 = .ok (.iload_n 3, 1) := by decide +kernel
theorem dX11_farthest_6 : decode cX11_farthest 6 = .ok (.sipush 999, 3) := by decide +kernel
theorem dX11_farthest_9 : decode cX11_farthest 9 = .ok (.invokestatic 79, 3) := by decide +kernel
theorem dX11_farthest_12 : decode cX11_farthest 12 = .ok (.aload_n 0, 1) := by decide +kernel
theorem dX11_farthest_13 : decode cX11_farthest 13 = .ok (.invokevirtual 153, 3) := by decide +kernel
theorem dX11_farthest_16 : decode cX11_farthest 16 = .ok (.aload_n 0, 1) := by decide +kernel
theorem dX11_farthest_17 : decode cX11_farthest 17 = .ok (.getfield 12, 3) := by decide +kernel
theorem dX11_farthest_20 : decode cX11_farthest 20 = .ok (.iload_n 1, 1) := by decide +kernel

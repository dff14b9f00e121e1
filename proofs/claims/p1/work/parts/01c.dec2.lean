theorem dX12_isLower_53 : decode cX12_isLower 53 = .ok (.iaload, 1) := by decide +kernel
theorem dX12_isLower_54 : decode cX12_isLower 54 = .ok (.aload_n 0, 1) := by decide +kernel
theorem dX12_isLower_55 : decode cX12_isLower 55 = .ok (.getfield 11, 3) := by decide +kernel
theorem dX12_isLower_58 : decode cX12_isLower 58 = .ok (.iload_n 2, 1) := by decide +kernel
theorem dX12_isLower_59 : decode cX12_isLower 59 = .ok (.aaload, 1) := by decide +kernel
theorem dX12_isLower_60 : decode cX12_isLower 60 = .ok (.iconst 0, 1) := by decide +kernel
theorem dX12_isLower_61 : decode cX12_isLower 61 = .ok (.iaload, 1) := by decide +kernel
theorem dX12_isLower_62 : decode cX12_isLower 62 = .ok (.if_icmp .ge 7, 3) := by decide +kernel
theorem dX12_isLower_65 : decode cX12_isLower 65 = .ok (.iconst 1, 1) := by decide +kernel
theorem dX12_isLower_66 : decode cX12_isLower 66 = .ok (.goto 4, 3) := by decide +kernel
theorem dX12_isLower_69 : decode cX12_isLower 69 = .ok (.iconst 0, 1) := by decide +kernel
theorem dX12_isLower_70 : decode cX12_isLower 70 = .ok (.ireturn, 1) := by decide +kernel
theorem dX12_hull_0 : decode cX12_hull 0 = .ok (.new 15, 3) := by decide +kernel
theorem dX12_hull_3 : decode cX12_hull 3 = .ok (.dup, 1) := by decide +kernel
theorem dX12_hull_4 : decode cX12_hull 4 = .ok (.invokespecial 17, 3) := by decide +kernel
theorem dX12_hull_7 : decode cX12_hull 7 = .ok (.astore_n 2, 1) := by decide +kernel
theorem dX12_hull_8 : decode cX12_hull 8 = .ok (.iconst (-1), 1) := by decide +kernel
theorem dX12_hull_9 : decode cX12_hull 9 = .ok (.istore_n 3, 1) := by decide +kernel
theorem dX12_hull_10 : decode cX12_hull 10 = .ok (.iconst 0, 1) := by decide +kernel
theorem dX12_hull_11 : decode cX12_hull 11 = .ok (.istore 4, 2) := by decide +kernel
theorem dX12_hull_13 : decode cX12_hull 13 = .ok (.iload 4, 2) := by decide +kernel
theorem dX12_hull_15 : decode cX12_hull 15 = .ok (.bipush 12, 2) := by decide +kernel
theorem dX12_hull_17 : decode cX12_hull 17 = .ok (.if_icmp .ge 41, 3) := by decide +kernel
theorem dX12_hull_20 : decode cX12_hull 20 = .ok (.iload_n 1, 1) := by decide +kernel
theorem dX12_hull_21 : decode cX12_hull 21 = .ok (.iload 4, 2) := by decide +kernel
theorem dX12_hull_23 : decode cX12_hull 23 = .ok (.ishr, 1) := by decide +kernel
theorem dX12_hull_24 : decode cX12_hull 24 = .ok (.iconst 1, 1) := by decide +kernel
theorem dX12_hull_25 : decode cX12_hull 25 = .ok (.iand, 1) := by decide +kernel
theorem dX12_hull_26 : decode cX12_hull 26 = .ok (.iconst 1, 1) := by decide +kernel
theorem dX12_hull_27 : decode cX12_hull 27 = .ok (.if_icmp .ne 23, 3) := by decide +kernel
theorem dX12_hull_30 : decode cX12_hull 30 = .ok (.iload_n 3, 1) := by decide +kernel
theorem dX12_hull_31 : decode cX12_hull 31 = .ok (.iconst (-1), 1) := by decide +kernel
theorem dX12_hull_32 : decode cX12_hull 32 = .ok (.if_icmp .eq 13, 3) := by decide +kernel
theorem dX12_hull_35 : decode cX12_hull 35 = .ok (.aload_n 0, 1) := by decide +kernel
theorem dX12_hull_36 : decode cX12_hull 36 = .ok (.iload 4, 2) := by decide +kernel
theorem dX12_hull_38 : decode cX12_hull 38 = .ok (.iload_n 3, 1) := by decide +kernel
theorem dX12_hull_39 : decode cX12_hull 39 = .ok (.invokevirtual 186, 3) := by decide +kernel
theorem dX12_hull_42 : decode cX12_hull 42 = .ok (.ifCond .eq 8, 3) := by decide +kernel
theorem dX12_hull_45 : decode cX12_hull 45 = .ok (.iload 4, 2) := by decide +kernel
theorem dX12_hull_47 : decode cX12_hull 47 = .ok (.goto 4, 3) := by decide +kernel
theorem dX12_hull_50 : decode cX12_hull 50 = .ok (.iload_n 3, 1) := by decide +kernel
theorem dX12_hull_51 : decode cX12_hull 51 = .ok (.istore_n 3, 1) := by decide +kernel
theorem dX12_hull_52 : decode cX12_hull 52 = .ok (.iinc 4 1, 3) := by decide +kernel
theorem dX12_hull_55 : decode cX12_hull 55 = .ok (.goto (-42), 3) := by decide +kernel
theorem dX12_hull_58 : decode cX12_hull 58 = .ok (.iload_n 3, 1) := by decide +kernel
theorem dX12_hull_59 : decode cX12_hull 59 = .ok (.istore 4, 2) := by decide +kernel
theorem dX12_hull_61 : decode cX12_hull 61 = .ok (.iload 4, 2) := by decide +kernel
theorem dX12_hull_63 : decode cX12_hull 63 = .ok (.iconst (-1), 1) := by decide +kernel
theorem dX12_hull_64 : decode cX12_hull 64 = .ok (.if_icmp .eq 136, 3) := by decide +kernel
theorem dX12_hull_67 : decode cX12_hull 67 = .ok (.aload_n 2, 1) := by decide +kernel
theorem dX12_hull_68 : decode cX12_hull 68 = .ok (.invokeinterface 87 1, 5) := by decide +kernel
theorem dX12_hull_73 : decode cX12_hull 73 = .ok (.ifCond .ne 9, 3) := by decide +kernel
theorem dX12_hull_76 : decode cX12_hull 76 = .ok (.iload 4, 2) := by decide +kernel
theorem dX12_hull_78 : decode cX12_hull 78 = .ok (.iload_n 3, 1) := by decide +kernel
theorem dX12_hull_79 : decode cX12_hull 79 = .ok (.if_icmp .eq 121, 3) := by decide +kernel
theorem dX12_hull_82 : decode cX12_hull 82 = .ok (.aload_n 2, 1) := by decide +kernel
theorem dX12_hull_83 : decode cX12_hull 83 = .ok (.iload 4, 2) := by decide +kernel
theorem dX12_hull_85 : decode cX12_hull 85 = .ok (.invokestatic 189, 3) := by decide +kernel
theorem dX12_hull_88 : decode cX12_hull 88 = .ok (.invokeinterface 50 2, 5) := by decide +kernel
theorem dX12_hull_93 : decode cX12_hull 93 = .ok (.pop, 1) := by decide +kernel
theorem dX12_hull_94 : decode cX12_hull 94 = .ok (.iconst (-1), 1) := by decide +kernel
theorem dX12_hull_95 : decode cX12_hull 95 = .ok (.istore 5, 2) := by decide +kernel
theorem dX12_hull_97 : decode cX12_hull 97 = .ok (.iconst 0, 1) := by decide +kernel
theorem dX12_hull_98 : decode cX12_hull 98 = .ok (.istore 6, 2) := by decide +kernel
theorem dX12_hull_100 : decode cX12_hull 100 = .ok (.iload 6, 2) := by decide +kernel
theorem dX12_hull_102 : decode cX12_hull 102 = .ok (.bipush 12, 2) := by decide +kernel
theorem dX12_hull_104 : decode cX12_hull 104 = .ok (.if_icmp .ge 89, 3) := by decide +kernel
theorem dX12_hull_107 : decode cX12_hull 107 = .ok (.iload_n 1, 1) := by decide +kernel
theorem dX12_hull_108 : decode cX12_hull 108 = .ok (.iload 6, 2) := by decide +kernel
theorem dX12_hull_110 : decode cX12_hull 110 = .ok (.ishr, 1) := by decide +kernel
theorem dX12_hull_111 : decode cX12_hull 111 = .ok (.iconst 1, 1) := by decide +kernel
theorem dX12_hull_112 : decode cX12_hull 112 = .ok (.iand, 1) := by decide +kernel
theorem dX12_hull_113 : decode cX12_hull 113 = .ok (.ifCond .eq 74, 3) := by decide +kernel
theorem dX12_hull_116 : decode cX12_hull 116 = .ok (.iload 6, 2) := by decide +kernel
theorem dX12_hull_118 : decode cX12_hull 118 = .ok (.iload 4, 2) := by decide +kernel
theorem dX12_hull_120 : decode cX12_hull 120 = .ok (.if_icmp .ne 6, 3) := by decide +kernel
theorem dX12_hull_123 : decode cX12_hull 123 = .ok (.goto 64, 3) := by decide +kernel
theorem dX12_hull_126 : decode cX12_hull 126 = .ok (.iload 5, 2) := by decide +kernel
theorem dX12_hull_128 : decode cX12_hull 128 = .ok (.iconst (-1), 1) := by decide +kernel
theorem dX12_hull_129 : decode cX12_hull 129 = .ok (.if_icmp .ne 7, 3) := by decide +kernel
theorem dX12_hull_132 : decode cX12_hull 132 = .ok (.iconst (-1), 1) := by decide +kernel
theorem dX12_hull_133 : decode cX12_hull 133 = .ok (.goto 13, 3) := by decide +kernel
theorem dX12_hull_136 : decode cX12_hull 136 = .ok (.aload_n 0, 1) := by decide +kernel
theorem dX12_hull_137 : decode cX12_hull 137 = .ok (.iload 4, 2) := by decide +kernel
theorem dX12_hull_139 : decode cX12_hull 139 = .ok (.iload 5, 2) := by decide +kernel
theorem dX12_hull_141 : decode cX12_hull 141 = .ok (.iload 6, 2) := by decide +kernel
theorem dX12_hull_143 : decode cX12_hull 143 = .ok (.invokevirtual 133, 3) := by decide +kernel
theorem dX12_hull_146 : decode cX12_hull 146 = .ok (.istore 7, 2) := by decide +kernel
theorem dX12_hull_148 : decode cX12_hull 148 = .ok (.iload 7, 2) := by decide +kernel
theorem dX12_hull_150 : decode cX12_hull 150 = .ok (.ifCond .lt 28, 3) := by decide +kernel
theorem dX12_hull_153 : decode cX12_hull 153 = .ok (.iload 7, 2) := by decide +kernel
theorem dX12_hull_155 : decode cX12_hull 155 = .ok (.ifCond .ne 28, 3) := by decide +kernel
theorem dX12_hull_158 : decode cX12_hull 158 = .ok (.aload_n 0, 1) := by decide +kernel
theorem dX12_hull_159 : decode cX12_hull 159 = .ok (.iload 4, 2) := by decide +kernel
theorem dX12_hull_161 : decode cX12_hull 161 = .ok (.iload 6, 2) := by decide +kernel
theorem dX12_hull_163 : decode cX12_hull 163 = .ok (.invokevirtual 160, 3) := by decide +kernel
theorem dX12_hull_166 : decode cX12_hull 166 = .ok (.aload_n 0, 1) := by decide +kernel
theorem dX12_hull_167 : decode cX12_hull 167 = .ok (.iload 4, 2) := by decide +kernel
theorem dX12_hull_169 : decode cX12_hull 169 = .ok (.iload 5, 2) := by decide +kernel
theorem dX12_hull_171 : decode cX12_hull 171 = .ok (.invokevirtual 160, 3) := by decide +kernel
theorem dX12_hull_174 : decode cX12_hull 174 = .ok (.lcmp, 1) := by decide +kernel
theorem dX12_hull_175 : decode cX12_hull 175 = .ok (.ifCond .le 8, 3) := by decide +kernel
theorem dX12_hull_178 : decode cX12_hull 178 = .ok (.iload 6, 2) := by decide +kernel
theorem dX12_hull_180 : decode cX12_hull 180 = .ok (.goto 5, 3) := by decide +kernel
theorem dX12_hull_183 : decode cX12_hull 183 = .ok (.iload 5, 2) := by decide +kernel
theorem dX12_hull_185 : decode cX12_hull 185 = .ok (.istore 5, 2) := by decide +kernel
theorem dX12_hull_187 : decode cX12_hull 187 = .ok (.iinc 6 1, 3) := by decide +kernel
theorem dX12_hull_190 : decode cX12_hull 190 = .ok (.goto (-90), 3) := by decide +kernel
theorem dX12_hull_193 : decode cX12_hull 193 = .ok (.iload 5, 2) := by decide +kernel
theorem dX12_hull_195 : decode cX12_hull 195 = .ok (.istore 4, 2) := by decide +kernel
theorem dX12_hull_197 : decode cX12_hull 197 = .ok (.goto (-136), 3) := by decide +kernel
theorem dX12_hull_200 : decode cX12_hull 200 = .ok (.aload_n 2, 1) := by decide +kernel
theorem dX12_hull_201 : decode cX12_hull 201 = .ok (.areturn, 1) := by decide +kernel
theorem dX12_all_0 : decode cX12_all 0 = .ok (.iconst 0, 1) := by decide +kernel
theorem dX12_all_1 : decode cX12_all 1 = .ok (.istore_n 1, 1) := by decide +kernel
theorem dX12_all_2 : decode cX12_all 2 = .ok (.iconst 0, 1) := by decide +kernel
theorem dX12_all_3 : decode cX12_all 3 = .ok (.istore_n 2, 1) := by decide +kernel
theorem dX12_all_4 : decode cX12_all 4 = .ok (.iload_n 2, 1) := by decide +kernel
theorem dX12_all_5 : decode cX12_all 5 = .ok (.bipush 12, 2) := by decide +kernel
theorem dX12_all_7 : decode cX12_all 7 = .ok (.if_icmp .ge 28, 3) := by decide +kernel
theorem dX12_all_10 : decode cX12_all 10 = .ok (.iload_n 1, 1) := by decide +kernel
theorem dX12_all_11 : decode cX12_all 11 = .ok (.aload_n 0, 1) := by decide +kernel
theorem dX12_all_12 : decode cX12_all 12 = .ok (.getfield 11, 3) := by decide +kernel
theorem dX12_all_15 : decode cX12_all 15 = .ok (.iload_n 2, 1) := by decide +kernel
theorem dX12_all_16 : decode cX12_all 16 = .ok (.aaload, 1) := by decide +kernel
theorem dX12_all_17 : decode cX12_all 17 = .ok (.ifnonnull 7, 3) := by decide +kernel
theorem dX12_all_20 : decode cX12_all 20 = .ok (.iconst 0, 1) := by decide +kernel
theorem dX12_all_21 : decode cX12_all 21 = .ok (.goto 6, 3) := by decide +kernel
theorem dX12_all_24 : decode cX12_all 24 = .ok (.iconst 1, 1) := by decide +kernel
theorem dX12_all_25 : decode cX12_all 25 = .ok (.iload_n 2, 1) := by decide +kernel
theorem dX12_all_26 : decode cX12_all 26 = .ok (.ishl, 1) := by decide +kernel
theorem dX12_all_27 : decode cX12_all 27 = .ok (.ior, 1) := by decide +kernel
theorem dX12_all_28 : decode cX12_all 28 = .ok (.istore_n 1, 1) := by decide +kernel
theorem dX12_all_29 : decode cX12_all 29 = .ok (.iinc 2 1, 3) := by decide +kernel
theorem dX12_all_32 : decode cX12_all 32 = .ok (.goto (-28), 3) := by decide +kernel
theorem dX12_all_35 : decode cX12_all 35 = .ok (.iload_n 1, 1) := by decide +kernel
theorem dX12_all_36 : decode cX12_all 36 = .ok (.ireturn, 1) := by decide +kernel
theorem dX12_countHull_0 : decode cX12_countHull 0 = .ok (.aload_n 0, 1) := by decide +kernel
theorem dX12_countHull_1 : decode cX12_countHull 1 = .ok (.iconst 0, 1) := by decide +kernel
theorem dX12_countHull_2 : decode cX12_countHull 2 = .ok (.putfield 25, 3) := by decide +kernel
theorem dX12_countHull_5 : decode cX12_countHull 5 = .ok (.aload_n 0, 1) := by decide +kernel
theorem dX12_countHull_6 : decode cX12_countHull 6 = .ok (.aload_n 0, 1) := by decide +kernel
theorem dX12_countHull_7 : decode cX12_countHull 7 = .ok (.invokevirtual 195, 3) := by decide +kernel
theorem dX12_countHull_10 : decode cX12_countHull 10 = .ok (.invokevirtual 198, 3) := by decide +kernel
theorem dX12_countHull_13 : decode cX12_countHull 13 = .ok (.invokeinterface 56 1, 5) := by decide +kernel
theorem dX12_countHull_18 : decode cX12_countHull 18 = .ok (.ireturn, 1) := by decide +kernel
theorem dX12_hullAt_0 : decode cX12_hullAt 0 = .ok (.aload_n 0, 1) := by decide +kernel
theorem dX12_hullAt_1 : decode cX12_hullAt 1 = .ok (.aload_n 0, 1) := by decide +kernel
theorem dX12_hullAt_2 : decode cX12_hullAt 2 = .ok (.invokevirtual 195, 3) := by decide +kernel
theorem dX12_hullAt_5 : decode cX12_hullAt 5 = .ok (.invokevirtual 198, 3) := by decide +kernel
theorem dX12_hullAt_8 : decode cX12_hullAt 8 = .ok (.astore_n 2, 1) := by decide +kernel
theorem dX12_hullAt_9 : decode cX12_hullAt 9 = .ok (.aload_n 0, 1) := by decide +kernel
theorem dX12_hullAt_10 : decode cX12_hullAt 10 = .ok (.iload_n 1, 1) := by decide +kernel
theorem dX12_hullAt_11 : decode cX12_hullAt 11 = .ok (.i2l, 1) := by decide +kernel
theorem dX12_hullAt_12 : decode cX12_hullAt 12 = .ok (.lconst 0, 1) := by decide +kernel
theorem dX12_hullAt_13 : decode cX12_hullAt 13 = .ok (.aload_n 2, 1) := by decide +kernel
theorem dX12_hullAt_14 : decode cX12_hullAt 14 = .ok (.invokeinterface 56 1, 5) := by decide +kernel
theorem dX12_hullAt_19 : decode cX12_hullAt 19 = .ok (.iconst 1, 1) := by decide +kernel
theorem dX12_hullAt_20 : decode cX12_hullAt 20 = .ok (.isub, 1) := by decide +kernel
theorem dX12_hullAt_21 : decode cX12_hullAt 21 = .ok (.i2l, 1) := by decide +kernel
theorem dX12_hullAt_22 : decode cX12_hullAt 22 = .ok (.invokestatic 29, 3) := by decide +kernel
theorem dX12_hullAt_25 : decode cX12_hullAt 25 = .ok (.ifCond .eq 7, 3) := by decide +kernel
theorem dX12_hullAt_28 : decode cX12_hullAt 28 = .ok (.iconst 0, 1) := by decide +kernel
theorem dX12_hullAt_29 : decode cX12_hullAt 29 = .ok (.goto 4, 3) := by decide +kernel
theorem dX12_hullAt_32 : decode cX12_hullAt 32 = .ok (.iconst 1, 1) := by decide +kernel
theorem dX12_hullAt_33 : decode cX12_hullAt 33 = .ok (.invokevirtual 39, 3) := by decide +kernel
theorem dX12_hullAt_36 : decode cX12_hullAt 36 = .ok (.ifCond .eq 7, 3) := by decide +kernel
theorem dX12_hullAt_39 : decode cX12_hullAt 39 = .ok (.iconst 0, 1) := by decide +kernel
theorem dX12_hullAt_40 : decode cX12_hullAt 40 = .ok (.goto 16, 3) := by decide +kernel
theorem dX12_hullAt_43 : decode cX12_hullAt 43 = .ok (.aload_n 2, 1) := by decide +kernel
theorem dX12_hullAt_44 : decode cX12_hullAt 44 = .ok (.iload_n 1, 1) := by decide +kernel
theorem dX12_hullAt_45 : decode cX12_hullAt 45 = .ok (.invokeinterface 202 2, 5) := by decide +kernel
theorem dX12_hullAt_50 : decode cX12_hullAt 50 = .ok (.checkcast 190, 3) := by decide +kernel
theorem dX12_hullAt_53 : decode cX12_hullAt 53 = .ok (.invokevirtual 205, 3) := by decide +kernel
theorem dX12_hullAt_56 : decode cX12_hullAt 56 = .ok (.ireturn, 1) := by decide +kernel
theorem dX12_hullArea_0 : decode cX12_hullArea 0 = .ok (.aload_n 0, 1) := by decide +kernel
theorem dX12_hullArea_1 : decode cX12_hullArea 1 = .ok (.iconst 0, 1) := by decide +kernel
theorem dX12_hullArea_2 : decode cX12_hullArea 2 = .ok (.putfield 25, 3) := by decide +kernel
theorem dX12_hullArea_5 : decode cX12_hullArea 5 = .ok (.aload_n 0, 1) := by decide +kernel
theorem dX12_hullArea_6 : decode cX12_hullArea 6 = .ok (.aload_n 0, 1) := by decide +kernel
theorem dX12_hullArea_7 : decode cX12_hullArea 7 = .ok (.invokevirtual 195, 3) := by decide +kernel
theorem dX12_hullArea_10 : decode cX12_hullArea 10 = .ok (.invokevirtual 198, 3) := by decide +kernel
theorem dX12_hullArea_13 : decode cX12_hullArea 13 = .ok (.astore_n 1, 1) := by decide +kernel
theorem dX12_hullArea_14 : decode cX12_hullArea 14 = .ok (.lconst 0, 1) := by decide +kernel
theorem dX12_hullArea_15 : decode cX12_hullArea 15 = .ok (.lstore_n 2, 1) := by decide +kernel
theorem dX12_hullArea_16 : decode cX12_hullArea 16 = .ok (.iconst 2, 1) := by decide +kernel
theorem dX12_hullArea_17 : decode cX12_hullArea 17 = .ok (.istore 4, 2) := by decide +kernel
theorem dX12_hullArea_19 : decode cX12_hullArea 19 = .ok (.iload 4, 2) := by decide +kernel
theorem dX12_hullArea_21 : decode cX12_hullArea 21 = .ok (.aload_n 1, 1) := by decide +kernel
theorem dX12_hullArea_22 : decode cX12_hullArea 22 = .ok (.invokeinterface 56 1, 5) := by decide +kernel
theorem dX12_hullArea_27 : decode cX12_hullArea 27 = .ok (.if_icmp .ge 73, 3) := by decide +kernel
theorem dX12_hullArea_30 : decode cX12_hullArea 30 = .ok (.lload_n 2, 1) := by decide +kernel
theorem dX12_hullArea_31 : decode cX12_hullArea 31 = .ok (.aload_n 0, 1) := by decide +kernel
theorem dX12_hullArea_32 : decode cX12_hullArea 32 = .ok (.getfield 11, 3) := by decide +kernel
theorem dX12_hullArea_35 : decode cX12_hullArea 35 = .ok (.aload_n 1, 1) := by decide +kernel
theorem dX12_hullArea_36 : decode cX12_hullArea 36 = .ok (.iconst 0, 1) := by decide +kernel
theorem dX12_hullArea_37 : decode cX12_hullArea 37 = .ok (.invokeinterface 202 2, 5) := by decide +kernel
theorem dX12_hullArea_42 : decode cX12_hullArea 42 = .ok (.checkcast 190, 3) := by decide +kernel
theorem dX12_hullArea_45 : decode cX12_hullArea 45 = .ok (.invokevirtual 205, 3) := by decide +kernel
theorem dX12_hullArea_48 : decode cX12_hullArea 48 = .ok (.aaload, 1) := by decide +kernel
theorem dX12_hullArea_49 : decode cX12_hullArea 49 = .ok (.aload_n 0, 1) := by decide +kernel
theorem dX12_hullArea_50 : decode cX12_hullArea 50 = .ok (.getfield 11, 3) := by decide +kernel
theorem dX12_hullArea_53 : decode cX12_hullArea 53 = .ok (.aload_n 1, 1) := by decide +kernel
theorem dX12_hullArea_54 : decode cX12_hullArea 54 = .ok (.iload 4, 2) := by decide +kernel
theorem dX12_hullArea_56 : decode cX12_hullArea 56 = .ok (.iconst 1, 1) := by decide +kernel
theorem dX12_hullArea_57 : decode cX12_hullArea 57 = .ok (.isub, 1) := by decide +kernel
theorem dX12_hullArea_58 : decode cX12_hullArea 58 = .ok (.invokeinterface 202 2, 5) := by decide +kernel
theorem dX12_hullArea_63 : decode cX12_hullArea 63 = .ok (.checkcast 190, 3) := by decide +kernel
theorem dX12_hullArea_66 : decode cX12_hullArea 66 = .ok (.invokevirtual 205, 3) := by decide +kernel
theorem dX12_hullArea_69 : decode cX12_hullArea 69 = .ok (.aaload, 1) := by decide +kernel
theorem dX12_hullArea_70 : decode cX12_hullArea 70 = .ok (.aload_n 0, 1) := by decide +kernel
theorem dX12_hullArea_71 : decode cX12_hullArea 71 = .ok (.getfield 11, 3) := by decide +kernel
theorem dX12_hullArea_74 : decode cX12_hullArea 74 = .ok (.aload_n 1, 1) := by decide +kernel
theorem dX12_hullArea_75 : decode cX12_hullArea 75 = .ok (.iload 4, 2) := by decide +kernel
theorem dX12_hullArea_77 : decode cX12_hullArea 77 = .ok (.invokeinterface 202 2, 5) := by decide +kernel
theorem dX12_hullArea_82 : decode cX12_hullArea 82 = .ok (.checkcast 190, 3) := by decide +kernel
theorem dX12_hullArea_85 : decode cX12_hullArea 85 = .ok (.invokevirtual 205, 3) := by decide +kernel
theorem dX12_hullArea_88 : decode cX12_hullArea 88 = .ok (.aaload, 1) := by decide +kernel
theorem dX12_hullArea_89 : decode cX12_hullArea 89 = .ok (.invokestatic 123, 3) := by decide +kernel
theorem dX12_hullArea_92 : decode cX12_hullArea 92 = .ok (.ladd, 1) := by decide +kernel
theorem dX12_hullArea_93 : decode cX12_hullArea 93 = .ok (.lstore_n 2, 1) := by decide +kernel
theorem dX12_hullArea_94 : decode cX12_hullArea 94 = .ok (.iinc 4 1, 3) := by decide +kernel
theorem dX12_hullArea_97 : decode cX12_hullArea 97 = .ok (.goto (-78), 3) := by decide +kernel
theorem dX12_hullArea_100 : decode cX12_hullArea 100 = .ok (.lload_n 2, 1) := by decide +kernel
theorem dX12_hullArea_101 : decode cX12_hullArea 101 = .ok (.l2i, 1) := by decide +kernel
theorem dX12_hullArea_102 : decode cX12_hullArea 102 = .ok (.ireturn, 1) := by decide +kernel
theorem dX12_isOnSide_0 : decode cX12_isOnSide 0 = .ok (.aload_n 1, 1) := by decide +kernel
theorem dX12_isOnSide_1 : decode cX12_isOnSide 1 = .ok (.invokeinterface 56 1, 5) := by decide +kernel
theorem dX12_isOnSide_6 : decode cX12_isOnSide 6 = .ok (.iconst 3, 1) := by decide +kernel
theorem dX12_isOnSide_7 : decode cX12_isOnSide 7 = .ok (.if_icmp .ge 7, 3) := by decide +kernel
theorem dX12_isOnSide_10 : decode cX12_isOnSide 10 = .ok (.iconst 1, 1) := by decide +kernel
theorem dX12_isOnSide_11 : decode cX12_isOnSide 11 = .ok (.goto 4, 3) := by decide +kernel
theorem dX12_isOnSide_14 : decode cX12_isOnSide 14 = .ok (.iconst 0, 1) := by decide +kernel
theorem dX12_isOnSide_15 : decode cX12_isOnSide 15 = .ok (.istore_n 3, 1) := by decide +kernel
theorem dX12_isOnSide_16 : decode cX12_isOnSide 16 = .ok (.iconst 0, 1) := by decide +kernel
theorem dX12_isOnSide_17 : decode cX12_isOnSide 17 = .ok (.istore 4, 2) := by decide +kernel
theorem dX12_isOnSide_19 : decode cX12_isOnSide 19 = .ok (.iload 4, 2) := by decide +kernel
theorem dX12_isOnSide_21 : decode cX12_isOnSide 21 = .ok (.aload_n 1, 1) := by decide +kernel
theorem dX12_isOnSide_22 : decode cX12_isOnSide 22 = .ok (.invokeinterface 56 1, 5) := by decide +kernel
theorem dX12_isOnSide_27 : decode cX12_isOnSide 27 = .ok (.if_icmp .ge 62, 3) := by decide +kernel
theorem dX12_isOnSide_30 : decode cX12_isOnSide 30 = .ok (.iload_n 3, 1) := by decide +kernel
theorem dX12_isOnSide_31 : decode cX12_isOnSide 31 = .ok (.aload_n 0, 1) := by decide +kernel
theorem dX12_isOnSide_32 : decode cX12_isOnSide 32 = .ok (.aload_n 1, 1) := by decide +kernel
theorem dX12_isOnSide_33 : decode cX12_isOnSide 33 = .ok (.iload 4, 2) := by decide +kernel
theorem dX12_isOnSide_35 : decode cX12_isOnSide 35 = .ok (.invokeinterface 202 2, 5) := by decide +kernel
theorem dX12_isOnSide_40 : decode cX12_isOnSide 40 = .ok (.checkcast 190, 3) := by decide +kernel
theorem dX12_isOnSide_43 : decode cX12_isOnSide 43 = .ok (.invokevirtual 205, 3) := by decide +kernel
theorem dX12_isOnSide_46 : decode cX12_isOnSide 46 = .ok (.aload_n 1, 1) := by decide +kernel
theorem dX12_isOnSide_47 : decode cX12_isOnSide 47 = .ok (.iload 4, 2) := by decide +kernel
theorem dX12_isOnSide_49 : decode cX12_isOnSide 49 = .ok (.iconst 1, 1) := by decide +kernel
theorem dX12_isOnSide_50 : decode cX12_isOnSide 50 = .ok (.iadd, 1) := by decide +kernel
theorem dX12_isOnSide_51 : decode cX12_isOnSide 51 = .ok (.aload_n 1, 1) := by decide +kernel
theorem dX12_isOnSide_52 : decode cX12_isOnSide 52 = .ok (.invokeinterface 56 1, 5) := by decide +kernel
theorem dX12_isOnSide_57 : decode cX12_isOnSide 57 = .ok (.irem, 1) := by decide +kernel
theorem dX12_isOnSide_58 : decode cX12_isOnSide 58 = .ok (.invokeinterface 202 2, 5) := by decide +kernel
theorem dX12_isOnSide_63 : decode cX12_isOnSide 63 = .ok (.checkcast 190, 3) := by decide +kernel
theorem dX12_isOnSide_66 : decode cX12_isOnSide 66 = .ok (.invokevirtual 205, 3) := by decide +kernel
theorem dX12_isOnSide_69 : decode cX12_isOnSide 69 = .ok (.iload_n 2, 1) := by decide +kernel
theorem dX12_isOnSide_70 : decode cX12_isOnSide 70 = .ok (.invokevirtual 133, 3) := by decide +kernel
theorem dX12_isOnSide_73 : decode cX12_isOnSide 73 = .ok (.ifCond .ne 7, 3) := by decide +kernel
theorem dX12_isOnSide_76 : decode cX12_isOnSide 76 = .ok (.iconst 1, 1) := by decide +kernel
theorem dX12_isOnSide_77 : decode cX12_isOnSide 77 = .ok (.goto 4, 3) := by decide +kernel
theorem dX12_isOnSide_80 : decode cX12_isOnSide 80 = .ok (.iconst 0, 1) := by decide +kernel
theorem dX12_isOnSide_81 : decode cX12_isOnSide 81 = .ok (.ior, 1) := by decide +kernel
theorem dX12_isOnSide_82 : decode cX12_isOnSide 82 = .ok (.istore_n 3, 1) := by decide +kernel
theorem dX12_isOnSide_83 : decode cX12_isOnSide 83 = .ok (.iinc 4 1, 3) := by decide +kernel
theorem dX12_isOnSide_86 : decode cX12_isOnSide 86 = .ok (.goto (-67), 3) := by decide +kernel
theorem dX12_isOnSide_89 : decode cX12_isOnSide 89 = .ok (.iload_n 3, 1) := by decide +kernel
theorem dX12_isOnSide_90 : decode cX12_isOnSide 90 = .ok (.ireturn, 1) := by decide +kernel
theorem dX12_layer_0 : decode cX12_layer 0 = .ok (.aload_n 0, 1) := by decide +kernel
theorem dX12_layer_1 : decode cX12_layer 1 = .ok (.iload_n 1, 1) := by decide +kernel
theorem dX12_layer_2 : decode cX12_layer 2 = .ok (.invokevirtual 78, 3) := by decide +kernel
theorem dX12_layer_5 : decode cX12_layer 5 = .ok (.ifCond .eq 5, 3) := by decide +kernel
theorem dX12_layer_8 : decode cX12_layer 8 = .ok (.iconst 0, 1) := by decide +kernel
theorem dX12_layer_9 : decode cX12_layer 9 = .ok (.ireturn, 1) := by decide +kernel
theorem dX12_layer_10 : decode cX12_layer 10 = .ok (.aload_n 0, 1) := by decide +kernel
theorem dX12_layer_11 : decode cX12_layer 11 = .ok (.invokevirtual 195, 3) := by decide +kernel
theorem dX12_layer_14 : decode cX12_layer 14 = .ok (.istore_n 2, 1) := by decide +kernel
theorem dX12_layer_15 : decode cX12_layer 15 = .ok (.iconst 0, 1) := by decide +kernel
theorem dX12_layer_16 : decode cX12_layer 16 = .ok (.istore_n 3, 1) := by decide +kernel
theorem dX12_layer_17 : decode cX12_layer 17 = .ok (.iload_n 3, 1) := by decide +kernel
theorem dX12_layer_18 : decode cX12_layer 18 = .ok (.bipush 12, 2) := by decide +kernel
theorem dX12_layer_20 : decode cX12_layer 20 = .ok (.if_icmp .ge 76, 3) := by decide +kernel
theorem dX12_layer_23 : decode cX12_layer 23 = .ok (.aload_n 0, 1) := by decide +kernel
theorem dX12_layer_24 : decode cX12_layer 24 = .ok (.iload_n 2, 1) := by decide +kernel
theorem dX12_layer_25 : decode cX12_layer 25 = .ok (.invokevirtual 198, 3) := by decide +kernel
theorem dX12_layer_28 : decode cX12_layer 28 = .ok (.astore 4, 2) := by decide +kernel
theorem dX12_layer_30 : decode cX12_layer 30 = .ok (.iload_n 2, 1) := by decide +kernel
theorem dX12_layer_31 : decode cX12_layer 31 = .ok (.istore 5, 2) := by decide +kernel
theorem dX12_layer_33 : decode cX12_layer 33 = .ok (.iconst 0, 1) := by decide +kernel
theorem dX12_layer_34 : decode cX12_layer 34 = .ok (.istore 6, 2) := by decide +kernel
theorem dX12_layer_36 : decode cX12_layer 36 = .ok (.iload 6, 2) := by decide +kernel
theorem dX12_layer_38 : decode cX12_layer 38 = .ok (.bipush 12, 2) := by decide +kernel
theorem dX12_layer_40 : decode cX12_layer 40 = .ok (.if_icmp .ge 40, 3) := by decide +kernel
theorem dX12_layer_43 : decode cX12_layer 43 = .ok (.iload 5, 2) := by decide +kernel
theorem dX12_layer_45 : decode cX12_layer 45 = .ok (.iload 6, 2) := by decide +kernel
theorem dX12_layer_47 : decode cX12_layer 47 = .ok (.ishr, 1) := by decide +kernel
theorem dX12_layer_48 : decode cX12_layer 48 = .ok (.iconst 1, 1) := by decide +kernel
theorem dX12_layer_49 : decode cX12_layer 49 = .ok (.iand, 1) := by decide +kernel
theorem dX12_layer_50 : decode cX12_layer 50 = .ok (.iconst 1, 1) := by decide +kernel
theorem dX12_layer_51 : decode cX12_layer 51 = .ok (.if_icmp .ne 23, 3) := by decide +kernel
theorem dX12_layer_54 : decode cX12_layer 54 = .ok (.aload_n 0, 1) := by decide +kernel
theorem dX12_layer_55 : decode cX12_layer 55 = .ok (.aload 4, 2) := by decide +kernel
theorem dX12_layer_57 : decode cX12_layer 57 = .ok (.iload 6, 2) := by decide +kernel
theorem dX12_layer_59 : decode cX12_layer 59 = .ok (.invokevirtual 208, 3) := by decide +kernel
theorem dX12_layer_62 : decode cX12_layer 62 = .ok (.ifCond .eq 12, 3) := by decide +kernel
theorem dX12_layer_65 : decode cX12_layer 65 = .ok (.iload_n 2, 1) := by decide +kernel
theorem dX12_layer_66 : decode cX12_layer 66 = .ok (.iconst 1, 1) := by decide +kernel
theorem dX12_layer_67 : decode cX12_layer 67 = .ok (.iload 6, 2) := by decide +kernel
theorem dX12_layer_69 : decode cX12_layer 69 = .ok (.ishl, 1) := by decide +kernel
theorem dX12_layer_70 : decode cX12_layer 70 = .ok (.iconst (-1), 1) := by decide +kernel
theorem dX12_layer_71 : decode cX12_layer 71 = .ok (.ixor, 1) := by decide +kernel
theorem dX12_layer_72 : decode cX12_layer 72 = .ok (.iand, 1) := by decide +kernel
theorem dX12_layer_73 : decode cX12_layer 73 = .ok (.istore_n 2, 1) := by decide +kernel
theorem dX12_layer_74 : decode cX12_layer 74 = .ok (.iinc 6 1, 3) := by decide +kernel
theorem dX12_layer_77 : decode cX12_layer 77 = .ok (.goto (-41), 3) := by decide +kernel
theorem dX12_layer_80 : decode cX12_layer 80 = .ok (.iload_n 2, 1) := by decide +kernel
theorem dX12_layer_81 : decode cX12_layer 81 = .ok (.iload_n 1, 1) := by decide +kernel
theorem dX12_layer_82 : decode cX12_layer 82 = .ok (.ishr, 1) := by decide +kernel
theorem dX12_layer_83 : decode cX12_layer 83 = .ok (.iconst 1, 1) := by decide +kernel
theorem dX12_layer_84 : decode cX12_layer 84 = .ok (.iand, 1) := by decide +kernel
theorem dX12_layer_85 : decode cX12_layer 85 = .ok (.ifCond .ne 5, 3) := by decide +kernel
theorem dX12_layer_88 : decode cX12_layer 88 = .ok (.iload_n 3, 1) := by decide +kernel
theorem dX12_layer_89 : decode cX12_layer 89 = .ok (.ireturn, 1) := by decide +kernel
theorem dX12_layer_90 : decode cX12_layer 90 = .ok (.iinc 3 1, 3) := by decide +kernel
theorem dX12_layer_93 : decode cX12_layer 93 = .ok (.goto (-76), 3) := by decide +kernel
theorem dX12_layer_96 : decode cX12_layer 96 = .ok (.iconst 0, 1) := by decide +kernel
theorem dX12_layer_97 : decode cX12_layer 97 = .ok (.ireturn, 1) := by decide +kernel
theorem dX12_depth_0 : decode cX12_depth 0 = .ok (.aload_n 0, 1) := by decide +kernel
theorem dX12_depth_1 : decode cX12_depth 1 = .ok (.iload_n 1, 1) := by decide +kernel
theorem dX12_depth_2 : decode cX12_depth 2 = .ok (.invokevirtual 78, 3) := by decide +kernel
theorem dX12_depth_5 : decode cX12_depth 5 = .ok (.ifCond .eq 5, 3) := by decide +kernel
theorem dX12_depth_8 : decode cX12_depth 8 = .ok (.iconst 0, 1) := by decide +kernel
theorem dX12_depth_9 : decode cX12_depth 9 = .ok (.ireturn, 1) := by decide +kernel
theorem dX12_depth_10 : decode cX12_depth 10 = .ok (.aload_n 0, 1) := by decide +kernel
theorem dX12_depth_11 : decode cX12_depth 11 = .ok (.invokevirtual 72, 3) := by decide +kernel
theorem dX12_depth_14 : decode cX12_depth 14 = .ok (.istore_n 2, 1) := by decide +kernel
theorem dX12_depth_15 : decode cX12_depth 15 = .ok (.iconst 0, 1) := by decide +kernel
theorem dX12_depth_16 : decode cX12_depth 16 = .ok (.istore_n 3, 1) := by decide +kernel
theorem dX12_depth_17 : decode cX12_depth 17 = .ok (.iload_n 3, 1) := by decide +kernel
theorem dX12_depth_18 : decode cX12_depth 18 = .ok (.bipush 12, 2) := by decide +kernel
theorem dX12_depth_20 : decode cX12_depth 20 = .ok (.if_icmp .ge 272, 3) := by decide +kernel
theorem dX12_depth_23 : decode cX12_depth 23 = .ok (.aload_n 0, 1) := by decide +kernel
theorem dX12_depth_24 : decode cX12_depth 24 = .ok (.getfield 11, 3) := by decide +kernel
theorem dX12_depth_27 : decode cX12_depth 27 = .ok (.iload_n 3, 1) := by decide +kernel
theorem dX12_depth_28 : decode cX12_depth 28 = .ok (.aaload, 1) := by decide +kernel
theorem dX12_depth_29 : decode cX12_depth 29 = .ok (.ifnull 257, 3) := by decide +kernel
theorem dX12_depth_32 : decode cX12_depth 32 = .ok (.iload_n 3, 1) := by decide +kernel
theorem dX12_depth_33 : decode cX12_depth 33 = .ok (.iload_n 1, 1) := by decide +kernel
theorem dX12_depth_34 : decode cX12_depth 34 = .ok (.if_icmp .ne 6, 3) := by decide +kernel
theorem dX12_depth_37 : decode cX12_depth 37 = .ok (.goto 249, 3) := by decide +kernel
theorem dX12_depth_40 : decode cX12_depth 40 = .ok (.iconst 0, 1) := by decide +kernel
theorem dX12_depth_41 : decode cX12_depth 41 = .ok (.istore 4, 2) := by decide +kernel
theorem dX12_depth_43 : decode cX12_depth 43 = .ok (.iconst 0, 1) := by decide +kernel
theorem dX12_depth_44 : decode cX12_depth 44 = .ok (.istore 5, 2) := by decide +kernel
theorem dX12_depth_46 : decode cX12_depth 46 = .ok (.iconst 0, 1) := by decide +kernel
theorem dX12_depth_47 : decode cX12_depth 47 = .ok (.istore 6, 2) := by decide +kernel
theorem dX12_depth_49 : decode cX12_depth 49 = .ok (.iconst 0, 1) := by decide +kernel
theorem dX12_depth_50 : decode cX12_depth 50 = .ok (.istore 7, 2) := by decide +kernel
theorem dX12_depth_52 : decode cX12_depth 52 = .ok (.iconst 0, 1) := by decide +kernel
theorem dX12_depth_53 : decode cX12_depth 53 = .ok (.istore 8, 2) := by decide +kernel
theorem dX12_depth_55 : decode cX12_depth 55 = .ok (.iload 8, 2) := by decide +kernel
theorem dX12_depth_57 : decode cX12_depth 57 = .ok (.bipush 12, 2) := by decide +kernel
theorem dX12_depth_59 : decode cX12_depth 59 = .ok (.if_icmp .ge 191, 3) := by decide +kernel
theorem dX12_depth_62 : decode cX12_depth 62 = .ok (.aload_n 0, 1) := by decide +kernel
theorem dX12_depth_63 : decode cX12_depth 63 = .ok (.getfield 11, 3) := by decide +kernel
theorem dX12_depth_66 : decode cX12_depth 66 = .ok (.iload 8, 2) := by decide +kernel
theorem dX12_depth_68 : decode cX12_depth 68 = .ok (.aaload, 1) := by decide +kernel
theorem dX12_depth_69 : decode cX12_depth 69 = .ok (.ifnull 175, 3) := by decide +kernel
theorem dX12_depth_72 : decode cX12_depth 72 = .ok (.iload 8, 2) := by decide +kernel
theorem dX12_depth_74 : decode cX12_depth 74 = .ok (.iload_n 1, 1) := by decide +kernel
theorem dX12_depth_75 : decode cX12_depth 75 = .ok (.if_icmp .ne 6, 3) := by decide +kernel
theorem dX12_depth_78 : decode cX12_depth 78 = .ok (.goto 166, 3) := by decide +kernel
theorem dX12_depth_81 : decode cX12_depth 81 = .ok (.aload_n 0, 1) := by decide +kernel
theorem dX12_depth_82 : decode cX12_depth 82 = .ok (.iload_n 1, 1) := by decide +kernel
theorem dX12_depth_83 : decode cX12_depth 83 = .ok (.iload_n 3, 1) := by decide +kernel
theorem dX12_depth_84 : decode cX12_depth 84 = .ok (.iload 8, 2) := by decide +kernel
theorem dX12_depth_86 : decode cX12_depth 86 = .ok (.invokevirtual 133, 3) := by decide +kernel
theorem dX12_depth_89 : decode cX12_depth 89 = .ok (.istore 9, 2) := by decide +kernel
theorem dX12_depth_91 : decode cX12_depth 91 = .ok (.aload_n 0, 1) := by decide +kernel
theorem dX12_depth_92 : decode cX12_depth 92 = .ok (.getfield 11, 3) := by decide +kernel
theorem dX12_depth_95 : decode cX12_depth 95 = .ok (.iload_n 3, 1) := by decide +kernel
theorem dX12_depth_96 : decode cX12_depth 96 = .ok (.aaload, 1) := by decide +kernel
theorem dX12_depth_97 : decode cX12_depth 97 = .ok (.iconst 0, 1) := by decide +kernel
theorem dX12_depth_98 : decode cX12_depth 98 = .ok (.iaload, 1) := by decide +kernel
theorem dX12_depth_99 : decode cX12_depth 99 = .ok (.aload_n 0, 1) := by decide +kernel
theorem dX12_depth_100 : decode cX12_depth 100 = .ok (.getfield 11, 3) := by decide +kernel
theorem dX12_depth_103 : decode cX12_depth 103 = .ok (.iload_n 1, 1) := by decide +kernel
theorem dX12_depth_104 : decode cX12_depth 104 = .ok (.aaload, 1) := by decide +kernel
theorem dX12_depth_105 : decode cX12_depth 105 = .ok (.iconst 0, 1) := by decide +kernel
theorem dX12_depth_106 : decode cX12_depth 106 = .ok (.iaload, 1) := by decide +kernel
theorem dX12_depth_107 : decode cX12_depth 107 = .ok (.isub, 1) := by decide +kernel
theorem dX12_depth_108 : decode cX12_depth 108 = .ok (.i2l, 1) := by decide +kernel
theorem dX12_depth_109 : decode cX12_depth 109 = .ok (.aload_n 0, 1) := by decide +kernel
theorem dX12_depth_110 : decode cX12_depth 110 = .ok (.getfield 11, 3) := by decide +kernel
theorem dX12_depth_113 : decode cX12_depth 113 = .ok (.iload 8, 2) := by decide +kernel
theorem dX12_depth_115 : decode cX12_depth 115 = .ok (.aaload, 1) := by decide +kernel
theorem dX12_depth_116 : decode cX12_depth 116 = .ok (.iconst 0, 1) := by decide +kernel
theorem dX12_depth_117 : decode cX12_depth 117 = .ok (.iaload, 1) := by decide +kernel
theorem dX12_depth_118 : decode cX12_depth 118 = .ok (.aload_n 0, 1) := by decide +kernel
theorem dX12_depth_119 : decode cX12_depth 119 = .ok (.getfield 11, 3) := by decide +kernel
theorem dX12_depth_122 : decode cX12_depth 122 = .ok (.iload_n 1, 1) := by decide +kernel
theorem dX12_depth_123 : decode cX12_depth 123 = .ok (.aaload, 1) := by decide +kernel
theorem dX12_depth_124 : decode cX12_depth 124 = .ok (.iconst 0, 1) := by decide +kernel
theorem dX12_depth_125 : decode cX12_depth 125 = .ok (.iaload, 1) := by decide +kernel
theorem dX12_depth_126 : decode cX12_depth 126 = .ok (.isub, 1) := by decide +kernel
theorem dX12_depth_127 : decode cX12_depth 127 = .ok (.i2l, 1) := by decide +kernel
theorem dX12_depth_128 : decode cX12_depth 128 = .ok (.lmul, 1) := by decide +kernel
theorem dX12_depth_129 : decode cX12_depth 129 = .ok (.aload_n 0, 1) := by decide +kernel
theorem dX12_depth_130 : decode cX12_depth 130 = .ok (.getfield 11, 3) := by decide +kernel
theorem dX12_depth_133 : decode cX12_depth 133 = .ok (.iload_n 3, 1) := by decide +kernel
theorem dX12_depth_134 : decode cX12_depth 134 = .ok (.aaload, 1) := by decide +kernel
theorem dX12_depth_135 : decode cX12_depth 135 = .ok (.iconst 1, 1) := by decide +kernel
theorem dX12_depth_136 : decode cX12_depth 136 = .ok (.iaload, 1) := by decide +kernel
theorem dX12_depth_137 : decode cX12_depth 137 = .ok (.aload_n 0, 1) := by decide +kernel
theorem dX12_depth_138 : decode cX12_depth 138 = .ok (.getfield 11, 3) := by decide +kernel
theorem dX12_depth_141 : decode cX12_depth 141 = .ok (.iload_n 1, 1) := by decide +kernel
theorem dX12_depth_142 : decode cX12_depth 142 = .ok (.aaload, 1) := by decide +kernel
theorem dX12_depth_143 : decode cX12_depth 143 = .ok (.iconst 1, 1) := by decide +kernel
theorem dX12_depth_144 : decode cX12_depth 144 = .ok (.iaload, 1) := by decide +kernel
theorem dX12_depth_145 : decode cX12_depth 145 = .ok (.isub, 1) := by decide +kernel
theorem dX12_depth_146 : decode cX12_depth 146 = .ok (.i2l, 1) := by decide +kernel
theorem dX12_depth_147 : decode cX12_depth 147 = .ok (.aload_n 0, 1) := by decide +kernel
theorem dX12_depth_148 : decode cX12_depth 148 = .ok (.getfield 11, 3) := by decide +kernel
theorem dX12_depth_151 : decode cX12_depth 151 = .ok (.iload 8, 2) := by decide +kernel
theorem dX12_depth_153 : decode cX12_depth 153 = .ok (.aaload, 1) := by decide +kernel
theorem dX12_depth_154 : decode cX12_depth 154 = .ok (.iconst 1, 1) := by decide +kernel
theorem dX12_depth_155 : decode cX12_depth 155 = .ok (.iaload, 1) := by decide +kernel
theorem dX12_depth_156 : decode cX12_depth 156 = .ok (.aload_n 0, 1) := by decide +kernel
theorem dX12_depth_157 : decode cX12_depth 157 = .ok (.getfield 11, 3) := by decide +kernel
theorem dX12_depth_160 : decode cX12_depth 160 = .ok (.iload_n 1, 1) := by decide +kernel
theorem dX12_depth_161 : decode cX12_depth 161 = .ok (.aaload, 1) := by decide +kernel
theorem dX12_depth_162 : decode cX12_depth 162 = .ok (.iconst 1, 1) := by decide +kernel
theorem dX12_depth_163 : decode cX12_depth 163 = .ok (.iaload, 1) := by decide +kernel
theorem dX12_depth_164 : decode cX12_depth 164 = .ok (.isub, 1) := by decide +kernel
theorem dX12_depth_165 : decode cX12_depth 165 = .ok (.i2l, 1) := by decide +kernel
theorem dX12_depth_166 : decode cX12_depth 166 = .ok (.lmul, 1) := by decide +kernel
theorem dX12_depth_167 : decode cX12_depth 167 = .ok (.ladd, 1) := by decide +kernel
theorem dX12_depth_168 : decode cX12_depth 168 = .ok (.lstore 10, 2) := by decide +kernel
theorem dX12_depth_170 : decode cX12_depth 170 = .ok (.iload 4, 2) := by decide +kernel
theorem dX12_depth_172 : decode cX12_depth 172 = .ok (.iload 9, 2) := by decide +kernel
theorem dX12_depth_174 : decode cX12_depth 174 = .ok (.ifCond .le 7, 3) := by decide +kernel
theorem dX12_depth_177 : decode cX12_depth 177 = .ok (.iconst 1, 1) := by decide +kernel
theorem dX12_depth_178 : decode cX12_depth 178 = .ok (.goto 4, 3) := by decide +kernel
theorem dX12_depth_181 : decode cX12_depth 181 = .ok (.iconst 0, 1) := by decide +kernel
theorem dX12_depth_182 : decode cX12_depth 182 = .ok (.iadd, 1) := by decide +kernel
theorem dX12_depth_183 : decode cX12_depth 183 = .ok (.istore 4, 2) := by decide +kernel
theorem dX12_depth_185 : decode cX12_depth 185 = .ok (.iload 5, 2) := by decide +kernel
theorem dX12_depth_187 : decode cX12_depth 187 = .ok (.iload 9, 2) := by decide +kernel
theorem dX12_depth_189 : decode cX12_depth 189 = .ok (.ifCond .ge 7, 3) := by decide +kernel
theorem dX12_depth_192 : decode cX12_depth 192 = .ok (.iconst 1, 1) := by decide +kernel
theorem dX12_depth_193 : decode cX12_depth 193 = .ok (.goto 4, 3) := by decide +kernel
theorem dX12_depth_196 : decode cX12_depth 196 = .ok (.iconst 0, 1) := by decide +kernel
theorem dX12_depth_197 : decode cX12_depth 197 = .ok (.iadd, 1) := by decide +kernel
theorem dX12_depth_198 : decode cX12_depth 198 = .ok (.istore 5, 2) := by decide +kernel
theorem dX12_depth_200 : decode cX12_depth 200 = .ok (.iload 6, 2) := by decide +kernel
theorem dX12_depth_202 : decode cX12_depth 202 = .ok (.iload 9, 2) := by decide +kernel
theorem dX12_depth_204 : decode cX12_depth 204 = .ok (.ifCond .ne 14, 3) := by decide +kernel
theorem dX12_depth_207 : decode cX12_depth 207 = .ok (.lload 10, 2) := by decide +kernel
theorem dX12_depth_209 : decode cX12_depth 209 = .ok (.lconst 0, 1) := by decide +kernel
theorem dX12_depth_210 : decode cX12_depth 210 = .ok (.lcmp, 1) := by decide +kernel
theorem dX12_depth_211 : decode cX12_depth 211 = .ok (.ifCond .le 7, 3) := by decide +kernel
theorem dX12_depth_214 : decode cX12_depth 214 = .ok (.iconst 1, 1) := by decide +kernel
theorem dX12_depth_215 : decode cX12_depth 215 = .ok (.goto 4, 3) := by decide +kernel
theorem dX12_depth_218 : decode cX12_depth 218 = .ok (.iconst 0, 1) := by decide +kernel
theorem dX12_depth_219 : decode cX12_depth 219 = .ok (.iadd, 1) := by decide +kernel
theorem dX12_depth_220 : decode cX12_depth 220 = .ok (.istore 6, 2) := by decide +kernel
theorem dX12_depth_222 : decode cX12_depth 222 = .ok (.iload 7, 2) := by decide +kernel
theorem dX12_depth_224 : decode cX12_depth 224 = .ok (.iload 9, 2) := by decide +kernel
theorem dX12_depth_226 : decode cX12_depth 226 = .ok (.ifCond .ne 14, 3) := by decide +kernel
theorem dX12_depth_229 : decode cX12_depth 229 = .ok (.lload 10, 2) := by decide +kernel
theorem dX12_depth_231 : decode cX12_depth 231 = .ok (.lconst 0, 1) := by decide +kernel
theorem dX12_depth_232 : decode cX12_depth 232 = .ok (.lcmp, 1) := by decide +kernel
theorem dX12_depth_233 : decode cX12_depth 233 = .ok (.ifCond .ge 7, 3) := by decide +kernel
theorem dX12_depth_236 : decode cX12_depth 236 = .ok (.iconst 1, 1) := by decide +kernel
theorem dX12_depth_237 : decode cX12_depth 237 = .ok (.goto 4, 3) := by decide +kernel
theorem dX12_depth_240 : decode cX12_depth 240 = .ok (.iconst 0, 1) := by decide +kernel
theorem dX12_depth_241 : decode cX12_depth 241 = .ok (.iadd, 1) := by decide +kernel
theorem dX12_depth_242 : decode cX12_depth 242 = .ok (.istore 7, 2) := by decide +kernel
theorem dX12_depth_244 : decode cX12_depth 244 = .ok (.iinc 8 1, 3) := by decide +kernel
theorem dX12_depth_247 : decode cX12_depth 247 = .ok (.goto (-192), 3) := by decide +kernel
theorem dX12_depth_250 : decode cX12_depth 250 = .ok (.iload_n 2, 1) := by decide +kernel
theorem dX12_depth_251 : decode cX12_depth 251 = .ok (.iconst 1, 1) := by decide +kernel
theorem dX12_depth_252 : decode cX12_depth 252 = .ok (.iload 4, 2) := by decide +kernel
theorem dX12_depth_254 : decode cX12_depth 254 = .ok (.iload 6, 2) := by decide +kernel
theorem dX12_depth_256 : decode cX12_depth 256 = .ok (.iadd, 1) := by decide +kernel
theorem dX12_depth_257 : decode cX12_depth 257 = .ok (.iload 5, 2) := by decide +kernel
theorem dX12_depth_259 : decode cX12_depth 259 = .ok (.iload 7, 2) := by decide +kernel
theorem dX12_depth_261 : decode cX12_depth 261 = .ok (.iadd, 1) := by decide +kernel
theorem dX12_depth_262 : decode cX12_depth 262 = .ok (.invokestatic 144, 3) := by decide +kernel
theorem dX12_depth_265 : decode cX12_depth 265 = .ok (.iload 4, 2) := by decide +kernel
theorem dX12_depth_267 : decode cX12_depth 267 = .ok (.iload 7, 2) := by decide +kernel
theorem dX12_depth_269 : decode cX12_depth 269 = .ok (.iadd, 1) := by decide +kernel
theorem dX12_depth_270 : decode cX12_depth 270 = .ok (.iload 5, 2) := by decide +kernel
theorem dX12_depth_272 : decode cX12_depth 272 = .ok (.iload 6, 2) := by decide +kernel
theorem dX12_depth_274 : decode cX12_depth 274 = .ok (.iadd, 1) := by decide +kernel
theorem dX12_depth_275 : decode cX12_depth 275 = .ok (.invokestatic 144, 3) := by decide +kernel
theorem dX12_depth_278 : decode cX12_depth 278 = .ok (.invokestatic 144, 3) := by decide +kernel
theorem dX12_depth_281 : decode cX12_depth 281 = .ok (.iadd, 1) := by decide +kernel
theorem dX12_depth_282 : decode cX12_depth 282 = .ok (.invokestatic 144, 3) := by decide +kernel
theorem dX12_depth_285 : decode cX12_depth 285 = .ok (.istore_n 2, 1) := by decide +kernel
theorem dX12_depth_286 : decode cX12_depth 286 = .ok (.iinc 3 1, 3) := by decide +kernel
theorem dX12_depth_289 : decode cX12_depth 289 = .ok (.goto (-272), 3) := by decide +kernel
theorem dX12_depth_292 : decode cX12_depth 292 = .ok (.iload_n 2, 1) := by decide +kernel
theorem dX12_depth_293 : decode cX12_depth 293 = .ok (.ireturn, 1) := by decide +kernel
theorem dX12_parts_0 : decode cX12_parts 0 = .ok (.iconst 0, 1) := by decide +kernel
theorem dX12_parts_1 : decode cX12_parts 1 = .ok (.istore_n 2, 1) := by decide +kernel
theorem dX12_parts_2 : decode cX12_parts 2 = .ok (.iload_n 1, 1) := by decide +kernel
theorem dX12_parts_3 : decode cX12_parts 3 = .ok (.istore_n 3, 1) := by decide +kernel
theorem dX12_parts_4 : decode cX12_parts 4 = .ok (.iload_n 3, 1) := by decide +kernel
theorem dX12_parts_5 : decode cX12_parts 5 = .ok (.ifCond .eq 104, 3) := by decide +kernel
theorem dX12_parts_8 : decode cX12_parts 8 = .ok (.iload_n 3, 1) := by decide +kernel
theorem dX12_parts_9 : decode cX12_parts 9 = .ok (.iload_n 3, 1) := by decide +kernel
theorem dX12_parts_10 : decode cX12_parts 10 = .ok (.ineg, 1) := by decide +kernel
theorem dX12_parts_11 : decode cX12_parts 11 = .ok (.iand, 1) := by decide +kernel
theorem dX12_parts_12 : decode cX12_parts 12 = .ok (.istore 4, 2) := by decide +kernel
theorem dX12_parts_14 : decode cX12_parts 14 = .ok (.iconst 0, 1) := by decide +kernel
theorem dX12_parts_15 : decode cX12_parts 15 = .ok (.istore 5, 2) := by decide +kernel
theorem dX12_parts_17 : decode cX12_parts 17 = .ok (.iload 5, 2) := by decide +kernel
theorem dX12_parts_19 : decode cX12_parts 19 = .ok (.bipush 12, 2) := by decide +kernel
theorem dX12_parts_21 : decode cX12_parts 21 = .ok (.if_icmp .ge 75, 3) := by decide +kernel
theorem dX12_parts_24 : decode cX12_parts 24 = .ok (.iconst 0, 1) := by decide +kernel
theorem dX12_parts_25 : decode cX12_parts 25 = .ok (.istore 6, 2) := by decide +kernel
theorem dX12_parts_27 : decode cX12_parts 27 = .ok (.iload 6, 2) := by decide +kernel
theorem dX12_parts_29 : decode cX12_parts 29 = .ok (.bipush 12, 2) := by decide +kernel
theorem dX12_parts_31 : decode cX12_parts 31 = .ok (.if_icmp .ge 59, 3) := by decide +kernel
theorem dX12_parts_34 : decode cX12_parts 34 = .ok (.iconst 0, 1) := by decide +kernel
theorem dX12_parts_35 : decode cX12_parts 35 = .ok (.istore 7, 2) := by decide +kernel
theorem dX12_parts_37 : decode cX12_parts 37 = .ok (.iload 7, 2) := by decide +kernel
theorem dX12_parts_39 : decode cX12_parts 39 = .ok (.bipush 12, 2) := by decide +kernel
theorem dX12_parts_41 : decode cX12_parts 41 = .ok (.if_icmp .ge 43, 3) := by decide +kernel
theorem dX12_parts_44 : decode cX12_parts 44 = .ok (.iload 4, 2) := by decide +kernel
theorem dX12_parts_46 : decode cX12_parts 46 = .ok (.iload 4, 2) := by decide +kernel
theorem dX12_parts_48 : decode cX12_parts 48 = .ok (.iload 6, 2) := by decide +kernel
theorem dX12_parts_50 : decode cX12_parts 50 = .ok (.ishr, 1) := by decide +kernel
theorem dX12_parts_51 : decode cX12_parts 51 = .ok (.iconst 1, 1) := by decide +kernel
theorem dX12_parts_52 : decode cX12_parts 52 = .ok (.iand, 1) := by decide +kernel
theorem dX12_parts_53 : decode cX12_parts 53 = .ok (.iconst 1, 1) := by decide +kernel
theorem dX12_parts_54 : decode cX12_parts 54 = .ok (.if_icmp .ne 20, 3) := by decide +kernel
theorem dX12_parts_57 : decode cX12_parts 57 = .ok (.aload_n 0, 1) := by decide +kernel
theorem dX12_parts_58 : decode cX12_parts 58 = .ok (.iload 6, 2) := by decide +kernel
theorem dX12_parts_60 : decode cX12_parts 60 = .ok (.aaload, 1) := by decide +kernel
theorem dX12_parts_61 : decode cX12_parts 61 = .ok (.iload 7, 2) := by decide +kernel
theorem dX12_parts_63 : decode cX12_parts 63 = .ok (.baload, 1) := by decide +kernel
theorem dX12_parts_64 : decode cX12_parts 64 = .ok (.ifCond .eq 10, 3) := by decide +kernel
theorem dX12_parts_67 : decode cX12_parts 67 = .ok (.iconst 1, 1) := by decide +kernel
theorem dX12_parts_68 : decode cX12_parts 68 = .ok (.iload 7, 2) := by decide +kernel
theorem dX12_parts_70 : decode cX12_parts 70 = .ok (.ishl, 1) := by decide +kernel
theorem dX12_parts_71 : decode cX12_parts 71 = .ok (.goto 4, 3) := by decide +kernel
theorem dX12_parts_74 : decode cX12_parts 74 = .ok (.iconst 0, 1) := by decide +kernel
theorem dX12_parts_75 : decode cX12_parts 75 = .ok (.ior, 1) := by decide +kernel
theorem dX12_parts_76 : decode cX12_parts 76 = .ok (.istore 4, 2) := by decide +kernel
theorem dX12_parts_78 : decode cX12_parts 78 = .ok (.iinc 7 1, 3) := by decide +kernel
theorem dX12_parts_81 : decode cX12_parts 81 = .ok (.goto (-44), 3) := by decide +kernel
theorem dX12_parts_84 : decode cX12_parts 84 = .ok (.iinc 6 1, 3) := by decide +kernel
theorem dX12_parts_87 : decode cX12_parts 87 = .ok (.goto (-60), 3) := by decide +kernel
theorem dX12_parts_90 : decode cX12_parts 90 = .ok (.iinc 5 1, 3) := by decide +kernel
theorem dX12_parts_93 : decode cX12_parts 93 = .ok (.goto (-76), 3) := by decide +kernel
theorem dX12_parts_96 : decode cX12_parts 96 = .ok (.iload_n 3, 1) := by decide +kernel
theorem dX12_parts_97 : decode cX12_parts 97 = .ok (.iload 4, 2) := by decide +kernel
theorem dX12_parts_99 : decode cX12_parts 99 = .ok (.iconst (-1), 1) := by decide +kernel
theorem dX12_parts_100 : decode cX12_parts 100 = .ok (.ixor, 1) := by decide +kernel
theorem dX12_parts_101 : decode cX12_parts 101 = .ok (.iand, 1) := by decide +kernel
theorem dX12_parts_102 : decode cX12_parts 102 = .ok (.istore_n 3, 1) := by decide +kernel
theorem dX12_parts_103 : decode cX12_parts 103 = .ok (.iinc 2 1, 3) := by decide +kernel
theorem dX12_parts_106 : decode cX12_parts 106 = .ok (.goto (-102), 3) := by decide +kernel
theorem dX12_parts_109 : decode cX12_parts 109 = .ok (.iload_n 2, 1) := by decide +kernel
theorem dX12_parts_110 : decode cX12_parts 110 = .ok (.ireturn, 1) := by decide +kernel
theorem dX12_joined_0 : decode cX12_joined 0 = .ok (.aload_n 0, 1) := by decide +kernel
theorem dX12_joined_1 : decode cX12_joined 1 = .ok (.invokevirtual 183, 3) := by decide +kernel
theorem dX12_joined_4 : decode cX12_joined 4 = .ok (.astore_n 2, 1) := by decide +kernel
theorem dX12_joined_5 : decode cX12_joined 5 = .ok (.iconst 0, 1) := by decide +kernel
theorem dX12_joined_6 : decode cX12_joined 6 = .ok (.istore_n 3, 1) := by decide +kernel
theorem dX12_joined_7 : decode cX12_joined 7 = .ok (.iload_n 3, 1) := by decide +kernel
theorem dX12_joined_8 : decode cX12_joined 8 = .ok (.bipush 12, 2) := by decide +kernel
theorem dX12_joined_10 : decode cX12_joined 10 = .ok (.if_icmp .ge 62, 3) := by decide +kernel
theorem dX12_joined_13 : decode cX12_joined 13 = .ok (.iconst 0, 1) := by decide +kernel
theorem dX12_joined_14 : decode cX12_joined 14 = .ok (.istore 4, 2) := by decide +kernel
theorem dX12_joined_16 : decode cX12_joined 16 = .ok (.iload 4, 2) := by decide +kernel
theorem dX12_joined_18 : decode cX12_joined 18 = .ok (.bipush 12, 2) := by decide +kernel
theorem dX12_joined_20 : decode cX12_joined 20 = .ok (.if_icmp .ge 46, 3) := by decide +kernel
theorem dX12_joined_23 : decode cX12_joined 23 = .ok (.aload_n 2, 1) := by decide +kernel
theorem dX12_joined_24 : decode cX12_joined 24 = .ok (.iload_n 3, 1) := by decide +kernel
theorem dX12_joined_25 : decode cX12_joined 25 = .ok (.aaload, 1) := by decide +kernel
theorem dX12_joined_26 : decode cX12_joined 26 = .ok (.iload 4, 2) := by decide +kernel
theorem dX12_joined_28 : decode cX12_joined 28 = .ok (.aload_n 2, 1) := by decide +kernel
theorem dX12_joined_29 : decode cX12_joined 29 = .ok (.iload_n 3, 1) := by decide +kernel
theorem dX12_joined_30 : decode cX12_joined 30 = .ok (.aaload, 1) := by decide +kernel
theorem dX12_joined_31 : decode cX12_joined 31 = .ok (.iload 4, 2) := by decide +kernel
theorem dX12_joined_33 : decode cX12_joined 33 = .ok (.baload, 1) := by decide +kernel
theorem dX12_joined_34 : decode cX12_joined 34 = .ok (.ifCond .eq 24, 3) := by decide +kernel
theorem dX12_joined_37 : decode cX12_joined 37 = .ok (.aload_n 0, 1) := by decide +kernel
theorem dX12_joined_38 : decode cX12_joined 38 = .ok (.iload_n 3, 1) := by decide +kernel
theorem dX12_joined_39 : decode cX12_joined 39 = .ok (.iload 4, 2) := by decide +kernel
theorem dX12_joined_41 : decode cX12_joined 41 = .ok (.invokevirtual 160, 3) := by decide +kernel
theorem dX12_joined_44 : decode cX12_joined 44 = .ok (.ldc2_w 212, 3) := by decide +kernel
theorem dX12_joined_47 : decode cX12_joined 47 = .ok (.iload_n 1, 1) := by decide +kernel
theorem dX12_joined_48 : decode cX12_joined 48 = .ok (.i2l, 1) := by decide +kernel
theorem dX12_joined_49 : decode cX12_joined 49 = .ok (.lmul, 1) := by decide +kernel
theorem dX12_joined_50 : decode cX12_joined 50 = .ok (.lcmp, 1) := by decide +kernel
theorem dX12_joined_51 : decode cX12_joined 51 = .ok (.ifCond .gt 7, 3) := by decide +kernel
theorem dX12_joined_54 : decode cX12_joined 54 = .ok (.iconst 1, 1) := by decide +kernel
theorem dX12_joined_55 : decode cX12_joined 55 = .ok (.goto 4, 3) := by decide +kernel
theorem dX12_joined_58 : decode cX12_joined 58 = .ok (.iconst 0, 1) := by decide +kernel
theorem dX12_joined_59 : decode cX12_joined 59 = .ok (.bastore, 1) := by decide +kernel
theorem dX12_joined_60 : decode cX12_joined 60 = .ok (.iinc 4 1, 3) := by decide +kernel
theorem dX12_joined_63 : decode cX12_joined 63 = .ok (.goto (-47), 3) := by decide +kernel
theorem dX12_joined_66 : decode cX12_joined 66 = .ok (.iinc 3 1, 3) := by decide +kernel
theorem dX12_joined_69 : decode cX12_joined 69 = .ok (.goto (-62), 3) := by decide +kernel
theorem dX12_joined_72 : decode cX12_joined 72 = .ok (.aload_n 2, 1) := by decide +kernel
theorem dX12_joined_73 : decode cX12_joined 73 = .ok (.areturn, 1) := by decide +kernel
theorem dX12_countParts_0 : decode cX12_countParts 0 = .ok (.aload_n 0, 1) := by decide +kernel
theorem dX12_countParts_1 : decode cX12_countParts 1 = .ok (.iload_n 1, 1) := by decide +kernel
theorem dX12_countParts_2 : decode cX12_countParts 2 = .ok (.i2l, 1) := by decide +kernel
theorem dX12_countParts_3 : decode cX12_countParts 3 = .ok (.lconst 0, 1) := by decide +kernel
theorem dX12_countParts_4 : decode cX12_countParts 4 = .ok (.ldc2_w 214, 3) := by decide +kernel
theorem dX12_countParts_7 : decode cX12_countParts 7 = .ok (.invokestatic 29, 3) := by decide +kernel
theorem dX12_countParts_10 : decode cX12_countParts 10 = .ok (.ifCond .eq 7, 3) := by decide +kernel
theorem dX12_countParts_13 : decode cX12_countParts 13 = .ok (.iconst 0, 1) := by decide +kernel
theorem dX12_countParts_14 : decode cX12_countParts 14 = .ok (.goto 4, 3) := by decide +kernel
theorem dX12_countParts_17 : decode cX12_countParts 17 = .ok (.iconst 1, 1) := by decide +kernel
theorem dX12_countParts_18 : decode cX12_countParts 18 = .ok (.invokevirtual 39, 3) := by decide +kernel
theorem dX12_countParts_21 : decode cX12_countParts 21 = .ok (.ifCond .eq 7, 3) := by decide +kernel
theorem dX12_countParts_24 : decode cX12_countParts 24 = .ok (.iconst 0, 1) := by decide +kernel
theorem dX12_countParts_25 : decode cX12_countParts 25 = .ok (.goto 15, 3) := by decide +kernel
theorem dX12_countParts_28 : decode cX12_countParts 28 = .ok (.aload_n 0, 1) := by decide +kernel
theorem dX12_countParts_29 : decode cX12_countParts 29 = .ok (.iload_n 1, 1) := by decide +kernel
theorem dX12_countParts_30 : decode cX12_countParts 30 = .ok (.invokevirtual 216, 3) := by decide +kernel
theorem dX12_countParts_33 : decode cX12_countParts 33 = .ok (.aload_n 0, 1) := by decide +kernel
theorem dX12_countParts_34 : decode cX12_countParts 34 = .ok (.invokevirtual 195, 3) := by decide +kernel
theorem dX12_countParts_37 : decode cX12_countParts 37 = .ok (.invokestatic 220, 3) := by decide +kernel
theorem dX12_countParts_40 : decode cX12_countParts 40 = .ok (.ireturn, 1) := by decide +kernel
theorem dX12_isFilled_0 : decode cX12_isFilled 0 = .ok (.aload_n 0, 1) := by decide +kernel
theorem dX12_isFilled_1 : decode cX12_isFilled 1 = .ok (.getfield 11, 3) := by decide +kernel
theorem dX12_isFilled_4 : decode cX12_isFilled 4 = .ok (.iload_n 1, 1) := by decide +kernel
theorem dX12_isFilled_5 : decode cX12_isFilled 5 = .ok (.aaload, 1) := by decide +kernel
theorem dX12_isFilled_6 : decode cX12_isFilled 6 = .ok (.aload_n 0, 1) := by decide +kernel
theorem dX12_isFilled_7 : decode cX12_isFilled 7 = .ok (.getfield 11, 3) := by decide +kernel
theorem dX12_isFilled_10 : decode cX12_isFilled 10 = .ok (.iload_n 2, 1) := by decide +kernel
theorem dX12_isFilled_11 : decode cX12_isFilled 11 = .ok (.aaload, 1) := by decide +kernel
theorem dX12_isFilled_12 : decode cX12_isFilled 12 = .ok (.aload_n 0, 1) := by decide +kernel
theorem dX12_isFilled_13 : decode cX12_isFilled 13 = .ok (.getfield 11, 3) := by decide +kernel
theorem dX12_isFilled_16 : decode cX12_isFilled 16 = .ok (.iload_n 3, 1) := by decide +kernel
theorem dX12_isFilled_17 : decode cX12_isFilled 17 = .ok (.aaload, 1) := by decide +kernel
theorem dX12_isFilled_18 : decode cX12_isFilled 18 = .ok (.invokestatic 123, 3) := by decide +kernel
theorem dX12_isFilled_21 : decode cX12_isFilled 21 = .ok (.lstore 5, 2) := by decide +kernel
theorem dX12_isFilled_23 : decode cX12_isFilled 23 = .ok (.aload_n 0, 1) := by decide +kernel
theorem dX12_isFilled_24 : decode cX12_isFilled 24 = .ok (.iload_n 1, 1) := by decide +kernel
theorem dX12_isFilled_25 : decode cX12_isFilled 25 = .ok (.iload_n 2, 1) := by decide +kernel
theorem dX12_isFilled_26 : decode cX12_isFilled 26 = .ok (.invokevirtual 160, 3) := by decide +kernel
theorem dX12_isFilled_29 : decode cX12_isFilled 29 = .ok (.aload_n 0, 1) := by decide +kernel
theorem dX12_isFilled_30 : decode cX12_isFilled 30 = .ok (.iload_n 2, 1) := by decide +kernel
theorem dX12_isFilled_31 : decode cX12_isFilled 31 = .ok (.iload_n 3, 1) := by decide +kernel
theorem dX12_isFilled_32 : decode cX12_isFilled 32 = .ok (.invokevirtual 160, 3) := by decide +kernel
theorem dX12_isFilled_35 : decode cX12_isFilled 35 = .ok (.lmul, 1) := by decide +kernel
theorem dX12_isFilled_36 : decode cX12_isFilled 36 = .ok (.aload_n 0, 1) := by decide +kernel
theorem dX12_isFilled_37 : decode cX12_isFilled 37 = .ok (.iload_n 1, 1) := by decide +kernel
theorem dX12_isFilled_38 : decode cX12_isFilled 38 = .ok (.iload_n 3, 1) := by decide +kernel
theorem dX12_isFilled_39 : decode cX12_isFilled 39 = .ok (.invokevirtual 160, 3) := by decide +kernel
theorem dX12_isFilled_42 : decode cX12_isFilled 42 = .ok (.lmul, 1) := by decide +kernel
theorem dX12_isFilled_43 : decode cX12_isFilled 43 = .ok (.ldc2_w 212, 3) := by decide +kernel
theorem dX12_isFilled_46 : decode cX12_isFilled 46 = .ok (.lload 5, 2) := by decide +kernel
theorem dX12_isFilled_48 : decode cX12_isFilled 48 = .ok (.lmul, 1) := by decide +kernel
theorem dX12_isFilled_49 : decode cX12_isFilled 49 = .ok (.lload 5, 2) := by decide +kernel
theorem dX12_isFilled_51 : decode cX12_isFilled 51 = .ok (.lmul, 1) := by decide +kernel
theorem dX12_isFilled_52 : decode cX12_isFilled 52 = .ok (.iload 4, 2) := by decide +kernel
theorem dX12_isFilled_54 : decode cX12_isFilled 54 = .ok (.i2l, 1) := by decide +kernel
theorem dX12_isFilled_55 : decode cX12_isFilled 55 = .ok (.lmul, 1) := by decide +kernel
theorem dX12_isFilled_56 : decode cX12_isFilled 56 = .ok (.lcmp, 1) := by decide +kernel
theorem dX12_isFilled_57 : decode cX12_isFilled 57 = .ok (.ifCond .gt 7, 3) := by decide +kernel
theorem dX12_isFilled_60 : decode cX12_isFilled 60 = .ok (.iconst 1, 1) := by decide +kernel
theorem dX12_isFilled_61 : decode cX12_isFilled 61 = .ok (.goto 4, 3) := by decide +kernel
theorem dX12_isFilled_64 : decode cX12_isFilled 64 = .ok (.iconst 0, 1) := by decide +kernel
theorem dX12_isFilled_65 : decode cX12_isFilled 65 = .ok (.ireturn, 1) := by decide +kernel
theorem dX12_countHoles_0 : decode cX12_countHoles 0 = .ok (.aload_n 0, 1) := by decide +kernel
theorem dX12_countHoles_1 : decode cX12_countHoles 1 = .ok (.iload_n 1, 1) := by decide +kernel
theorem dX12_countHoles_2 : decode cX12_countHoles 2 = .ok (.i2l, 1) := by decide +kernel
theorem dX12_countHoles_3 : decode cX12_countHoles 3 = .ok (.lconst 0, 1) := by decide +kernel
theorem dX12_countHoles_4 : decode cX12_countHoles 4 = .ok (.ldc2_w 214, 3) := by decide +kernel
theorem dX12_countHoles_7 : decode cX12_countHoles 7 = .ok (.invokestatic 29, 3) := by decide +kernel
theorem dX12_countHoles_10 : decode cX12_countHoles 10 = .ok (.ifCond .eq 7, 3) := by decide +kernel
theorem dX12_countHoles_13 : decode cX12_countHoles 13 = .ok (.iconst 0, 1) := by decide +kernel
theorem dX12_countHoles_14 : decode cX12_countHoles 14 = .ok (.goto 4, 3) := by decide +kernel
theorem dX12_countHoles_17 : decode cX12_countHoles 17 = .ok (.iconst 1, 1) := by decide +kernel
theorem dX12_countHoles_18 : decode cX12_countHoles 18 = .ok (.invokevirtual 39, 3) := by decide +kernel
theorem dX12_countHoles_21 : decode cX12_countHoles 21 = .ok (.ifCond .eq 5, 3) := by decide +kernel
theorem dX12_countHoles_24 : decode cX12_countHoles 24 = .ok (.iconst 0, 1) := by decide +kernel
theorem dX12_countHoles_25 : decode cX12_countHoles 25 = .ok (.ireturn, 1) := by decide +kernel
theorem dX12_countHoles_26 : decode cX12_countHoles 26 = .ok (.aload_n 0, 1) := by decide +kernel
theorem dX12_countHoles_27 : decode cX12_countHoles 27 = .ok (.iload_n 1, 1) := by decide +kernel
theorem dX12_countHoles_28 : decode cX12_countHoles 28 = .ok (.invokevirtual 216, 3) := by decide +kernel
theorem dX12_countHoles_31 : decode cX12_countHoles 31 = .ok (.astore_n 2, 1) := by decide +kernel
theorem dX12_countHoles_32 : decode cX12_countHoles 32 = .ok (.aload_n 2, 1) := by decide +kernel
theorem dX12_countHoles_33 : decode cX12_countHoles 33 = .ok (.aload_n 0, 1) := by decide +kernel
theorem dX12_countHoles_34 : decode cX12_countHoles 34 = .ok (.invokevirtual 195, 3) := by decide +kernel
theorem dX12_countHoles_37 : decode cX12_countHoles 37 = .ok (.invokestatic 220, 3) := by decide +kernel
theorem dX12_countHoles_40 : decode cX12_countHoles 40 = .ok (.aload_n 0, 1) := by decide +kernel
theorem dX12_countHoles_41 : decode cX12_countHoles 41 = .ok (.invokevirtual 72, 3) := by decide +kernel
theorem dX12_countHoles_44 : decode cX12_countHoles 44 = .ok (.isub, 1) := by decide +kernel
theorem dX12_countHoles_45 : decode cX12_countHoles 45 = .ok (.istore_n 3, 1) := by decide +kernel
theorem dX12_countHoles_46 : decode cX12_countHoles 46 = .ok (.iconst 0, 1) := by decide +kernel
theorem dX12_countHoles_47 : decode cX12_countHoles 47 = .ok (.istore 4, 2) := by decide +kernel
theorem dX12_countHoles_49 : decode cX12_countHoles 49 = .ok (.iload 4, 2) := by decide +kernel
theorem dX12_countHoles_51 : decode cX12_countHoles 51 = .ok (.bipush 12, 2) := by decide +kernel
theorem dX12_countHoles_53 : decode cX12_countHoles 53 = .ok (.if_icmp .ge 127, 3) := by decide +kernel
theorem dX12_countHoles_56 : decode cX12_countHoles 56 = .ok (.iload 4, 2) := by decide +kernel
theorem dX12_countHoles_58 : decode cX12_countHoles 58 = .ok (.iconst 1, 1) := by decide +kernel
theorem dX12_countHoles_59 : decode cX12_countHoles 59 = .ok (.iadd, 1) := by decide +kernel
theorem dX12_countHoles_60 : decode cX12_countHoles 60 = .ok (.istore 5, 2) := by decide +kernel
theorem dX12_countHoles_62 : decode cX12_countHoles 62 = .ok (.iload 5, 2) := by decide +kernel
theorem dX12_countHoles_64 : decode cX12_countHoles 64 = .ok (.bipush 12, 2) := by decide +kernel
theorem dX12_countHoles_66 : decode cX12_countHoles 66 = .ok (.if_icmp .ge 108, 3) := by decide +kernel
theorem dX12_countHoles_69 : decode cX12_countHoles 69 = .ok (.iload_n 3, 1) := by decide +kernel
theorem dX12_countHoles_70 : decode cX12_countHoles 70 = .ok (.aload_n 2, 1) := by decide +kernel
theorem dX12_countHoles_71 : decode cX12_countHoles 71 = .ok (.iload 4, 2) := by decide +kernel
theorem dX12_countHoles_73 : decode cX12_countHoles 73 = .ok (.aaload, 1) := by decide +kernel
theorem dX12_countHoles_74 : decode cX12_countHoles 74 = .ok (.iload 5, 2) := by decide +kernel
theorem dX12_countHoles_76 : decode cX12_countHoles 76 = .ok (.baload, 1) := by decide +kernel
theorem dX12_countHoles_77 : decode cX12_countHoles 77 = .ok (.ifCond .eq 7, 3) := by decide +kernel
theorem dX12_countHoles_80 : decode cX12_countHoles 80 = .ok (.iconst 1, 1) := by decide +kernel
theorem dX12_countHoles_81 : decode cX12_countHoles 81 = .ok (.goto 4, 3) := by decide +kernel
theorem dX12_countHoles_84 : decode cX12_countHoles 84 = .ok (.iconst 0, 1) := by decide +kernel
theorem dX12_countHoles_85 : decode cX12_countHoles 85 = .ok (.iadd, 1) := by decide +kernel
theorem dX12_countHoles_86 : decode cX12_countHoles 86 = .ok (.istore_n 3, 1) := by decide +kernel
theorem dX12_countHoles_87 : decode cX12_countHoles 87 = .ok (.iload 5, 2) := by decide +kernel
theorem dX12_countHoles_89 : decode cX12_countHoles 89 = .ok (.iconst 1, 1) := by decide +kernel
theorem dX12_countHoles_90 : decode cX12_countHoles 90 = .ok (.iadd, 1) := by decide +kernel
theorem dX12_countHoles_91 : decode cX12_countHoles 91 = .ok (.istore 6, 2) := by decide +kernel
theorem dX12_countHoles_93 : decode cX12_countHoles 93 = .ok (.iload 6, 2) := by decide +kernel
theorem dX12_countHoles_95 : decode cX12_countHoles 95 = .ok (.bipush 12, 2) := by decide +kernel
theorem dX12_countHoles_97 : decode cX12_countHoles 97 = .ok (.if_icmp .ge 71, 3) := by decide +kernel
theorem dX12_countHoles_100 : decode cX12_countHoles 100 = .ok (.iload_n 3, 1) := by decide +kernel
theorem dX12_countHoles_101 : decode cX12_countHoles 101 = .ok (.aload_n 0, 1) := by decide +kernel
theorem dX12_countHoles_102 : decode cX12_countHoles 102 = .ok (.iload 4, 2) := by decide +kernel
theorem dX12_countHoles_104 : decode cX12_countHoles 104 = .ok (.invokevirtual 35, 3) := by decide +kernel
theorem dX12_countHoles_107 : decode cX12_countHoles 107 = .ok (.ifCond .eq 52, 3) := by decide +kernel
theorem dX12_countHoles_110 : decode cX12_countHoles 110 = .ok (.aload_n 0, 1) := by decide +kernel
theorem dX12_countHoles_111 : decode cX12_countHoles 111 = .ok (.iload 5, 2) := by decide +kernel
theorem dX12_countHoles_113 : decode cX12_countHoles 113 = .ok (.invokevirtual 35, 3) := by decide +kernel
theorem dX12_countHoles_116 : decode cX12_countHoles 116 = .ok (.ifCond .eq 43, 3) := by decide +kernel
theorem dX12_countHoles_119 : decode cX12_countHoles 119 = .ok (.aload_n 0, 1) := by decide +kernel
theorem dX12_countHoles_120 : decode cX12_countHoles 120 = .ok (.iload 6, 2) := by decide +kernel
theorem dX12_countHoles_122 : decode cX12_countHoles 122 = .ok (.invokevirtual 35, 3) := by decide +kernel
theorem dX12_countHoles_125 : decode cX12_countHoles 125 = .ok (.ifCond .eq 34, 3) := by decide +kernel
theorem dX12_countHoles_128 : decode cX12_countHoles 128 = .ok (.aload_n 0, 1) := by decide +kernel
theorem dX12_countHoles_129 : decode cX12_countHoles 129 = .ok (.iload 4, 2) := by decide +kernel
theorem dX12_countHoles_131 : decode cX12_countHoles 131 = .ok (.iload 5, 2) := by decide +kernel
theorem dX12_countHoles_133 : decode cX12_countHoles 133 = .ok (.iload 6, 2) := by decide +kernel
theorem dX12_countHoles_135 : decode cX12_countHoles 135 = .ok (.invokevirtual 147, 3) := by decide +kernel
theorem dX12_countHoles_138 : decode cX12_countHoles 138 = .ok (.ifCond .eq 21, 3) := by decide +kernel
theorem dX12_countHoles_141 : decode cX12_countHoles 141 = .ok (.aload_n 0, 1) := by decide +kernel
theorem dX12_countHoles_142 : decode cX12_countHoles 142 = .ok (.iload 4, 2) := by decide +kernel
theorem dX12_countHoles_144 : decode cX12_countHoles 144 = .ok (.iload 5, 2) := by decide +kernel
theorem dX12_countHoles_146 : decode cX12_countHoles 146 = .ok (.iload 6, 2) := by decide +kernel
theorem dX12_countHoles_148 : decode cX12_countHoles 148 = .ok (.iload_n 1, 1) := by decide +kernel
theorem dX12_countHoles_149 : decode cX12_countHoles 149 = .ok (.invokevirtual 224, 3) := by decide +kernel
theorem dX12_countHoles_152 : decode cX12_countHoles 152 = .ok (.ifCond .eq 7, 3) := by decide +kernel
theorem dX12_countHoles_155 : decode cX12_countHoles 155 = .ok (.iconst 1, 1) := by decide +kernel
theorem dX12_countHoles_156 : decode cX12_countHoles 156 = .ok (.goto 4, 3) := by decide +kernel
theorem dX12_countHoles_159 : decode cX12_countHoles 159 = .ok (.iconst 0, 1) := by decide +kernel
theorem dX12_countHoles_160 : decode cX12_countHoles 160 = .ok (.isub, 1) := by decide +kernel
theorem dX12_countHoles_161 : decode cX12_countHoles 161 = .ok (.istore_n 3, 1) := by decide +kernel
theorem dX12_countHoles_162 : decode cX12_countHoles 162 = .ok (.iinc 6 1, 3) := by decide +kernel
theorem dX12_countHoles_165 : decode cX12_countHoles 165 = .ok (.goto (-72), 3) := by decide +kernel
theorem dX12_countHoles_168 : decode cX12_countHoles 168 = .ok (.iinc 5 1, 3) := by decide +kernel
theorem dX12_countHoles_171 : decode cX12_countHoles 171 = .ok (.goto (-109), 3) := by decide +kernel
theorem dX12_countHoles_174 : decode cX12_countHoles 174 = .ok (.iinc 4 1, 3) := by decide +kernel
theorem dX12_countHoles_177 : decode cX12_countHoles 177 = .ok (.goto (-128), 3) := by decide +kernel
theorem dX12_countHoles_180 : decode cX12_countHoles 180 = .ok (.iload_n 3, 1) := by decide +kernel
theorem dX12_countHoles_181 : decode cX12_countHoles 181 = .ok (.ireturn, 1) := by decide +kernel
theorem dX12_addWall_0 : decode cX12_addWall 0 = .ok (.iload_n 1, 1) := by decide +kernel
theorem dX12_addWall_1 : decode cX12_addWall 1 = .ok (.iload_n 2, 1) := by decide +kernel
theorem dX12_addWall_2 : decode cX12_addWall 2 = .ok (.bipush 100, 2) := by decide +kernel
theorem dX12_addWall_4 : decode cX12_addWall 4 = .ok (.invokestatic 64, 3) := by decide +kernel
theorem dX12_addWall_7 : decode cX12_addWall 7 = .ok (.ifCond .eq 29, 3) := by decide +kernel
theorem dX12_addWall_10 : decode cX12_addWall 10 = .ok (.iload_n 3, 1) := by decide +kernel
theorem dX12_addWall_11 : decode cX12_addWall 11 = .ok (.iload 4, 2) := by decide +kernel
theorem dX12_addWall_13 : decode cX12_addWall 13 = .ok (.bipush 100, 2) := by decide +kernel
theorem dX12_addWall_15 : decode cX12_addWall 15 = .ok (.invokestatic 64, 3) := by decide +kernel
theorem dX12_addWall_18 : decode cX12_addWall 18 = .ok (.ifCond .eq 18, 3) := by decide +kernel
theorem dX12_addWall_21 : decode cX12_addWall 21 = .ok (.iload_n 1, 1) := by decide +kernel
theorem dX12_addWall_22 : decode cX12_addWall 22 = .ok (.iload_n 3, 1) := by decide +kernel
theorem dX12_addWall_23 : decode cX12_addWall 23 = .ok (.if_icmp .ne 9, 3) := by decide +kernel
theorem dX12_addWall_26 : decode cX12_addWall 26 = .ok (.iload_n 2, 1) := by decide +kernel
theorem dX12_addWall_27 : decode cX12_addWall 27 = .ok (.iload 4, 2) := by decide +kernel
theorem dX12_addWall_29 : decode cX12_addWall 29 = .ok (.if_icmp .eq 7, 3) := by decide +kernel
theorem dX12_addWall_32 : decode cX12_addWall 32 = .ok (.iconst 1, 1) := by decide +kernel
theorem dX12_addWall_33 : decode cX12_addWall 33 = .ok (.goto 4, 3) := by decide +kernel
theorem dX12_addWall_36 : decode cX12_addWall 36 = .ok (.iconst 0, 1) := by decide +kernel
theorem dX12_addWall_37 : decode cX12_addWall 37 = .ok (.istore 5, 2) := by decide +kernel
theorem dX12_addWall_39 : decode cX12_addWall 39 = .ok (.aload_n 0, 1) := by decide +kernel
theorem dX12_addWall_40 : decode cX12_addWall 40 = .ok (.iload 5, 2) := by decide +kernel
theorem dX12_addWall_42 : decode cX12_addWall 42 = .ok (.ifCond .ne 7, 3) := by decide +kernel
theorem dX12_addWall_45 : decode cX12_addWall 45 = .ok (.iconst 1, 1) := by decide +kernel
theorem dX12_addWall_46 : decode cX12_addWall 46 = .ok (.goto 22, 3) := by decide +kernel
theorem dX12_addWall_49 : decode cX12_addWall 49 = .ok (.aload_n 0, 1) := by decide +kernel
theorem dX12_addWall_50 : decode cX12_addWall 50 = .ok (.getfield 22, 3) := by decide +kernel
theorem dX12_addWall_53 : decode cX12_addWall 53 = .ok (.invokeinterface 56 1, 5) := by decide +kernel
theorem dX12_addWall_58 : decode cX12_addWall 58 = .ok (.bipush 10, 2) := by decide +kernel
theorem dX12_addWall_60 : decode cX12_addWall 60 = .ok (.if_icmp .ne 7, 3) := by decide +kernel
theorem dX12_addWall_63 : decode cX12_addWall 63 = .ok (.iconst 2, 1) := by decide +kernel
theorem dX12_addWall_64 : decode cX12_addWall 64 = .ok (.goto 4, 3) := by decide +kernel
theorem dX12_addWall_67 : decode cX12_addWall 67 = .ok (.iconst 0, 1) := by decide +kernel
theorem dX12_addWall_68 : decode cX12_addWall 68 = .ok (.invokevirtual 39, 3) := by decide +kernel
theorem dX12_addWall_71 : decode cX12_addWall 71 = .ok (.ifCond .eq 5, 3) := by decide +kernel
theorem dX12_addWall_74 : decode cX12_addWall 74 = .ok (.iconst 0, 1) := by decide +kernel
theorem dX12_addWall_75 : decode cX12_addWall 75 = .ok (.ireturn, 1) := by decide +kernel
theorem dX12_addWall_76 : decode cX12_addWall 76 = .ok (.aload_n 0, 1) := by decide +kernel
theorem dX12_addWall_77 : decode cX12_addWall 77 = .ok (.getfield 22, 3) := by decide +kernel
theorem dX12_addWall_80 : decode cX12_addWall 80 = .ok (.iconst 4, 1) := by decide +kernel
theorem dX12_addWall_81 : decode cX12_addWall 81 = .ok (.newarray .int, 2) := by decide +kernel
theorem dX12_addWall_83 : decode cX12_addWall 83 = .ok (.dup, 1) := by decide +kernel
theorem dX12_addWall_84 : decode cX12_addWall 84 = .ok (.iconst 0, 1) := by decide +kernel
theorem dX12_addWall_85 : decode cX12_addWall 85 = .ok (.iload_n 1, 1) := by decide +kernel
theorem dX12_addWall_86 : decode cX12_addWall 86 = .ok (.iastore, 1) := by decide +kernel
theorem dX12_addWall_87 : decode cX12_addWall 87 = .ok (.dup, 1) := by decide +kernel
theorem dX12_addWall_88 : decode cX12_addWall 88 = .ok (.iconst 1, 1) := by decide +kernel
theorem dX12_addWall_89 : decode cX12_addWall 89 = .ok (.iload_n 2, 1) := by decide +kernel
theorem dX12_addWall_90 : decode cX12_addWall 90 = .ok (.iastore, 1) := by decide +kernel
theorem dX12_addWall_91 : decode cX12_addWall 91 = .ok (.dup, 1) := by decide +kernel
theorem dX12_addWall_92 : decode cX12_addWall 92 = .ok (.iconst 2, 1) := by decide +kernel
theorem dX12_addWall_93 : decode cX12_addWall 93 = .ok (.iload_n 3, 1) := by decide +kernel
theorem dX12_addWall_94 : decode cX12_addWall 94 = .ok (.iastore, 1) := by decide +kernel
theorem dX12_addWall_95 : decode cX12_addWall 95 = .ok (.dup, 1) := by decide +kernel
theorem dX12_addWall_96 : decode cX12_addWall 96 = .ok (.iconst 3, 1) := by decide +kernel
theorem dX12_addWall_97 : decode cX12_addWall 97 = .ok (.iload 4, 2) := by decide +kernel
theorem dX12_addWall_99 : decode cX12_addWall 99 = .ok (.iastore, 1) := by decide +kernel
theorem dX12_addWall_100 : decode cX12_addWall 100 = .ok (.invokeinterface 50 2, 5) := by decide +kernel
theorem dX12_addWall_105 : decode cX12_addWall 105 = .ok (.pop, 1) := by decide +kernel
theorem dX12_addWall_106 : decode cX12_addWall 106 = .ok (.aload_n 0, 1) := by decide +kernel
theorem dX12_addWall_107 : decode cX12_addWall 107 = .ok (.getfield 22, 3) := by decide +kernel
theorem dX12_addWall_110 : decode cX12_addWall 110 = .ok (.invokeinterface 56 1, 5) := by decide +kernel
theorem dX12_addWall_115 : decode cX12_addWall 115 = .ok (.iconst 1, 1) := by decide +kernel
theorem dX12_addWall_116 : decode cX12_addWall 116 = .ok (.isub, 1) := by decide +kernel
theorem dX12_addWall_117 : decode cX12_addWall 117 = .ok (.ireturn, 1) := by decide +kernel
theorem dX12_dropWall_0 : decode cX12_dropWall 0 = .ok (.aload_n 0, 1) := by decide +kernel
theorem dX12_dropWall_1 : decode cX12_dropWall 1 = .ok (.aload_n 0, 1) := by decide +kernel
theorem dX12_dropWall_2 : decode cX12_dropWall 2 = .ok (.getfield 22, 3) := by decide +kernel
theorem dX12_dropWall_5 : decode cX12_dropWall 5 = .ok (.invokeinterface 87 1, 5) := by decide +kernel
theorem dX12_dropWall_10 : decode cX12_dropWall 10 = .ok (.ifCond .eq 7, 3) := by decide +kernel
theorem dX12_dropWall_13 : decode cX12_dropWall 13 = .ok (.iconst 1, 1) := by decide +kernel
theorem dX12_dropWall_14 : decode cX12_dropWall 14 = .ok (.goto 4, 3) := by decide +kernel
theorem dX12_dropWall_17 : decode cX12_dropWall 17 = .ok (.iconst 0, 1) := by decide +kernel
theorem dX12_dropWall_18 : decode cX12_dropWall 18 = .ok (.invokevirtual 39, 3) := by decide +kernel
theorem dX12_dropWall_21 : decode cX12_dropWall 21 = .ok (.ifCond .eq 5, 3) := by decide +kernel
theorem dX12_dropWall_24 : decode cX12_dropWall 24 = .ok (.iconst 0, 1) := by decide +kernel
theorem dX12_dropWall_25 : decode cX12_dropWall 25 = .ok (.ireturn, 1) := by decide +kernel
theorem dX12_dropWall_26 : decode cX12_dropWall 26 = .ok (.aload_n 0, 1) := by decide +kernel
theorem dX12_dropWall_27 : decode cX12_dropWall 27 = .ok (.getfield 22, 3) := by decide +kernel
theorem dX12_dropWall_30 : decode cX12_dropWall 30 = .ok (.aload_n 0, 1) := by decide +kernel
theorem dX12_dropWall_31 : decode cX12_dropWall 31 = .ok (.getfield 22, 3) := by decide +kernel
theorem dX12_dropWall_34 : decode cX12_dropWall 34 = .ok (.invokeinterface 56 1, 5) := by decide +kernel
theorem dX12_dropWall_39 : decode cX12_dropWall 39 = .ok (.iconst 1, 1) := by decide +kernel
theorem dX12_dropWall_40 : decode cX12_dropWall 40 = .ok (.isub, 1) := by decide +kernel
theorem dX12_dropWall_41 : decode cX12_dropWall 41 = .ok (.invokeinterface 60 2, 5) := by decide +kernel
theorem dX12_dropWall_46 : decode cX12_dropWall 46 = .ok (.pop, 1) := by decide +kernel
theorem dX12_dropWall_47 : decode cX12_dropWall 47 = .ok (.aload_n 0, 1) := by decide +kernel
theorem dX12_dropWall_48 : decode cX12_dropWall 48 = .ok (.getfield 22, 3) := by decide +kernel
theorem dX12_dropWall_51 : decode cX12_dropWall 51 = .ok (.invokeinterface 56 1, 5) := by decide +kernel
theorem dX12_dropWall_56 : decode cX12_dropWall 56 = .ok (.ireturn, 1) := by decide +kernel
theorem dX12_isOn_0 : decode cX12_isOn 0 = .ok (.aload_n 0, 1) := by decide +kernel
theorem dX12_isOn_1 : decode cX12_isOn 1 = .ok (.aload_n 1, 1) := by decide +kernel
theorem dX12_isOn_2 : decode cX12_isOn 2 = .ok (.aload_n 2, 1) := by decide +kernel
theorem dX12_isOn_3 : decode cX12_isOn 3 = .ok (.invokestatic 123, 3) := by decide +kernel
theorem dX12_isOn_6 : decode cX12_isOn 6 = .ok (.lconst 0, 1) := by decide +kernel
theorem dX12_isOn_7 : decode cX12_isOn 7 = .ok (.lcmp, 1) := by decide +kernel
theorem dX12_isOn_8 : decode cX12_isOn 8 = .ok (.ifCond .ne 67, 3) := by decide +kernel
theorem dX12_isOn_11 : decode cX12_isOn 11 = .ok (.aload_n 2, 1) := by decide +kernel
theorem dX12_isOn_12 : decode cX12_isOn 12 = .ok (.iconst 0, 1) := by decide +kernel
theorem dX12_isOn_13 : decode cX12_isOn 13 = .ok (.iaload, 1) := by decide +kernel
theorem dX12_isOn_14 : decode cX12_isOn 14 = .ok (.i2l, 1) := by decide +kernel
theorem dX12_isOn_15 : decode cX12_isOn 15 = .ok (.aload_n 0, 1) := by decide +kernel
theorem dX12_isOn_16 : decode cX12_isOn 16 = .ok (.iconst 0, 1) := by decide +kernel
theorem dX12_isOn_17 : decode cX12_isOn 17 = .ok (.iaload, 1) := by decide +kernel
theorem dX12_isOn_18 : decode cX12_isOn 18 = .ok (.aload_n 1, 1) := by decide +kernel
theorem dX12_isOn_19 : decode cX12_isOn 19 = .ok (.iconst 0, 1) := by decide +kernel
theorem dX12_isOn_20 : decode cX12_isOn 20 = .ok (.iaload, 1) := by decide +kernel
theorem dX12_isOn_21 : decode cX12_isOn 21 = .ok (.invokestatic 144, 3) := by decide +kernel
theorem dX12_isOn_24 : decode cX12_isOn 24 = .ok (.i2l, 1) := by decide +kernel
theorem dX12_isOn_25 : decode cX12_isOn 25 = .ok (.aload_n 0, 1) := by decide +kernel
theorem dX12_isOn_26 : decode cX12_isOn 26 = .ok (.iconst 0, 1) := by decide +kernel
theorem dX12_isOn_27 : decode cX12_isOn 27 = .ok (.iaload, 1) := by decide +kernel
theorem dX12_isOn_28 : decode cX12_isOn 28 = .ok (.aload_n 1, 1) := by decide +kernel
theorem dX12_isOn_29 : decode cX12_isOn 29 = .ok (.iconst 0, 1) := by decide +kernel
theorem dX12_isOn_30 : decode cX12_isOn 30 = .ok (.iaload, 1) := by decide +kernel
theorem dX12_isOn_31 : decode cX12_isOn 31 = .ok (.invokestatic 98, 3) := by decide +kernel
theorem dX12_isOn_34 : decode cX12_isOn 34 = .ok (.i2l, 1) := by decide +kernel
theorem dX12_isOn_35 : decode cX12_isOn 35 = .ok (.invokestatic 29, 3) := by decide +kernel
theorem dX12_isOn_38 : decode cX12_isOn 38 = .ok (.ifCond .eq 37, 3) := by decide +kernel
theorem dX12_isOn_41 : decode cX12_isOn 41 = .ok (.aload_n 2, 1) := by decide +kernel
theorem dX12_isOn_42 : decode cX12_isOn 42 = .ok (.iconst 1, 1) := by decide +kernel
theorem dX12_isOn_43 : decode cX12_isOn 43 = .ok (.iaload, 1) := by decide +kernel
theorem dX12_isOn_44 : decode cX12_isOn 44 = .ok (.i2l, 1) := by decide +kernel
theorem dX12_isOn_45 : decode cX12_isOn 45 = .ok (.aload_n 0, 1) := by decide +kernel
theorem dX12_isOn_46 : decode cX12_isOn 46 = .ok (.iconst 1, 1) := by decide +kernel
theorem dX12_isOn_47 : decode cX12_isOn 47 = .ok (.iaload, 1) := by decide +kernel
theorem dX12_isOn_48 : decode cX12_isOn 48 = .ok (.aload_n 1, 1) := by decide +kernel
theorem dX12_isOn_49 : decode cX12_isOn 49 = .ok (.iconst 1, 1) := by decide +kernel
theorem dX12_isOn_50 : decode cX12_isOn 50 = .ok (.iaload, 1) := by decide +kernel
theorem dX12_isOn_51 : decode cX12_isOn 51 = .ok (.invokestatic 144, 3) := by decide +kernel
theorem dX12_isOn_54 : decode cX12_isOn 54 = .ok (.i2l, 1) := by decide +kernel
theorem dX12_isOn_55 : decode cX12_isOn 55 = .ok (.aload_n 0, 1) := by decide +kernel
theorem dX12_isOn_56 : decode cX12_isOn 56 = .ok (.iconst 1, 1) := by decide +kernel
theorem dX12_isOn_57 : decode cX12_isOn 57 = .ok (.iaload, 1) := by decide +kernel
theorem dX12_isOn_58 : decode cX12_isOn 58 = .ok (.aload_n 1, 1) := by decide +kernel
theorem dX12_isOn_59 : decode cX12_isOn 59 = .ok (.iconst 1, 1) := by decide +kernel
theorem dX12_isOn_60 : decode cX12_isOn 60 = .ok (.iaload, 1) := by decide +kernel
theorem dX12_isOn_61 : decode cX12_isOn 61 = .ok (.invokestatic 98, 3) := by decide +kernel
theorem dX12_isOn_64 : decode cX12_isOn 64 = .ok (.i2l, 1) := by decide +kernel
theorem dX12_isOn_65 : decode cX12_isOn 65 = .ok (.invokestatic 29, 3) := by decide +kernel
theorem dX12_isOn_68 : decode cX12_isOn 68 = .ok (.ifCond .eq 7, 3) := by decide +kernel
theorem dX12_isOn_71 : decode cX12_isOn 71 = .ok (.iconst 1, 1) := by decide +kernel
theorem dX12_isOn_72 : decode cX12_isOn 72 = .ok (.goto 4, 3) := by decide +kernel
theorem dX12_isOn_75 : decode cX12_isOn 75 = .ok (.iconst 0, 1) := by decide +kernel
theorem dX12_isOn_76 : decode cX12_isOn 76 = .ok (.ireturn, 1) := by decide +kernel
theorem dX12_meet_0 : decode cX12_meet 0 = .ok (.aload_n 0, 1) := by decide +kernel
theorem dX12_meet_1 : decode cX12_meet 1 = .ok (.aload_n 1, 1) := by decide +kernel
theorem dX12_meet_2 : decode cX12_meet 2 = .ok (.aload_n 2, 1) := by decide +kernel
theorem dX12_meet_3 : decode cX12_meet 3 = .ok (.invokestatic 123, 3) := by decide +kernel
theorem dX12_meet_6 : decode cX12_meet 6 = .ok (.invokestatic 127, 3) := by decide +kernel
theorem dX12_meet_9 : decode cX12_meet 9 = .ok (.aload_n 0, 1) := by decide +kernel
theorem dX12_meet_10 : decode cX12_meet 10 = .ok (.aload_n 1, 1) := by decide +kernel
theorem dX12_meet_11 : decode cX12_meet 11 = .ok (.aload_n 3, 1) := by decide +kernel
theorem dX12_meet_12 : decode cX12_meet 12 = .ok (.invokestatic 123, 3) := by decide +kernel
theorem dX12_meet_15 : decode cX12_meet 15 = .ok (.invokestatic 127, 3) := by decide +kernel
theorem dX12_meet_18 : decode cX12_meet 18 = .ok (.imul, 1) := by decide +kernel
theorem dX12_meet_19 : decode cX12_meet 19 = .ok (.ifCond .ge 29, 3) := by decide +kernel
theorem dX12_meet_22 : decode cX12_meet 22 = .ok (.aload_n 2, 1) := by decide +kernel
theorem dX12_meet_23 : decode cX12_meet 23 = .ok (.aload_n 3, 1) := by decide +kernel
theorem dX12_meet_24 : decode cX12_meet 24 = .ok (.aload_n 0, 1) := by decide +kernel
theorem dX12_meet_25 : decode cX12_meet 25 = .ok (.invokestatic 123, 3) := by decide +kernel
theorem dX12_meet_28 : decode cX12_meet 28 = .ok (.invokestatic 127, 3) := by decide +kernel
theorem dX12_meet_31 : decode cX12_meet 31 = .ok (.aload_n 2, 1) := by decide +kernel
theorem dX12_meet_32 : decode cX12_meet 32 = .ok (.aload_n 3, 1) := by decide +kernel
theorem dX12_meet_33 : decode cX12_meet 33 = .ok (.aload_n 1, 1) := by decide +kernel
theorem dX12_meet_34 : decode cX12_meet 34 = .ok (.invokestatic 123, 3) := by decide +kernel
theorem dX12_meet_37 : decode cX12_meet 37 = .ok (.invokestatic 127, 3) := by decide +kernel
theorem dX12_meet_40 : decode cX12_meet 40 = .ok (.imul, 1) := by decide +kernel
theorem dX12_meet_41 : decode cX12_meet 41 = .ok (.ifCond .ge 7, 3) := by decide +kernel
theorem dX12_meet_44 : decode cX12_meet 44 = .ok (.iconst 1, 1) := by decide +kernel
theorem dX12_meet_45 : decode cX12_meet 45 = .ok (.goto 4, 3) := by decide +kernel
theorem dX12_meet_48 : decode cX12_meet 48 = .ok (.iconst 0, 1) := by decide +kernel
theorem dX12_meet_49 : decode cX12_meet 49 = .ok (.istore 4, 2) := by decide +kernel
theorem dX12_meet_51 : decode cX12_meet 51 = .ok (.iload 4, 2) := by decide +kernel
theorem dX12_meet_53 : decode cX12_meet 53 = .ok (.ifCond .ne 39, 3) := by decide +kernel
theorem dX12_meet_56 : decode cX12_meet 56 = .ok (.aload_n 0, 1) := by decide +kernel
theorem dX12_meet_57 : decode cX12_meet 57 = .ok (.aload_n 1, 1) := by decide +kernel
theorem dX12_meet_58 : decode cX12_meet 58 = .ok (.aload_n 2, 1) := by decide +kernel
theorem dX12_meet_59 : decode cX12_meet 59 = .ok (.invokestatic 228, 3) := by decide +kernel
theorem dX12_meet_62 : decode cX12_meet 62 = .ok (.ifCond .ne 30, 3) := by decide +kernel
theorem dX12_meet_65 : decode cX12_meet 65 = .ok (.aload_n 0, 1) := by decide +kernel
theorem dX12_meet_66 : decode cX12_meet 66 = .ok (.aload_n 1, 1) := by decide +kernel
theorem dX12_meet_67 : decode cX12_meet 67 = .ok (.aload_n 3, 1) := by decide +kernel
theorem dX12_meet_68 : decode cX12_meet 68 = .ok (.invokestatic 228, 3) := by decide +kernel
theorem dX12_meet_71 : decode cX12_meet 71 = .ok (.ifCond .ne 21, 3) := by decide +kernel
theorem dX12_meet_74 : decode cX12_meet 74 = .ok (.aload_n 2, 1) := by decide +kernel
theorem dX12_meet_75 : decode cX12_meet 75 = .ok (.aload_n 3, 1) := by decide +kernel
theorem dX12_meet_76 : decode cX12_meet 76 = .ok (.aload_n 0, 1) := by decide +kernel
theorem dX12_meet_77 : decode cX12_meet 77 = .ok (.invokestatic 228, 3) := by decide +kernel
theorem dX12_meet_80 : decode cX12_meet 80 = .ok (.ifCond .ne 12, 3) := by decide +kernel
theorem dX12_meet_83 : decode cX12_meet 83 = .ok (.aload_n 2, 1) := by decide +kernel
theorem dX12_meet_84 : decode cX12_meet 84 = .ok (.aload_n 3, 1) := by decide +kernel
theorem dX12_meet_85 : decode cX12_meet 85 = .ok (.aload_n 1, 1) := by decide +kernel
theorem dX12_meet_86 : decode cX12_meet 86 = .ok (.invokestatic 228, 3) := by decide +kernel
theorem dX12_meet_89 : decode cX12_meet 89 = .ok (.ifCond .eq 7, 3) := by decide +kernel
theorem dX12_meet_92 : decode cX12_meet 92 = .ok (.iconst 1, 1) := by decide +kernel
theorem dX12_meet_93 : decode cX12_meet 93 = .ok (.goto 4, 3) := by decide +kernel
theorem dX12_meet_96 : decode cX12_meet 96 = .ok (.iconst 0, 1) := by decide +kernel
theorem dX12_meet_97 : decode cX12_meet 97 = .ok (.ireturn, 1) := by decide +kernel
theorem dX12_seesPlace_0 : decode cX12_seesPlace 0 = .ok (.iconst 2, 1) := by decide +kernel
theorem dX12_seesPlace_1 : decode cX12_seesPlace 1 = .ok (.newarray .int, 2) := by decide +kernel
theorem dX12_seesPlace_3 : decode cX12_seesPlace 3 = .ok (.dup, 1) := by decide +kernel
theorem dX12_seesPlace_4 : decode cX12_seesPlace 4 = .ok (.iconst 0, 1) := by decide +kernel
theorem dX12_seesPlace_5 : decode cX12_seesPlace 5 = .ok (.iload_n 1, 1) := by decide +kernel
theorem dX12_seesPlace_6 : decode cX12_seesPlace 6 = .ok (.iastore, 1) := by decide +kernel
theorem dX12_seesPlace_7 : decode cX12_seesPlace 7 = .ok (.dup, 1) := by decide +kernel
theorem dX12_seesPlace_8 : decode cX12_seesPlace 8 = .ok (.iconst 1, 1) := by decide +kernel
theorem dX12_seesPlace_9 : decode cX12_seesPlace 9 = .ok (.iload_n 2, 1) := by decide +kernel
theorem dX12_seesPlace_10 : decode cX12_seesPlace 10 = .ok (.iastore, 1) := by decide +kernel
theorem dX12_seesPlace_11 : decode cX12_seesPlace 11 = .ok (.astore 4, 2) := by decide +kernel
theorem dX12_seesPlace_13 : decode cX12_seesPlace 13 = .ok (.iconst 1, 1) := by decide +kernel
theorem dX12_seesPlace_14 : decode cX12_seesPlace 14 = .ok (.istore 5, 2) := by decide +kernel
theorem dX12_seesPlace_16 : decode cX12_seesPlace 16 = .ok (.aload_n 0, 1) := by decide +kernel
theorem dX12_seesPlace_17 : decode cX12_seesPlace 17 = .ok (.getfield 22, 3) := by decide +kernel
theorem dX12_seesPlace_20 : decode cX12_seesPlace 20 = .ok (.invokeinterface 232 1, 5) := by decide +kernel
theorem dX12_seesPlace_25 : decode cX12_seesPlace 25 = .ok (.astore 6, 2) := by decide +kernel
theorem dX12_seesPlace_27 : decode cX12_seesPlace 27 = .ok (.aload 6, 2) := by decide +kernel
theorem dX12_seesPlace_29 : decode cX12_seesPlace 29 = .ok (.invokeinterface 236 1, 5) := by decide +kernel
theorem dX12_seesPlace_34 : decode cX12_seesPlace 34 = .ok (.ifCond .eq 76, 3) := by decide +kernel
theorem dX12_seesPlace_37 : decode cX12_seesPlace 37 = .ok (.aload 6, 2) := by decide +kernel
theorem dX12_seesPlace_39 : decode cX12_seesPlace 39 = .ok (.invokeinterface 241 1, 5) := by decide +kernel
theorem dX12_seesPlace_44 : decode cX12_seesPlace 44 = .ok (.checkcast 9, 3) := by decide +kernel
theorem dX12_seesPlace_47 : decode cX12_seesPlace 47 = .ok (.astore 7, 2) := by decide +kernel
theorem dX12_seesPlace_49 : decode cX12_seesPlace 49 = .ok (.iload 5, 2) := by decide +kernel
theorem dX12_seesPlace_51 : decode cX12_seesPlace 51 = .ok (.aload 4, 2) := by decide +kernel
theorem dX12_seesPlace_53 : decode cX12_seesPlace 53 = .ok (.aload_n 0, 1) := by decide +kernel
theorem dX12_seesPlace_54 : decode cX12_seesPlace 54 = .ok (.getfield 11, 3) := by decide +kernel
theorem dX12_seesPlace_57 : decode cX12_seesPlace 57 = .ok (.iload_n 3, 1) := by decide +kernel
theorem dX12_seesPlace_58 : decode cX12_seesPlace 58 = .ok (.aaload, 1) := by decide +kernel
theorem dX12_seesPlace_59 : decode cX12_seesPlace 59 = .ok (.iconst 2, 1) := by decide +kernel
theorem dX12_seesPlace_60 : decode cX12_seesPlace 60 = .ok (.newarray .int, 2) := by decide +kernel
theorem dX12_seesPlace_62 : decode cX12_seesPlace 62 = .ok (.dup, 1) := by decide +kernel
theorem dX12_seesPlace_63 : decode cX12_seesPlace 63 = .ok (.iconst 0, 1) := by decide +kernel
theorem dX12_seesPlace_64 : decode cX12_seesPlace 64 = .ok (.aload 7, 2) := by decide +kernel
theorem dX12_seesPlace_66 : decode cX12_seesPlace 66 = .ok (.iconst 0, 1) := by decide +kernel
theorem dX12_seesPlace_67 : decode cX12_seesPlace 67 = .ok (.iaload, 1) := by decide +kernel
theorem dX12_seesPlace_68 : decode cX12_seesPlace 68 = .ok (.iastore, 1) := by decide +kernel
theorem dX12_seesPlace_69 : decode cX12_seesPlace 69 = .ok (.dup, 1) := by decide +kernel
theorem dX12_seesPlace_70 : decode cX12_seesPlace 70 = .ok (.iconst 1, 1) := by decide +kernel
theorem dX12_seesPlace_71 : decode cX12_seesPlace 71 = .ok (.aload 7, 2) := by decide +kernel
theorem dX12_seesPlace_73 : decode cX12_seesPlace 73 = .ok (.iconst 1, 1) := by decide +kernel
theorem dX12_seesPlace_74 : decode cX12_seesPlace 74 = .ok (.iaload, 1) := by decide +kernel
theorem dX12_seesPlace_75 : decode cX12_seesPlace 75 = .ok (.iastore, 1) := by decide +kernel
theorem dX12_seesPlace_76 : decode cX12_seesPlace 76 = .ok (.iconst 2, 1) := by decide +kernel
theorem dX12_seesPlace_77 : decode cX12_seesPlace 77 = .ok (.newarray .int, 2) := by decide +kernel
theorem dX12_seesPlace_79 : decode cX12_seesPlace 79 = .ok (.dup, 1) := by decide +kernel
theorem dX12_seesPlace_80 : decode cX12_seesPlace 80 = .ok (.iconst 0, 1) := by decide +kernel
theorem dX12_seesPlace_81 : decode cX12_seesPlace 81 = .ok (.aload 7, 2) := by decide +kernel
theorem dX12_seesPlace_83 : decode cX12_seesPlace 83 = .ok (.iconst 2, 1) := by decide +kernel
theorem dX12_seesPlace_84 : decode cX12_seesPlace 84 = .ok (.iaload, 1) := by decide +kernel
theorem dX12_seesPlace_85 : decode cX12_seesPlace 85 = .ok (.iastore, 1) := by decide +kernel
theorem dX12_seesPlace_86 : decode cX12_seesPlace 86 = .ok (.dup, 1) := by decide +kernel
theorem dX12_seesPlace_87 : decode cX12_seesPlace 87 = .ok (.iconst 1, 1) := by decide +kernel
theorem dX12_seesPlace_88 : decode cX12_seesPlace 88 = .ok (.aload 7, 2) := by decide +kernel
theorem dX12_seesPlace_90 : decode cX12_seesPlace 90 = .ok (.iconst 3, 1) := by decide +kernel
theorem dX12_seesPlace_91 : decode cX12_seesPlace 91 = .ok (.iaload, 1) := by decide +kernel
theorem dX12_seesPlace_92 : decode cX12_seesPlace 92 = .ok (.iastore, 1) := by decide +kernel
theorem dX12_seesPlace_93 : decode cX12_seesPlace 93 = .ok (.invokestatic 244, 3) := by decide +kernel
theorem dX12_seesPlace_96 : decode cX12_seesPlace 96 = .ok (.ifCond .ne 7, 3) := by decide +kernel
theorem dX12_seesPlace_99 : decode cX12_seesPlace 99 = .ok (.iconst 1, 1) := by decide +kernel
theorem dX12_seesPlace_100 : decode cX12_seesPlace 100 = .ok (.goto 4, 3) := by decide +kernel
theorem dX12_seesPlace_103 : decode cX12_seesPlace 103 = .ok (.iconst 0, 1) := by decide +kernel
theorem dX12_seesPlace_104 : decode cX12_seesPlace 104 = .ok (.iand, 1) := by decide +kernel
theorem dX12_seesPlace_105 : decode cX12_seesPlace 105 = .ok (.istore 5, 2) := by decide +kernel
theorem dX12_seesPlace_107 : decode cX12_seesPlace 107 = .ok (.goto (-80), 3) := by decide +kernel
theorem dX12_seesPlace_110 : decode cX12_seesPlace 110 = .ok (.iload 5, 2) := by decide +kernel
theorem dX12_seesPlace_112 : decode cX12_seesPlace 112 = .ok (.ireturn, 1) := by decide +kernel
theorem dX12_sees_0 : decode cX12_sees 0 = .ok (.aload_n 0, 1) := by decide +kernel
theorem dX12_sees_1 : decode cX12_sees 1 = .ok (.iload_n 3, 1) := by decide +kernel
theorem dX12_sees_2 : decode cX12_sees 2 = .ok (.invokevirtual 78, 3) := by decide +kernel
theorem dX12_sees_5 : decode cX12_sees 5 = .ok (.ifCond .ne 39, 3) := by decide +kernel
theorem dX12_sees_8 : decode cX12_sees 8 = .ok (.aload_n 0, 1) := by decide +kernel
theorem dX12_sees_9 : decode cX12_sees 9 = .ok (.iload_n 1, 1) := by decide +kernel
theorem dX12_sees_10 : decode cX12_sees 10 = .ok (.iload_n 2, 1) := by decide +kernel
theorem dX12_sees_11 : decode cX12_sees 11 = .ok (.bipush 100, 2) := by decide +kernel
theorem dX12_sees_13 : decode cX12_sees 13 = .ok (.invokestatic 64, 3) := by decide +kernel
theorem dX12_sees_16 : decode cX12_sees 16 = .ok (.ifCond .eq 7, 3) := by decide +kernel
theorem dX12_sees_19 : decode cX12_sees 19 = .ok (.iconst 0, 1) := by decide +kernel
theorem dX12_sees_20 : decode cX12_sees 20 = .ok (.goto 4, 3) := by decide +kernel
theorem dX12_sees_23 : decode cX12_sees 23 = .ok (.iconst 2, 1) := by decide +kernel
theorem dX12_sees_24 : decode cX12_sees 24 = .ok (.invokevirtual 39, 3) := by decide +kernel
theorem dX12_sees_27 : decode cX12_sees 27 = .ok (.ifCond .ne 17, 3) := by decide +kernel
theorem dX12_sees_30 : decode cX12_sees 30 = .ok (.aload_n 0, 1) := by decide +kernel
theorem dX12_sees_31 : decode cX12_sees 31 = .ok (.iload_n 1, 1) := by decide +kernel
theorem dX12_sees_32 : decode cX12_sees 32 = .ok (.iload_n 2, 1) := by decide +kernel
theorem dX12_sees_33 : decode cX12_sees 33 = .ok (.iload_n 3, 1) := by decide +kernel
theorem dX12_sees_34 : decode cX12_sees 34 = .ok (.invokevirtual 248, 3) := by decide +kernel
theorem dX12_sees_37 : decode cX12_sees 37 = .ok (.ifCond .eq 7, 3) := by decide +kernel
theorem dX12_sees_40 : decode cX12_sees 40 = .ok (.iconst 1, 1) := by decide +kernel
theorem dX12_sees_41 : decode cX12_sees 41 = .ok (.goto 4, 3) := by decide +kernel
theorem dX12_sees_44 : decode cX12_sees 44 = .ok (.iconst 0, 1) := by decide +kernel
theorem dX12_sees_45 : decode cX12_sees 45 = .ok (.ireturn, 1) := by decide +kernel
theorem dX12_seen_0 : decode cX12_seen 0 = .ok (.iconst 1, 1) := by decide +kernel
theorem dX12_seen_1 : decode cX12_seen 1 = .ok (.iload_n 1, 1) := by decide +kernel
theorem dX12_seen_2 : decode cX12_seen 2 = .ok (.ishl, 1) := by decide +kernel
theorem dX12_seen_3 : decode cX12_seen 3 = .ok (.istore_n 2, 1) := by decide +kernel
theorem dX12_seen_4 : decode cX12_seen 4 = .ok (.iconst 0, 1) := by decide +kernel
theorem dX12_seen_5 : decode cX12_seen 5 = .ok (.istore_n 3, 1) := by decide +kernel
theorem dX12_seen_6 : decode cX12_seen 6 = .ok (.iload_n 3, 1) := by decide +kernel
theorem dX12_seen_7 : decode cX12_seen 7 = .ok (.bipush 12, 2) := by decide +kernel
theorem dX12_seen_9 : decode cX12_seen 9 = .ok (.if_icmp .ge 52, 3) := by decide +kernel
theorem dX12_seen_12 : decode cX12_seen 12 = .ok (.iload_n 2, 1) := by decide +kernel
theorem dX12_seen_13 : decode cX12_seen 13 = .ok (.aload_n 0, 1) := by decide +kernel
theorem dX12_seen_14 : decode cX12_seen 14 = .ok (.getfield 11, 3) := by decide +kernel
theorem dX12_seen_17 : decode cX12_seen 17 = .ok (.iload_n 3, 1) := by decide +kernel
theorem dX12_seen_18 : decode cX12_seen 18 = .ok (.aaload, 1) := by decide +kernel
theorem dX12_seen_19 : decode cX12_seen 19 = .ok (.ifnull 33, 3) := by decide +kernel
theorem dX12_seen_22 : decode cX12_seen 22 = .ok (.aload_n 0, 1) := by decide +kernel
theorem dX12_seen_23 : decode cX12_seen 23 = .ok (.aload_n 0, 1) := by decide +kernel
theorem dX12_seen_24 : decode cX12_seen 24 = .ok (.getfield 11, 3) := by decide +kernel
theorem dX12_seen_27 : decode cX12_seen 27 = .ok (.iload_n 1, 1) := by decide +kernel
theorem dX12_seen_28 : decode cX12_seen 28 = .ok (.aaload, 1) := by decide +kernel
theorem dX12_seen_29 : decode cX12_seen 29 = .ok (.iconst 0, 1) := by decide +kernel
theorem dX12_seen_30 : decode cX12_seen 30 = .ok (.iaload, 1) := by decide +kernel
theorem dX12_seen_31 : decode cX12_seen 31 = .ok (.aload_n 0, 1) := by decide +kernel
theorem dX12_seen_32 : decode cX12_seen 32 = .ok (.getfield 11, 3) := by decide +kernel
theorem dX12_seen_35 : decode cX12_seen 35 = .ok (.iload_n 1, 1) := by decide +kernel
theorem dX12_seen_36 : decode cX12_seen 36 = .ok (.aaload, 1) := by decide +kernel
theorem dX12_seen_37 : decode cX12_seen 37 = .ok (.iconst 1, 1) := by decide +kernel
theorem dX12_seen_38 : decode cX12_seen 38 = .ok (.iaload, 1) := by decide +kernel
theorem dX12_seen_39 : decode cX12_seen 39 = .ok (.iload_n 3, 1) := by decide +kernel
theorem dX12_seen_40 : decode cX12_seen 40 = .ok (.invokevirtual 248, 3) := by decide +kernel
theorem dX12_seen_43 : decode cX12_seen 43 = .ok (.ifCond .eq 9, 3) := by decide +kernel
theorem dX12_seen_46 : decode cX12_seen 46 = .ok (.iconst 1, 1) := by decide +kernel
theorem dX12_seen_47 : decode cX12_seen 47 = .ok (.iload_n 3, 1) := by decide +kernel
theorem dX12_seen_48 : decode cX12_seen 48 = .ok (.ishl, 1) := by decide +kernel
theorem dX12_seen_49 : decode cX12_seen 49 = .ok (.goto 4, 3) := by decide +kernel
theorem dX12_seen_52 : decode cX12_seen 52 = .ok (.iconst 0, 1) := by decide +kernel
theorem dX12_seen_53 : decode cX12_seen 53 = .ok (.ior, 1) := by decide +kernel
theorem dX12_seen_54 : decode cX12_seen 54 = .ok (.istore_n 2, 1) := by decide +kernel
theorem dX12_seen_55 : decode cX12_seen 55 = .ok (.iinc 3 1, 3) := by decide +kernel
theorem dX12_seen_58 : decode cX12_seen 58 = .ok (.goto (-52), 3) := by decide +kernel
theorem dX12_seen_61 : decode cX12_seen 61 = .ok (.iload_n 2, 1) := by decide +kernel
theorem dX12_seen_62 : decode cX12_seen 62 = .ok (.ireturn, 1) := by decide +kernel
theorem dX12_countSeen_0 : decode cX12_countSeen 0 = .ok (.aload_n 0, 1) := by decide +kernel
theorem dX12_countSeen_1 : decode cX12_countSeen 1 = .ok (.iload_n 1, 1) := by decide +kernel
theorem dX12_countSeen_2 : decode cX12_countSeen 2 = .ok (.invokevirtual 78, 3) := by decide +kernel
theorem dX12_countSeen_5 : decode cX12_countSeen 5 = .ok (.ifCond .eq 7, 3) := by decide +kernel
theorem dX12_countSeen_8 : decode cX12_countSeen 8 = .ok (.iconst 0, 1) := by decide +kernel
theorem dX12_countSeen_9 : decode cX12_countSeen 9 = .ok (.goto 13, 3) := by decide +kernel
theorem dX12_countSeen_12 : decode cX12_countSeen 12 = .ok (.aload_n 0, 1) := by decide +kernel
theorem dX12_countSeen_13 : decode cX12_countSeen 13 = .ok (.iload_n 1, 1) := by decide +kernel
theorem dX12_countSeen_14 : decode cX12_countSeen 14 = .ok (.invokevirtual 251, 3) := by decide +kernel
theorem dX12_countSeen_17 : decode cX12_countSeen 17 = .ok (.invokestatic 254, 3) := by decide +kernel
theorem dX12_countSeen_20 : decode cX12_countSeen 20 = .ok (.iconst 1, 1) := by decide +kernel
theorem dX12_countSeen_21 : decode cX12_countSeen 21 = .ok (.isub, 1) := by decide +kernel
theorem dX12_countSeen_22 : decode cX12_countSeen 22 = .ok (.ireturn, 1) := by decide +kernel
theorem dX12_fewest_0 : decode cX12_fewest 0 = .ok (.aload_n 0, 1) := by decide +kernel
theorem dX12_fewest_1 : decode cX12_fewest 1 = .ok (.invokevirtual 72, 3) := by decide +kernel
theorem dX12_fewest_4 : decode cX12_fewest 4 = .ok (.istore_n 2, 1) := by decide +kernel
theorem dX12_fewest_5 : decode cX12_fewest 5 = .ok (.iconst 0, 1) := by decide +kernel
theorem dX12_fewest_6 : decode cX12_fewest 6 = .ok (.istore_n 3, 1) := by decide +kernel
theorem dX12_fewest_7 : decode cX12_fewest 7 = .ok (.iload_n 3, 1) := by decide +kernel
theorem dX12_fewest_8 : decode cX12_fewest 8 = .ok (.sipush 4096, 3) := by decide +kernel
theorem dX12_fewest_11 : decode cX12_fewest 11 = .ok (.if_icmp .ge 80, 3) := by decide +kernel
theorem dX12_fewest_14 : decode cX12_fewest 14 = .ok (.iload_n 3, 1) := by decide +kernel
theorem dX12_fewest_15 : decode cX12_fewest 15 = .ok (.invokestatic 254, 3) := by decide +kernel
theorem dX12_fewest_18 : decode cX12_fewest 18 = .ok (.iload_n 2, 1) := by decide +kernel
theorem dX12_fewest_19 : decode cX12_fewest 19 = .ok (.if_icmp .lt 6, 3) := by decide +kernel
theorem dX12_fewest_22 : decode cX12_fewest 22 = .ok (.goto 63, 3) := by decide +kernel
theorem dX12_fewest_25 : decode cX12_fewest 25 = .ok (.iconst 0, 1) := by decide +kernel
theorem dX12_fewest_26 : decode cX12_fewest 26 = .ok (.istore 4, 2) := by decide +kernel
theorem dX12_fewest_28 : decode cX12_fewest 28 = .ok (.iconst 0, 1) := by decide +kernel
theorem dX12_fewest_29 : decode cX12_fewest 29 = .ok (.istore 5, 2) := by decide +kernel
theorem dX12_fewest_31 : decode cX12_fewest 31 = .ok (.iload 5, 2) := by decide +kernel
theorem dX12_fewest_33 : decode cX12_fewest 33 = .ok (.bipush 12, 2) := by decide +kernel
theorem dX12_fewest_35 : decode cX12_fewest 35 = .ok (.if_icmp .ge 32, 3) := by decide +kernel
theorem dX12_fewest_38 : decode cX12_fewest 38 = .ok (.iload 4, 2) := by decide +kernel
theorem dX12_fewest_40 : decode cX12_fewest 40 = .ok (.iload_n 3, 1) := by decide +kernel
theorem dX12_fewest_41 : decode cX12_fewest 41 = .ok (.iload 5, 2) := by decide +kernel
theorem dX12_fewest_43 : decode cX12_fewest 43 = .ok (.ishr, 1) := by decide +kernel
theorem dX12_fewest_44 : decode cX12_fewest 44 = .ok (.iconst 1, 1) := by decide +kernel
theorem dX12_fewest_45 : decode cX12_fewest 45 = .ok (.iand, 1) := by decide +kernel
theorem dX12_fewest_46 : decode cX12_fewest 46 = .ok (.iconst 1, 1) := by decide +kernel
theorem dX12_fewest_47 : decode cX12_fewest 47 = .ok (.if_icmp .ne 10, 3) := by decide +kernel
theorem dX12_fewest_50 : decode cX12_fewest 50 = .ok (.aload_n 1, 1) := by decide +kernel
theorem dX12_fewest_51 : decode cX12_fewest 51 = .ok (.iload 5, 2) := by decide +kernel
theorem dX12_fewest_53 : decode cX12_fewest 53 = .ok (.iaload, 1) := by decide +kernel
theorem dX12_fewest_54 : decode cX12_fewest 54 = .ok (.goto 4, 3) := by decide +kernel
theorem dX12_fewest_57 : decode cX12_fewest 57 = .ok (.iconst 0, 1) := by decide +kernel
theorem dX12_fewest_58 : decode cX12_fewest 58 = .ok (.ior, 1) := by decide +kernel
theorem dX12_fewest_59 : decode cX12_fewest 59 = .ok (.istore 4, 2) := by decide +kernel
theorem dX12_fewest_61 : decode cX12_fewest 61 = .ok (.iinc 5 1, 3) := by decide +kernel
theorem dX12_fewest_64 : decode cX12_fewest 64 = .ok (.goto (-33), 3) := by decide +kernel
theorem dX12_fewest_67 : decode cX12_fewest 67 = .ok (.iload 4, 2) := by decide +kernel
theorem dX12_fewest_69 : decode cX12_fewest 69 = .ok (.aload_n 0, 1) := by decide +kernel
theorem dX12_fewest_70 : decode cX12_fewest 70 = .ok (.invokevirtual 195, 3) := by decide +kernel
theorem dX12_fewest_73 : decode cX12_fewest 73 = .ok (.if_icmp .ne 10, 3) := by decide +kernel
theorem dX12_fewest_76 : decode cX12_fewest 76 = .ok (.iload_n 3, 1) := by decide +kernel
theorem dX12_fewest_77 : decode cX12_fewest 77 = .ok (.invokestatic 254, 3) := by decide +kernel
theorem dX12_fewest_80 : decode cX12_fewest 80 = .ok (.goto 4, 3) := by decide +kernel
theorem dX12_fewest_83 : decode cX12_fewest 83 = .ok (.iload_n 2, 1) := by decide +kernel
theorem dX12_fewest_84 : decode cX12_fewest 84 = .ok (.istore_n 2, 1) := by decide +kernel
theorem dX12_fewest_85 : decode cX12_fewest 85 = .ok (.iinc 3 1, 3) := by decide +kernel
theorem dX12_fewest_88 : decode cX12_fewest 88 = .ok (.goto (-81), 3) := by decide +kernel
theorem dX12_fewest_91 : decode cX12_fewest 91 = .ok (.iload_n 2, 1) := by decide +kernel
theorem dX12_fewest_92 : decode cX12_fewest 92 = .ok (.ireturn, 1) := by decide +kernel
theorem dX12_leastGuards_0 : decode cX12_leastGuards 0 = .ok (.aload_n 0, 1) := by decide +kernel
theorem dX12_leastGuards_1 : decode cX12_leastGuards 1 = .ok (.iconst 0, 1) := by decide +kernel
theorem dX12_leastGuards_2 : decode cX12_leastGuards 2 = .ok (.putfield 25, 3) := by decide +kernel
theorem dX12_leastGuards_5 : decode cX12_leastGuards 5 = .ok (.bipush 12, 2) := by decide +kernel
theorem dX12_leastGuards_7 : decode cX12_leastGuards 7 = .ok (.newarray .int, 2) := by decide +kernel
theorem dX12_leastGuards_9 : decode cX12_leastGuards 9 = .ok (.astore_n 1, 1) := by decide +kernel
theorem dX12_leastGuards_10 : decode cX12_leastGuards 10 = .ok (.iconst 0, 1) := by decide +kernel
theorem dX12_leastGuards_11 : decode cX12_leastGuards 11 = .ok (.istore_n 2, 1) := by decide +kernel
theorem dX12_leastGuards_12 : decode cX12_leastGuards 12 = .ok (.iload_n 2, 1) := by decide +kernel
theorem dX12_leastGuards_13 : decode cX12_leastGuards 13 = .ok (.bipush 12, 2) := by decide +kernel
theorem dX12_leastGuards_15 : decode cX12_leastGuards 15 = .ok (.if_icmp .ge 30, 3) := by decide +kernel
theorem dX12_leastGuards_18 : decode cX12_leastGuards 18 = .ok (.aload_n 1, 1) := by decide +kernel
theorem dX12_leastGuards_19 : decode cX12_leastGuards 19 = .ok (.iload_n 2, 1) := by decide +kernel
theorem dX12_leastGuards_20 : decode cX12_leastGuards 20 = .ok (.aload_n 0, 1) := by decide +kernel
theorem dX12_leastGuards_21 : decode cX12_leastGuards 21 = .ok (.getfield 11, 3) := by decide +kernel
theorem dX12_leastGuards_24 : decode cX12_leastGuards 24 = .ok (.iload_n 2, 1) := by decide +kernel
theorem dX12_leastGuards_25 : decode cX12_leastGuards 25 = .ok (.aaload, 1) := by decide +kernel
theorem dX12_leastGuards_26 : decode cX12_leastGuards 26 = .ok (.ifnonnull 7, 3) := by decide +kernel
theorem dX12_leastGuards_29 : decode cX12_leastGuards 29 = .ok (.iconst 0, 1) := by decide +kernel
theorem dX12_leastGuards_30 : decode cX12_leastGuards 30 = .ok (.goto 8, 3) := by decide +kernel
theorem dX12_leastGuards_33 : decode cX12_leastGuards 33 = .ok (.aload_n 0, 1) := by decide +kernel
theorem dX12_leastGuards_34 : decode cX12_leastGuards 34 = .ok (.iload_n 2, 1) := by decide +kernel
theorem dX12_leastGuards_35 : decode cX12_leastGuards 35 = .ok (.invokevirtual 251, 3) := by decide +kernel
theorem dX12_leastGuards_38 : decode cX12_leastGuards 38 = .ok (.iastore, 1) := by decide +kernel
theorem dX12_leastGuards_39 : decode cX12_leastGuards 39 = .ok (.iinc 2 1, 3) := by decide +kernel
theorem dX12_leastGuards_42 : decode cX12_leastGuards 42 = .ok (.goto (-30), 3) := by decide +kernel
theorem dX12_leastGuards_45 : decode cX12_leastGuards 45 = .ok (.aload_n 0, 1) := by decide +kernel
theorem dX12_leastGuards_46 : decode cX12_leastGuards 46 = .ok (.aload_n 1, 1) := by decide +kernel
theorem dX12_leastGuards_47 : decode cX12_leastGuards 47 = .ok (.invokevirtual 257, 3) := by decide +kernel
theorem dX12_leastGuards_50 : decode cX12_leastGuards 50 = .ok (.ireturn, 1) := by decide +kernel
theorem dX12_setSpeed_0 : decode cX12_setSpeed 0 = .ok (.aload_n 0, 1) := by decide +kernel
theorem dX12_setSpeed_1 : decode cX12_setSpeed 1 = .ok (.iload_n 1, 1) := by decide +kernel
theorem dX12_setSpeed_2 : decode cX12_setSpeed 2 = .ok (.invokevirtual 78, 3) := by decide +kernel
theorem dX12_setSpeed_5 : decode cX12_setSpeed 5 = .ok (.ifCond .ne 25, 3) := by decide +kernel
theorem dX12_setSpeed_8 : decode cX12_setSpeed 8 = .ok (.aload_n 0, 1) := by decide +kernel
theorem dX12_setSpeed_9 : decode cX12_setSpeed 9 = .ok (.iload_n 2, 1) := by decide +kernel
theorem dX12_setSpeed_10 : decode cX12_setSpeed 10 = .ok (.iload_n 3, 1) := by decide +kernel
theorem dX12_setSpeed_11 : decode cX12_setSpeed 11 = .ok (.bipush 9, 2) := by decide +kernel
theorem dX12_setSpeed_13 : decode cX12_setSpeed 13 = .ok (.invokestatic 64, 3) := by decide +kernel
theorem dX12_setSpeed_16 : decode cX12_setSpeed 16 = .ok (.ifCond .eq 7, 3) := by decide +kernel
theorem dX12_setSpeed_19 : decode cX12_setSpeed 19 = .ok (.iconst 0, 1) := by decide +kernel
theorem dX12_setSpeed_20 : decode cX12_setSpeed 20 = .ok (.goto 4, 3) := by decide +kernel
theorem dX12_setSpeed_23 : decode cX12_setSpeed 23 = .ok (.iconst 2, 1) := by decide +kernel
theorem dX12_setSpeed_24 : decode cX12_setSpeed 24 = .ok (.invokevirtual 39, 3) := by decide +kernel
theorem dX12_setSpeed_27 : decode cX12_setSpeed 27 = .ok (.ifCond .eq 5, 3) := by decide +kernel
theorem dX12_setSpeed_30 : decode cX12_setSpeed 30 = .ok (.iconst 0, 1) := by decide +kernel
theorem dX12_setSpeed_31 : decode cX12_setSpeed 31 = .ok (.ireturn, 1) := by decide +kernel
theorem dX12_setSpeed_32 : decode cX12_setSpeed 32 = .ok (.aload_n 0, 1) := by decide +kernel
theorem dX12_setSpeed_33 : decode cX12_setSpeed 33 = .ok (.getfield 11, 3) := by decide +kernel
theorem dX12_setSpeed_36 : decode cX12_setSpeed 36 = .ok (.iload_n 1, 1) := by decide +kernel
theorem dX12_setSpeed_37 : decode cX12_setSpeed 37 = .ok (.aaload, 1) := by decide +kernel
theorem dX12_setSpeed_38 : decode cX12_setSpeed 38 = .ok (.iconst 3, 1) := by decide +kernel
theorem dX12_setSpeed_39 : decode cX12_setSpeed 39 = .ok (.iaload, 1) := by decide +kernel
theorem dX12_setSpeed_40 : decode cX12_setSpeed 40 = .ok (.ifCond .ne 18, 3) := by decide +kernel
theorem dX12_setSpeed_43 : decode cX12_setSpeed 43 = .ok (.aload_n 0, 1) := by decide +kernel
theorem dX12_setSpeed_44 : decode cX12_setSpeed 44 = .ok (.getfield 11, 3) := by decide +kernel
theorem dX12_setSpeed_47 : decode cX12_setSpeed 47 = .ok (.iload_n 1, 1) := by decide +kernel
theorem dX12_setSpeed_48 : decode cX12_setSpeed 48 = .ok (.aaload, 1) := by decide +kernel
theorem dX12_setSpeed_49 : decode cX12_setSpeed 49 = .ok (.iconst 4, 1) := by decide +kernel
theorem dX12_setSpeed_50 : decode cX12_setSpeed 50 = .ok (.iaload, 1) := by decide +kernel
theorem dX12_setSpeed_51 : decode cX12_setSpeed 51 = .ok (.ifCond .ne 7, 3) := by decide +kernel
theorem dX12_setSpeed_54 : decode cX12_setSpeed 54 = .ok (.iconst 1, 1) := by decide +kernel
theorem dX12_setSpeed_55 : decode cX12_setSpeed 55 = .ok (.goto 4, 3) := by decide +kernel
theorem dX12_setSpeed_58 : decode cX12_setSpeed 58 = .ok (.iconst 0, 1) := by decide +kernel
theorem dX12_setSpeed_59 : decode cX12_setSpeed 59 = .ok (.istore 4, 2) := by decide +kernel
theorem dX12_setSpeed_61 : decode cX12_setSpeed 61 = .ok (.aload_n 0, 1) := by decide +kernel
theorem dX12_setSpeed_62 : decode cX12_setSpeed 62 = .ok (.getfield 11, 3) := by decide +kernel
theorem dX12_setSpeed_65 : decode cX12_setSpeed 65 = .ok (.iload_n 1, 1) := by decide +kernel
theorem dX12_setSpeed_66 : decode cX12_setSpeed 66 = .ok (.aaload, 1) := by decide +kernel
theorem dX12_setSpeed_67 : decode cX12_setSpeed 67 = .ok (.iconst 3, 1) := by decide +kernel
theorem dX12_setSpeed_68 : decode cX12_setSpeed 68 = .ok (.iload_n 2, 1) := by decide +kernel
theorem dX12_setSpeed_69 : decode cX12_setSpeed 69 = .ok (.iastore, 1) := by decide +kernel
theorem dX12_setSpeed_70 : decode cX12_setSpeed 70 = .ok (.aload_n 0, 1) := by decide +kernel
theorem dX12_setSpeed_71 : decode cX12_setSpeed 71 = .ok (.getfield 11, 3) := by decide +kernel
theorem dX12_setSpeed_74 : decode cX12_setSpeed 74 = .ok (.iload_n 1, 1) := by decide +kernel
theorem dX12_setSpeed_75 : decode cX12_setSpeed 75 = .ok (.aaload, 1) := by decide +kernel
theorem dX12_setSpeed_76 : decode cX12_setSpeed 76 = .ok (.iconst 4, 1) := by decide +kernel
theorem dX12_setSpeed_77 : decode cX12_setSpeed 77 = .ok (.iload_n 3, 1) := by decide +kernel
theorem dX12_setSpeed_78 : decode cX12_setSpeed 78 = .ok (.iastore, 1) := by decide +kernel
theorem dX12_setSpeed_79 : decode cX12_setSpeed 79 = .ok (.iload 4, 2) := by decide +kernel
theorem dX12_setSpeed_81 : decode cX12_setSpeed 81 = .ok (.ireturn, 1) := by decide +kernel
theorem dX12_behind_0 : decode cX12_behind 0 = .ok (.aload_n 0, 1) := by decide +kernel
theorem dX12_behind_1 : decode cX12_behind 1 = .ok (.getfield 11, 3) := by decide +kernel
theorem dX12_behind_4 : decode cX12_behind 4 = .ok (.invokestatic 46, 3) := by decide +kernel
theorem dX12_behind_7 : decode cX12_behind 7 = .ok (.astore_n 2, 1) := by decide +kernel
theorem dX12_behind_8 : decode cX12_behind 8 = .ok (.aload_n 2, 1) := by decide +kernel
theorem dX12_behind_9 : decode cX12_behind 9 = .ok (.astore_n 3, 1) := by decide +kernel
theorem dX12_behind_10 : decode cX12_behind 10 = .ok (.aload_n 3, 1) := by decide +kernel
theorem dX12_behind_11 : decode cX12_behind 11 = .ok (.arraylength, 1) := by decide +kernel
theorem dX12_behind_12 : decode cX12_behind 12 = .ok (.istore 4, 2) := by decide +kernel
theorem dX12_behind_14 : decode cX12_behind 14 = .ok (.iconst 0, 1) := by decide +kernel
theorem dX12_behind_15 : decode cX12_behind 15 = .ok (.istore 5, 2) := by decide +kernel
theorem dX12_behind_17 : decode cX12_behind 17 = .ok (.iload 5, 2) := by decide +kernel
theorem dX12_behind_19 : decode cX12_behind 19 = .ok (.iload 4, 2) := by decide +kernel
theorem dX12_behind_21 : decode cX12_behind 21 = .ok (.if_icmp .ge 49, 3) := by decide +kernel
theorem dX12_behind_24 : decode cX12_behind 24 = .ok (.aload_n 3, 1) := by decide +kernel
theorem dX12_behind_25 : decode cX12_behind 25 = .ok (.iload 5, 2) := by decide +kernel
theorem dX12_behind_27 : decode cX12_behind 27 = .ok (.aaload, 1) := by decide +kernel
theorem dX12_behind_28 : decode cX12_behind 28 = .ok (.astore 6, 2) := by decide +kernel
theorem dX12_behind_30 : decode cX12_behind 30 = .ok (.aload 6, 2) := by decide +kernel
theorem dX12_behind_32 : decode cX12_behind 32 = .ok (.ifnonnull 6, 3) := by decide +kernel
theorem dX12_behind_35 : decode cX12_behind 35 = .ok (.goto 29, 3) := by decide +kernel
theorem dX12_behind_38 : decode cX12_behind 38 = .ok (.aload 6, 2) := by decide +kernel
theorem dX12_behind_40 : decode cX12_behind 40 = .ok (.iconst 0, 1) := by decide +kernel
theorem dX12_behind_41 : decode cX12_behind 41 = .ok (.dup2, 1) := by decide +kernel
theorem dX12_behind_42 : decode cX12_behind 42 = .ok (.iaload, 1) := by decide +kernel
theorem dX12_behind_43 : decode cX12_behind 43 = .ok (.iload_n 1, 1) := by decide +kernel
theorem dX12_behind_44 : decode cX12_behind 44 = .ok (.aload 6, 2) := by decide +kernel
theorem dX12_behind_46 : decode cX12_behind 46 = .ok (.iconst 3, 1) := by decide +kernel
theorem dX12_behind_47 : decode cX12_behind 47 = .ok (.iaload, 1) := by decide +kernel
theorem dX12_behind_48 : decode cX12_behind 48 = .ok (.imul, 1) := by decide +kernel
theorem dX12_behind_49 : decode cX12_behind 49 = .ok (.iadd, 1) := by decide +kernel
theorem dX12_behind_50 : decode cX12_behind 50 = .ok (.iastore, 1) := by decide +kernel
theorem dX12_behind_51 : decode cX12_behind 51 = .ok (.aload 6, 2) := by decide +kernel
theorem dX12_behind_53 : decode cX12_behind 53 = .ok (.iconst 1, 1) := by decide +kernel
theorem dX12_behind_54 : decode cX12_behind 54 = .ok (.dup2, 1) := by decide +kernel
theorem dX12_behind_55 : decode cX12_behind 55 = .ok (.iaload, 1) := by decide +kernel
theorem dX12_behind_56 : decode cX12_behind 56 = .ok (.iload_n 1, 1) := by decide +kernel
theorem dX12_behind_57 : decode cX12_behind 57 = .ok (.aload 6, 2) := by decide +kernel
theorem dX12_behind_59 : decode cX12_behind 59 = .ok (.iconst 4, 1) := by decide +kernel
theorem dX12_behind_60 : decode cX12_behind 60 = .ok (.iaload, 1) := by decide +kernel
theorem dX12_behind_61 : decode cX12_behind 61 = .ok (.imul, 1) := by decide +kernel
theorem dX12_behind_62 : decode cX12_behind 62 = .ok (.iadd, 1) := by decide +kernel
theorem dX12_behind_63 : decode cX12_behind 63 = .ok (.iastore, 1) := by decide +kernel
theorem dX12_behind_64 : decode cX12_behind 64 = .ok (.iinc 5 1, 3) := by decide +kernel
theorem dX12_behind_67 : decode cX12_behind 67 = .ok (.goto (-50), 3) := by decide +kernel
theorem dX12_behind_70 : decode cX12_behind 70 = .ok (.aload_n 2, 1) := by decide +kernel
theorem dX12_behind_71 : decode cX12_behind 71 = .ok (.areturn, 1) := by decide +kernel
theorem dX12_pass_0 : decode cX12_pass 0 = .ok (.aload_n 0, 1) := by decide +kernel
theorem dX12_pass_1 : decode cX12_pass 1 = .ok (.iload_n 1, 1) := by decide +kernel
theorem dX12_pass_2 : decode cX12_pass 2 = .ok (.i2l, 1) := by decide +kernel
theorem dX12_pass_3 : decode cX12_pass 3 = .ok (.lconst 1, 1) := by decide +kernel
theorem dX12_pass_4 : decode cX12_pass 4 = .ok (.ldc2_w 261, 3) := by decide +kernel
theorem dX12_pass_7 : decode cX12_pass 7 = .ok (.invokestatic 29, 3) := by decide +kernel
theorem dX12_pass_10 : decode cX12_pass 10 = .ok (.ifCond .eq 7, 3) := by decide +kernel
theorem dX12_pass_13 : decode cX12_pass 13 = .ok (.iconst 0, 1) := by decide +kernel
theorem dX12_pass_14 : decode cX12_pass 14 = .ok (.goto 4, 3) := by decide +kernel
theorem dX12_pass_17 : decode cX12_pass 17 = .ok (.iconst 1, 1) := by decide +kernel
theorem dX12_pass_18 : decode cX12_pass 18 = .ok (.invokevirtual 39, 3) := by decide +kernel
theorem dX12_pass_21 : decode cX12_pass 21 = .ok (.ifCond .eq 5, 3) := by decide +kernel
theorem dX12_pass_24 : decode cX12_pass 24 = .ok (.iconst 0, 1) := by decide +kernel
theorem dX12_pass_25 : decode cX12_pass 25 = .ok (.ireturn, 1) := by decide +kernel
theorem dX12_pass_26 : decode cX12_pass 26 = .ok (.aload_n 0, 1) := by decide +kernel
theorem dX12_pass_27 : decode cX12_pass 27 = .ok (.iload_n 1, 1) := by decide +kernel
theorem dX12_pass_28 : decode cX12_pass 28 = .ok (.invokevirtual 263, 3) := by decide +kernel
theorem dX12_pass_31 : decode cX12_pass 31 = .ok (.astore_n 2, 1) := by decide +kernel
theorem dX12_pass_32 : decode cX12_pass 32 = .ok (.iconst 1, 1) := by decide +kernel
theorem dX12_pass_33 : decode cX12_pass 33 = .ok (.istore_n 3, 1) := by decide +kernel
theorem dX12_pass_34 : decode cX12_pass 34 = .ok (.iconst 0, 1) := by decide +kernel
theorem dX12_pass_35 : decode cX12_pass 35 = .ok (.istore 4, 2) := by decide +kernel
theorem dX12_pass_37 : decode cX12_pass 37 = .ok (.iconst 0, 1) := by decide +kernel
theorem dX12_pass_38 : decode cX12_pass 38 = .ok (.istore 5, 2) := by decide +kernel
theorem dX12_pass_40 : decode cX12_pass 40 = .ok (.iload 5, 2) := by decide +kernel
theorem dX12_pass_42 : decode cX12_pass 42 = .ok (.bipush 12, 2) := by decide +kernel
theorem dX12_pass_44 : decode cX12_pass 44 = .ok (.if_icmp .ge 128, 3) := by decide +kernel
theorem dX12_pass_47 : decode cX12_pass 47 = .ok (.aload_n 2, 1) := by decide +kernel
theorem dX12_pass_48 : decode cX12_pass 48 = .ok (.iload 5, 2) := by decide +kernel
theorem dX12_pass_50 : decode cX12_pass 50 = .ok (.aaload, 1) := by decide +kernel
theorem dX12_pass_51 : decode cX12_pass 51 = .ok (.ifnonnull 6, 3) := by decide +kernel
theorem dX12_pass_54 : decode cX12_pass 54 = .ok (.goto 112, 3) := by decide +kernel
theorem dX12_pass_57 : decode cX12_pass 57 = .ok (.iload_n 3, 1) := by decide +kernel
theorem dX12_pass_58 : decode cX12_pass 58 = .ok (.aload_n 2, 1) := by decide +kernel
theorem dX12_pass_59 : decode cX12_pass 59 = .ok (.iload 5, 2) := by decide +kernel
theorem dX12_pass_61 : decode cX12_pass 61 = .ok (.aaload, 1) := by decide +kernel
theorem dX12_pass_62 : decode cX12_pass 62 = .ok (.iconst 0, 1) := by decide +kernel
theorem dX12_pass_63 : decode cX12_pass 63 = .ok (.iaload, 1) := by decide +kernel
theorem dX12_pass_64 : decode cX12_pass 64 = .ok (.aload_n 2, 1) := by decide +kernel
theorem dX12_pass_65 : decode cX12_pass 65 = .ok (.iload 5, 2) := by decide +kernel
theorem dX12_pass_67 : decode cX12_pass 67 = .ok (.aaload, 1) := by decide +kernel
theorem dX12_pass_68 : decode cX12_pass 68 = .ok (.iconst 1, 1) := by decide +kernel
theorem dX12_pass_69 : decode cX12_pass 69 = .ok (.iaload, 1) := by decide +kernel
theorem dX12_pass_70 : decode cX12_pass 70 = .ok (.bipush 100, 2) := by decide +kernel
theorem dX12_pass_72 : decode cX12_pass 72 = .ok (.invokestatic 64, 3) := by decide +kernel
theorem dX12_pass_75 : decode cX12_pass 75 = .ok (.iand, 1) := by decide +kernel
theorem dX12_pass_76 : decode cX12_pass 76 = .ok (.istore_n 3, 1) := by decide +kernel
theorem dX12_pass_77 : decode cX12_pass 77 = .ok (.iload 4, 2) := by decide +kernel
theorem dX12_pass_79 : decode cX12_pass 79 = .ok (.aload_n 2, 1) := by decide +kernel
theorem dX12_pass_80 : decode cX12_pass 80 = .ok (.iload 5, 2) := by decide +kernel
theorem dX12_pass_82 : decode cX12_pass 82 = .ok (.aaload, 1) := by decide +kernel
theorem dX12_pass_83 : decode cX12_pass 83 = .ok (.iconst 3, 1) := by decide +kernel
theorem dX12_pass_84 : decode cX12_pass 84 = .ok (.iaload, 1) := by decide +kernel
theorem dX12_pass_85 : decode cX12_pass 85 = .ok (.ifCond .ne 12, 3) := by decide +kernel
theorem dX12_pass_88 : decode cX12_pass 88 = .ok (.aload_n 2, 1) := by decide +kernel
theorem dX12_pass_89 : decode cX12_pass 89 = .ok (.iload 5, 2) := by decide +kernel
theorem dX12_pass_91 : decode cX12_pass 91 = .ok (.aaload, 1) := by decide +kernel
theorem dX12_pass_92 : decode cX12_pass 92 = .ok (.iconst 4, 1) := by decide +kernel
theorem dX12_pass_93 : decode cX12_pass 93 = .ok (.iaload, 1) := by decide +kernel
theorem dX12_pass_94 : decode cX12_pass 94 = .ok (.ifCond .eq 7, 3) := by decide +kernel
theorem dX12_pass_97 : decode cX12_pass 97 = .ok (.iconst 1, 1) := by decide +kernel
theorem dX12_pass_98 : decode cX12_pass 98 = .ok (.goto 4, 3) := by decide +kernel
theorem dX12_pass_101 : decode cX12_pass 101 = .ok (.iconst 0, 1) := by decide +kernel
theorem dX12_pass_102 : decode cX12_pass 102 = .ok (.iadd, 1) := by decide +kernel
theorem dX12_pass_103 : decode cX12_pass 103 = .ok (.istore 4, 2) := by decide +kernel
theorem dX12_pass_105 : decode cX12_pass 105 = .ok (.iconst 0, 1) := by decide +kernel
theorem dX12_pass_106 : decode cX12_pass 106 = .ok (.istore 6, 2) := by decide +kernel
theorem dX12_pass_108 : decode cX12_pass 108 = .ok (.iload 6, 2) := by decide +kernel
theorem dX12_pass_110 : decode cX12_pass 110 = .ok (.iload 5, 2) := by decide +kernel
theorem dX12_pass_112 : decode cX12_pass 112 = .ok (.if_icmp .ge 54, 3) := by decide +kernel
theorem dX12_pass_115 : decode cX12_pass 115 = .ok (.iload_n 3, 1) := by decide +kernel
theorem dX12_pass_116 : decode cX12_pass 116 = .ok (.aload_n 2, 1) := by decide +kernel
theorem dX12_pass_117 : decode cX12_pass 117 = .ok (.iload 6, 2) := by decide +kernel
theorem dX12_pass_119 : decode cX12_pass 119 = .ok (.aaload, 1) := by decide +kernel
theorem dX12_pass_120 : decode cX12_pass 120 = .ok (.ifnull 33, 3) := by decide +kernel
theorem dX12_pass_123 : decode cX12_pass 123 = .ok (.aload_n 2, 1) := by decide +kernel
theorem dX12_pass_124 : decode cX12_pass 124 = .ok (.iload 6, 2) := by decide +kernel
theorem dX12_pass_126 : decode cX12_pass 126 = .ok (.aaload, 1) := by decide +kernel
theorem dX12_pass_127 : decode cX12_pass 127 = .ok (.iconst 0, 1) := by decide +kernel
theorem dX12_pass_128 : decode cX12_pass 128 = .ok (.iaload, 1) := by decide +kernel
theorem dX12_pass_129 : decode cX12_pass 129 = .ok (.aload_n 2, 1) := by decide +kernel
theorem dX12_pass_130 : decode cX12_pass 130 = .ok (.iload 5, 2) := by decide +kernel
theorem dX12_pass_132 : decode cX12_pass 132 = .ok (.aaload, 1) := by decide +kernel
theorem dX12_pass_133 : decode cX12_pass 133 = .ok (.iconst 0, 1) := by decide +kernel
theorem dX12_pass_134 : decode cX12_pass 134 = .ok (.iaload, 1) := by decide +kernel
theorem dX12_pass_135 : decode cX12_pass 135 = .ok (.if_icmp .ne 18, 3) := by decide +kernel
theorem dX12_pass_138 : decode cX12_pass 138 = .ok (.aload_n 2, 1) := by decide +kernel
theorem dX12_pass_139 : decode cX12_pass 139 = .ok (.iload 6, 2) := by decide +kernel
theorem dX12_pass_141 : decode cX12_pass 141 = .ok (.aaload, 1) := by decide +kernel
theorem dX12_pass_142 : decode cX12_pass 142 = .ok (.iconst 1, 1) := by decide +kernel
theorem dX12_pass_143 : decode cX12_pass 143 = .ok (.iaload, 1) := by decide +kernel
theorem dX12_pass_144 : decode cX12_pass 144 = .ok (.aload_n 2, 1) := by decide +kernel
theorem dX12_pass_145 : decode cX12_pass 145 = .ok (.iload 5, 2) := by decide +kernel
theorem dX12_pass_147 : decode cX12_pass 147 = .ok (.aaload, 1) := by decide +kernel
theorem dX12_pass_148 : decode cX12_pass 148 = .ok (.iconst 1, 1) := by decide +kernel
theorem dX12_pass_149 : decode cX12_pass 149 = .ok (.iaload, 1) := by decide +kernel
theorem dX12_pass_150 : decode cX12_pass 150 = .ok (.if_icmp .eq 7, 3) := by decide +kernel
theorem dX12_pass_153 : decode cX12_pass 153 = .ok (.iconst 1, 1) := by decide +kernel
theorem dX12_pass_154 : decode cX12_pass 154 = .ok (.goto 4, 3) := by decide +kernel
theorem dX12_pass_157 : decode cX12_pass 157 = .ok (.iconst 0, 1) := by decide +kernel
theorem dX12_pass_158 : decode cX12_pass 158 = .ok (.iand, 1) := by decide +kernel
theorem dX12_pass_159 : decode cX12_pass 159 = .ok (.istore_n 3, 1) := by decide +kernel
theorem dX12_pass_160 : decode cX12_pass 160 = .ok (.iinc 6 1, 3) := by decide +kernel
theorem dX12_pass_163 : decode cX12_pass 163 = .ok (.goto (-55), 3) := by decide +kernel
theorem dX12_pass_166 : decode cX12_pass 166 = .ok (.iinc 5 1, 3) := by decide +kernel
theorem dX12_pass_169 : decode cX12_pass 169 = .ok (.goto (-129), 3) := by decide +kernel
theorem dX12_pass_172 : decode cX12_pass 172 = .ok (.aload_n 0, 1) := by decide +kernel
theorem dX12_pass_173 : decode cX12_pass 173 = .ok (.iload_n 3, 1) := by decide +kernel
theorem dX12_pass_174 : decode cX12_pass 174 = .ok (.ifCond .eq 7, 3) := by decide +kernel
theorem dX12_pass_177 : decode cX12_pass 177 = .ok (.iconst 0, 1) := by decide +kernel
theorem dX12_pass_178 : decode cX12_pass 178 = .ok (.goto 4, 3) := by decide +kernel
theorem dX12_pass_181 : decode cX12_pass 181 = .ok (.iconst 2, 1) := by decide +kernel
theorem dX12_pass_182 : decode cX12_pass 182 = .ok (.invokevirtual 39, 3) := by decide +kernel
theorem dX12_pass_185 : decode cX12_pass 185 = .ok (.ifCond .eq 5, 3) := by decide +kernel
theorem dX12_pass_188 : decode cX12_pass 188 = .ok (.iconst 0, 1) := by decide +kernel
theorem dX12_pass_189 : decode cX12_pass 189 = .ok (.ireturn, 1) := by decide +kernel
theorem dX12_pass_190 : decode cX12_pass 190 = .ok (.aload_n 0, 1) := by decide +kernel
theorem dX12_pass_191 : decode cX12_pass 191 = .ok (.aload_n 2, 1) := by decide +kernel
theorem dX12_pass_192 : decode cX12_pass 192 = .ok (.putfield 11, 3) := by decide +kernel
theorem dX12_pass_195 : decode cX12_pass 195 = .ok (.iload 4, 2) := by decide +kernel
theorem dX12_pass_197 : decode cX12_pass 197 = .ok (.ireturn, 1) := by decide +kernel
theorem dX12_nearestOf_0 : decode cX12_nearestOf 0 = .ok (.iconst (-1), 1) := by decide +kernel
theorem dX12_nearestOf_1 : decode cX12_nearestOf 1 = .ok (.istore_n 3, 1) := by decide +kernel
theorem dX12_nearestOf_2 : decode cX12_nearestOf 2 = .ok (.iconst 0, 1) := by decide +kernel
theorem dX12_nearestOf_3 : decode cX12_nearestOf 3 = .ok (.istore 4, 2) := by decide +kernel
theorem dX12_nearestOf_5 : decode cX12_nearestOf 5 = .ok (.iload 4, 2) := by decide +kernel
theorem dX12_nearestOf_7 : decode cX12_nearestOf 7 = .ok (.bipush 12, 2) := by decide +kernel
theorem dX12_nearestOf_9 : decode cX12_nearestOf 9 = .ok (.if_icmp .ge 53, 3) := by decide +kernel
theorem dX12_nearestOf_12 : decode cX12_nearestOf 12 = .ok (.aload_n 0, 1) := by decide +kernel
theorem dX12_nearestOf_13 : decode cX12_nearestOf 13 = .ok (.iload 4, 2) := by decide +kernel
theorem dX12_nearestOf_15 : decode cX12_nearestOf 15 = .ok (.aaload, 1) := by decide +kernel
theorem dX12_nearestOf_16 : decode cX12_nearestOf 16 = .ok (.ifnull 38, 3) := by decide +kernel
theorem dX12_nearestOf_19 : decode cX12_nearestOf 19 = .ok (.iload_n 3, 1) := by decide +kernel
theorem dX12_nearestOf_20 : decode cX12_nearestOf 20 = .ok (.iconst (-1), 1) := by decide +kernel
theorem dX12_nearestOf_21 : decode cX12_nearestOf 21 = .ok (.if_icmp .eq 28, 3) := by decide +kernel
theorem dX12_nearestOf_24 : decode cX12_nearestOf 24 = .ok (.aload_n 0, 1) := by decide +kernel
theorem dX12_nearestOf_25 : decode cX12_nearestOf 25 = .ok (.iload 4, 2) := by decide +kernel
theorem dX12_nearestOf_27 : decode cX12_nearestOf 27 = .ok (.aaload, 1) := by decide +kernel
theorem dX12_nearestOf_28 : decode cX12_nearestOf 28 = .ok (.iload_n 1, 1) := by decide +kernel
theorem dX12_nearestOf_29 : decode cX12_nearestOf 29 = .ok (.i2l, 1) := by decide +kernel
theorem dX12_nearestOf_30 : decode cX12_nearestOf 30 = .ok (.iload_n 2, 1) := by decide +kernel
theorem dX12_nearestOf_31 : decode cX12_nearestOf 31 = .ok (.i2l, 1) := by decide +kernel
theorem dX12_nearestOf_32 : decode cX12_nearestOf 32 = .ok (.invokestatic 81, 3) := by decide +kernel
theorem dX12_nearestOf_35 : decode cX12_nearestOf 35 = .ok (.aload_n 0, 1) := by decide +kernel
theorem dX12_nearestOf_36 : decode cX12_nearestOf 36 = .ok (.iload_n 3, 1) := by decide +kernel
theorem dX12_nearestOf_37 : decode cX12_nearestOf 37 = .ok (.aaload, 1) := by decide +kernel
theorem dX12_nearestOf_38 : decode cX12_nearestOf 38 = .ok (.iload_n 1, 1) := by decide +kernel
theorem dX12_nearestOf_39 : decode cX12_nearestOf 39 = .ok (.i2l, 1) := by decide +kernel
theorem dX12_nearestOf_40 : decode cX12_nearestOf 40 = .ok (.iload_n 2, 1) := by decide +kernel
theorem dX12_nearestOf_41 : decode cX12_nearestOf 41 = .ok (.i2l, 1) := by decide +kernel
theorem dX12_nearestOf_42 : decode cX12_nearestOf 42 = .ok (.invokestatic 81, 3) := by decide +kernel
theorem dX12_nearestOf_45 : decode cX12_nearestOf 45 = .ok (.lcmp, 1) := by decide +kernel
theorem dX12_nearestOf_46 : decode cX12_nearestOf 46 = .ok (.ifCond .ge 8, 3) := by decide +kernel
theorem dX12_nearestOf_49 : decode cX12_nearestOf 49 = .ok (.iload 4, 2) := by decide +kernel
theorem dX12_nearestOf_51 : decode cX12_nearestOf 51 = .ok (.goto 4, 3) := by decide +kernel
theorem dX12_nearestOf_54 : decode cX12_nearestOf 54 = .ok (.iload_n 3, 1) := by decide +kernel
theorem dX12_nearestOf_55 : decode cX12_nearestOf 55 = .ok (.istore_n 3, 1) := by decide +kernel
theorem dX12_nearestOf_56 : decode cX12_nearestOf 56 = .ok (.iinc 4 1, 3) := by decide +kernel
theorem dX12_nearestOf_59 : decode cX12_nearestOf 59 = .ok (.goto (-54), 3) := by decide +kernel
theorem dX12_nearestOf_62 : decode cX12_nearestOf 62 = .ok (.iload_n 3, 1) := by decide +kernel
theorem dX12_nearestOf_63 : decode cX12_nearestOf 63 = .ok (.ireturn, 1) := by decide +kernel
theorem dX12_change_0 : decode cX12_change 0 = .ok (.aload_n 0, 1) := by decide +kernel
theorem dX12_change_1 : decode cX12_change 1 = .ok (.getfield 11, 3) := by decide +kernel
theorem dX12_change_4 : decode cX12_change 4 = .ok (.iload_n 1, 1) := by decide +kernel
theorem dX12_change_5 : decode cX12_change 5 = .ok (.iload_n 2, 1) := by decide +kernel
theorem dX12_change_6 : decode cX12_change 6 = .ok (.invokestatic 267, 3) := by decide +kernel
theorem dX12_change_9 : decode cX12_change 9 = .ok (.istore_n 3, 1) := by decide +kernel
theorem dX12_change_10 : decode cX12_change 10 = .ok (.iconst 1, 1) := by decide +kernel
theorem dX12_change_11 : decode cX12_change 11 = .ok (.istore 4, 2) := by decide +kernel
theorem dX12_change_13 : decode cX12_change 13 = .ok (.iload 4, 2) := by decide +kernel
theorem dX12_change_15 : decode cX12_change 15 = .ok (.bipush 99, 2) := by decide +kernel
theorem dX12_change_17 : decode cX12_change 17 = .ok (.if_icmp .gt 27, 3) := by decide +kernel
theorem dX12_change_20 : decode cX12_change 20 = .ok (.aload_n 0, 1) := by decide +kernel
theorem dX12_change_21 : decode cX12_change 21 = .ok (.iload 4, 2) := by decide +kernel
theorem dX12_change_23 : decode cX12_change 23 = .ok (.invokevirtual 263, 3) := by decide +kernel
theorem dX12_change_26 : decode cX12_change 26 = .ok (.iload_n 1, 1) := by decide +kernel
theorem dX12_change_27 : decode cX12_change 27 = .ok (.iload_n 2, 1) := by decide +kernel
theorem dX12_change_28 : decode cX12_change 28 = .ok (.invokestatic 267, 3) := by decide +kernel
theorem dX12_change_31 : decode cX12_change 31 = .ok (.iload_n 3, 1) := by decide +kernel
theorem dX12_change_32 : decode cX12_change 32 = .ok (.if_icmp .eq 6, 3) := by decide +kernel
theorem dX12_change_35 : decode cX12_change 35 = .ok (.iload 4, 2) := by decide +kernel
theorem dX12_change_37 : decode cX12_change 37 = .ok (.ireturn, 1) := by decide +kernel
theorem dX12_change_38 : decode cX12_change 38 = .ok (.iinc 4 1, 3) := by decide +kernel
theorem dX12_change_41 : decode cX12_change 41 = .ok (.goto (-28), 3) := by decide +kernel
theorem dX12_change_44 : decode cX12_change 44 = .ok (.iconst (-1), 1) := by decide +kernel
theorem dX12_change_45 : decode cX12_change 45 = .ok (.ireturn, 1) := by decide +kernel
theorem dX12_isNoChange_0 : decode cX12_isNoChange 0 = .ok (.aload_n 0, 1) := by decide +kernel
theorem dX12_isNoChange_1 : decode cX12_isNoChange 1 = .ok (.iload_n 1, 1) := by decide +kernel
theorem dX12_isNoChange_2 : decode cX12_isNoChange 2 = .ok (.iload_n 2, 1) := by decide +kernel
theorem dX12_isNoChange_3 : decode cX12_isNoChange 3 = .ok (.bipush 100, 2) := by decide +kernel
theorem dX12_isNoChange_5 : decode cX12_isNoChange 5 = .ok (.invokestatic 64, 3) := by decide +kernel
theorem dX12_isNoChange_8 : decode cX12_isNoChange 8 = .ok (.ifCond .ne 7, 3) := by decide +kernel
theorem dX12_isNoChange_11 : decode cX12_isNoChange 11 = .ok (.iconst 1, 1) := by decide +kernel
theorem dX12_isNoChange_12 : decode cX12_isNoChange 12 = .ok (.goto 25, 3) := by decide +kernel
theorem dX12_isNoChange_15 : decode cX12_isNoChange 15 = .ok (.aload_n 0, 1) := by decide +kernel
theorem dX12_isNoChange_16 : decode cX12_isNoChange 16 = .ok (.invokevirtual 72, 3) := by decide +kernel
theorem dX12_isNoChange_19 : decode cX12_isNoChange 19 = .ok (.ifCond .eq 13, 3) := by decide +kernel
theorem dX12_isNoChange_22 : decode cX12_isNoChange 22 = .ok (.aload_n 0, 1) := by decide +kernel
theorem dX12_isNoChange_23 : decode cX12_isNoChange 23 = .ok (.iload_n 1, 1) := by decide +kernel
theorem dX12_isNoChange_24 : decode cX12_isNoChange 24 = .ok (.iload_n 2, 1) := by decide +kernel
theorem dX12_isNoChange_25 : decode cX12_isNoChange 25 = .ok (.invokevirtual 271, 3) := by decide +kernel
theorem dX12_isNoChange_28 : decode cX12_isNoChange 28 = .ok (.iconst (-1), 1) := by decide +kernel
theorem dX12_isNoChange_29 : decode cX12_isNoChange 29 = .ok (.if_icmp .ne 7, 3) := by decide +kernel
theorem dX12_isNoChange_32 : decode cX12_isNoChange 32 = .ok (.iconst 2, 1) := by decide +kernel
theorem dX12_isNoChange_33 : decode cX12_isNoChange 33 = .ok (.goto 4, 3) := by decide +kernel
theorem dX12_isNoChange_36 : decode cX12_isNoChange 36 = .ok (.iconst 0, 1) := by decide +kernel
theorem dX12_isNoChange_37 : decode cX12_isNoChange 37 = .ok (.invokevirtual 39, 3) := by decide +kernel
theorem dX12_isNoChange_40 : decode cX12_isNoChange 40 = .ok (.ireturn, 1) := by decide +kernel
theorem dX12_nextNearest_0 : decode cX12_nextNearest 0 = .ok (.aload_n 0, 1) := by decide +kernel
theorem dX12_nextNearest_1 : decode cX12_nextNearest 1 = .ok (.iload_n 1, 1) := by decide +kernel
theorem dX12_nextNearest_2 : decode cX12_nextNearest 2 = .ok (.iload_n 2, 1) := by decide +kernel
theorem dX12_nextNearest_3 : decode cX12_nextNearest 3 = .ok (.invokevirtual 274, 3) := by decide +kernel
theorem dX12_nextNearest_6 : decode cX12_nextNearest 6 = .ok (.ifCond .eq 7, 3) := by decide +kernel
theorem dX12_nextNearest_9 : decode cX12_nextNearest 9 = .ok (.iconst 0, 1) := by decide +kernel
theorem dX12_nextNearest_10 : decode cX12_nextNearest 10 = .ok (.goto 18, 3) := by decide +kernel
theorem dX12_nextNearest_13 : decode cX12_nextNearest 13 = .ok (.aload_n 0, 1) := by decide +kernel
theorem dX12_nextNearest_14 : decode cX12_nextNearest 14 = .ok (.aload_n 0, 1) := by decide +kernel
theorem dX12_nextNearest_15 : decode cX12_nextNearest 15 = .ok (.iload_n 1, 1) := by decide +kernel
theorem dX12_nextNearest_16 : decode cX12_nextNearest 16 = .ok (.iload_n 2, 1) := by decide +kernel
theorem dX12_nextNearest_17 : decode cX12_nextNearest 17 = .ok (.invokevirtual 271, 3) := by decide +kernel
theorem dX12_nextNearest_20 : decode cX12_nextNearest 20 = .ok (.invokevirtual 263, 3) := by decide +kernel
theorem dX12_nextNearest_23 : decode cX12_nextNearest 23 = .ok (.iload_n 1, 1) := by decide +kernel
theorem dX12_nextNearest_24 : decode cX12_nextNearest 24 = .ok (.iload_n 2, 1) := by decide +kernel
theorem dX12_nextNearest_25 : decode cX12_nextNearest 25 = .ok (.invokestatic 267, 3) := by decide +kernel
theorem dX12_nextNearest_28 : decode cX12_nextNearest 28 = .ok (.ireturn, 1) := by decide +kernel
theorem dX12_nextTime_0 : decode cX12_nextTime 0 = .ok (.aload_n 0, 1) := by decide +kernel
theorem dX12_nextTime_1 : decode cX12_nextTime 1 = .ok (.iload_n 1, 1) := by decide +kernel
theorem dX12_nextTime_2 : decode cX12_nextTime 2 = .ok (.iload_n 2, 1) := by decide +kernel
theorem dX12_nextTime_3 : decode cX12_nextTime 3 = .ok (.invokevirtual 274, 3) := by decide +kernel
theorem dX12_nextTime_6 : decode cX12_nextTime 6 = .ok (.ifCond .eq 7, 3) := by decide +kernel
theorem dX12_nextTime_9 : decode cX12_nextTime 9 = .ok (.iconst 0, 1) := by decide +kernel
theorem dX12_nextTime_10 : decode cX12_nextTime 10 = .ok (.goto 9, 3) := by decide +kernel
theorem dX12_nextTime_13 : decode cX12_nextTime 13 = .ok (.aload_n 0, 1) := by decide +kernel
theorem dX12_nextTime_14 : decode cX12_nextTime 14 = .ok (.iload_n 1, 1) := by decide +kernel
theorem dX12_nextTime_15 : decode cX12_nextTime 15 = .ok (.iload_n 2, 1) := by decide +kernel
theorem dX12_nextTime_16 : decode cX12_nextTime 16 = .ok (.invokevirtual 271, 3) := by decide +kernel
theorem dX12_nextTime_19 : decode cX12_nextTime 19 = .ok (.ireturn, 1) := by decide +kernel
theorem dX12_between_0 : decode cX12_between 0 = .ok (.ldc2_w 277, 3) := by decide +kernel
theorem dX12_between_3 : decode cX12_between 3 = .ok (.lstore 5, 2) := by decide +kernel
theorem dX12_between_5 : decode cX12_between 5 = .ok (.iconst 0, 1) := by decide +kernel
theorem dX12_between_6 : decode cX12_between 6 = .ok (.istore 7, 2) := by decide +kernel
theorem dX12_between_8 : decode cX12_between 8 = .ok (.iload 7, 2) := by decide +kernel
theorem dX12_between_10 : decode cX12_between 10 = .ok (.bipush 12, 2) := by decide +kernel
theorem dX12_between_12 : decode cX12_between 12 = .ok (.if_icmp .ge 122, 3) := by decide +kernel
theorem dX12_between_15 : decode cX12_between 15 = .ok (.iconst 0, 1) := by decide +kernel
theorem dX12_between_16 : decode cX12_between 16 = .ok (.istore 8, 2) := by decide +kernel
theorem dX12_between_18 : decode cX12_between 18 = .ok (.iload 8, 2) := by decide +kernel
theorem dX12_between_20 : decode cX12_between 20 = .ok (.bipush 12, 2) := by decide +kernel
theorem dX12_between_22 : decode cX12_between 22 = .ok (.if_icmp .ge 106, 3) := by decide +kernel
theorem dX12_between_25 : decode cX12_between 25 = .ok (.aload_n 0, 1) := by decide +kernel
theorem dX12_between_26 : decode cX12_between 26 = .ok (.getfield 11, 3) := by decide +kernel
theorem dX12_between_29 : decode cX12_between 29 = .ok (.iload 7, 2) := by decide +kernel
theorem dX12_between_31 : decode cX12_between 31 = .ok (.aaload, 1) := by decide +kernel
theorem dX12_between_32 : decode cX12_between 32 = .ok (.ifnull 90, 3) := by decide +kernel
theorem dX12_between_35 : decode cX12_between 35 = .ok (.aload_n 0, 1) := by decide +kernel
theorem dX12_between_36 : decode cX12_between 36 = .ok (.getfield 11, 3) := by decide +kernel
theorem dX12_between_39 : decode cX12_between 39 = .ok (.iload 8, 2) := by decide +kernel
theorem dX12_between_41 : decode cX12_between 41 = .ok (.aaload, 1) := by decide +kernel
theorem dX12_between_42 : decode cX12_between 42 = .ok (.ifnull 80, 3) := by decide +kernel
theorem dX12_between_45 : decode cX12_between 45 = .ok (.aload_n 2, 1) := by decide +kernel
theorem dX12_between_46 : decode cX12_between 46 = .ok (.iload 7, 2) := by decide +kernel
theorem dX12_between_48 : decode cX12_between 48 = .ok (.iaload, 1) := by decide +kernel
theorem dX12_between_49 : decode cX12_between 49 = .ok (.iload_n 3, 1) := by decide +kernel
theorem dX12_between_50 : decode cX12_between 50 = .ok (.if_icmp .ne 72, 3) := by decide +kernel
theorem dX12_between_53 : decode cX12_between 53 = .ok (.aload_n 2, 1) := by decide +kernel
theorem dX12_between_54 : decode cX12_between 54 = .ok (.iload 8, 2) := by decide +kernel
theorem dX12_between_56 : decode cX12_between 56 = .ok (.iaload, 1) := by decide +kernel
theorem dX12_between_57 : decode cX12_between 57 = .ok (.iload 4, 2) := by decide +kernel
theorem dX12_between_59 : decode cX12_between 59 = .ok (.if_icmp .eq 6, 3) := by decide +kernel
theorem dX12_between_62 : decode cX12_between 62 = .ok (.goto 60, 3) := by decide +kernel
theorem dX12_between_65 : decode cX12_between 65 = .ok (.lload 5, 2) := by decide +kernel
theorem dX12_between_67 : decode cX12_between 67 = .ok (.ldc2_w 277, 3) := by decide +kernel
theorem dX12_between_70 : decode cX12_between 70 = .ok (.lcmp, 1) := by decide +kernel
theorem dX12_between_71 : decode cX12_between 71 = .ok (.ifCond .ne 14, 3) := by decide +kernel
theorem dX12_between_74 : decode cX12_between 74 = .ok (.aload_n 0, 1) := by decide +kernel
theorem dX12_between_75 : decode cX12_between 75 = .ok (.iload 7, 2) := by decide +kernel
theorem dX12_between_77 : decode cX12_between 77 = .ok (.iload 8, 2) := by decide +kernel
theorem dX12_between_79 : decode cX12_between 79 = .ok (.invokevirtual 160, 3) := by decide +kernel
theorem dX12_between_82 : decode cX12_between 82 = .ok (.goto 38, 3) := by decide +kernel
theorem dX12_between_85 : decode cX12_between 85 = .ok (.iload_n 1, 1) := by decide +kernel
theorem dX12_between_86 : decode cX12_between 86 = .ok (.bipush 97, 2) := by decide +kernel
theorem dX12_between_88 : decode cX12_between 88 = .ok (.if_icmp .ne 19, 3) := by decide +kernel
theorem dX12_between_91 : decode cX12_between 91 = .ok (.lload 5, 2) := by decide +kernel
theorem dX12_between_93 : decode cX12_between 93 = .ok (.aload_n 0, 1) := by decide +kernel
theorem dX12_between_94 : decode cX12_between 94 = .ok (.iload 7, 2) := by decide +kernel
theorem dX12_between_96 : decode cX12_between 96 = .ok (.iload 8, 2) := by decide +kernel
theorem dX12_between_98 : decode cX12_between 98 = .ok (.invokevirtual 160, 3) := by decide +kernel
theorem dX12_between_101 : decode cX12_between 101 = .ok (.invokestatic 279, 3) := by decide +kernel
theorem dX12_between_104 : decode cX12_between 104 = .ok (.goto 16, 3) := by decide +kernel
theorem dX12_between_107 : decode cX12_between 107 = .ok (.lload 5, 2) := by decide +kernel
theorem dX12_between_109 : decode cX12_between 109 = .ok (.aload_n 0, 1) := by decide +kernel
theorem dX12_between_110 : decode cX12_between 110 = .ok (.iload 7, 2) := by decide +kernel
theorem dX12_between_112 : decode cX12_between 112 = .ok (.iload 8, 2) := by decide +kernel
theorem dX12_between_114 : decode cX12_between 114 = .ok (.invokevirtual 160, 3) := by decide +kernel
theorem dX12_between_117 : decode cX12_between 117 = .ok (.invokestatic 169, 3) := by decide +kernel
theorem dX12_between_120 : decode cX12_between 120 = .ok (.lstore 5, 2) := by decide +kernel
theorem dX12_between_122 : decode cX12_between 122 = .ok (.iinc 8 1, 3) := by decide +kernel
theorem dX12_between_125 : decode cX12_between 125 = .ok (.goto (-107), 3) := by decide +kernel
theorem dX12_between_128 : decode cX12_between 128 = .ok (.iinc 7 1, 3) := by decide +kernel
theorem dX12_between_131 : decode cX12_between 131 = .ok (.goto (-123), 3) := by decide +kernel
theorem dX12_between_134 : decode cX12_between 134 = .ok (.lload 5, 2) := by decide +kernel
theorem dX12_between_136 : decode cX12_between 136 = .ok (.lreturn, 1) := by decide +kernel
theorem dX12_clusters_0 : decode cX12_clusters 0 = .ok (.bipush 12, 2) := by decide +kernel
theorem dX12_clusters_2 : decode cX12_clusters 2 = .ok (.newarray .int, 2) := by decide +kernel
theorem dX12_clusters_4 : decode cX12_clusters 4 = .ok (.astore_n 3, 1) := by decide +kernel
theorem dX12_clusters_5 : decode cX12_clusters 5 = .ok (.iconst 0, 1) := by decide +kernel
theorem dX12_clusters_6 : decode cX12_clusters 6 = .ok (.istore 4, 2) := by decide +kernel
theorem dX12_clusters_8 : decode cX12_clusters 8 = .ok (.iload 4, 2) := by decide +kernel
theorem dX12_clusters_10 : decode cX12_clusters 10 = .ok (.bipush 12, 2) := by decide +kernel
theorem dX12_clusters_12 : decode cX12_clusters 12 = .ok (.if_icmp .ge 15, 3) := by decide +kernel
theorem dX12_clusters_15 : decode cX12_clusters 15 = .ok (.aload_n 3, 1) := by decide +kernel
theorem dX12_clusters_16 : decode cX12_clusters 16 = .ok (.iload 4, 2) := by decide +kernel
theorem dX12_clusters_18 : decode cX12_clusters 18 = .ok (.iload 4, 2) := by decide +kernel
theorem dX12_clusters_20 : decode cX12_clusters 20 = .ok (.iastore, 1) := by decide +kernel
theorem dX12_clusters_21 : decode cX12_clusters 21 = .ok (.iinc 4 1, 3) := by decide +kernel
theorem dX12_clusters_24 : decode cX12_clusters 24 = .ok (.goto (-16), 3) := by decide +kernel
theorem dX12_clusters_27 : decode cX12_clusters 27 = .ok (.aload_n 0, 1) := by decide +kernel
theorem dX12_clusters_28 : decode cX12_clusters 28 = .ok (.invokevirtual 72, 3) := by decide +kernel
theorem dX12_clusters_31 : decode cX12_clusters 31 = .ok (.istore 4, 2) := by decide +kernel
theorem dX12_clusters_33 : decode cX12_clusters 33 = .ok (.iload 4, 2) := by decide +kernel
theorem dX12_clusters_35 : decode cX12_clusters 35 = .ok (.iload_n 2, 1) := by decide +kernel
theorem dX12_clusters_36 : decode cX12_clusters 36 = .ok (.if_icmp .le 174, 3) := by decide +kernel
theorem dX12_clusters_39 : decode cX12_clusters 39 = .ok (.iconst (-1), 1) := by decide +kernel
theorem dX12_clusters_40 : decode cX12_clusters 40 = .ok (.istore 5, 2) := by decide +kernel
theorem dX12_clusters_42 : decode cX12_clusters 42 = .ok (.iconst (-1), 1) := by decide +kernel
theorem dX12_clusters_43 : decode cX12_clusters 43 = .ok (.istore 6, 2) := by decide +kernel
theorem dX12_clusters_45 : decode cX12_clusters 45 = .ok (.iconst 0, 1) := by decide +kernel
theorem dX12_clusters_46 : decode cX12_clusters 46 = .ok (.istore 7, 2) := by decide +kernel
theorem dX12_clusters_48 : decode cX12_clusters 48 = .ok (.iload 7, 2) := by decide +kernel
theorem dX12_clusters_50 : decode cX12_clusters 50 = .ok (.bipush 12, 2) := by decide +kernel
theorem dX12_clusters_52 : decode cX12_clusters 52 = .ok (.if_icmp .ge 114, 3) := by decide +kernel
theorem dX12_clusters_55 : decode cX12_clusters 55 = .ok (.iload 7, 2) := by decide +kernel
theorem dX12_clusters_57 : decode cX12_clusters 57 = .ok (.iconst 1, 1) := by decide +kernel
theorem dX12_clusters_58 : decode cX12_clusters 58 = .ok (.iadd, 1) := by decide +kernel
theorem dX12_clusters_59 : decode cX12_clusters 59 = .ok (.istore 8, 2) := by decide +kernel
theorem dX12_clusters_61 : decode cX12_clusters 61 = .ok (.iload 8, 2) := by decide +kernel
theorem dX12_clusters_63 : decode cX12_clusters 63 = .ok (.bipush 12, 2) := by decide +kernel
theorem dX12_clusters_65 : decode cX12_clusters 65 = .ok (.if_icmp .ge 95, 3) := by decide +kernel
theorem dX12_clusters_68 : decode cX12_clusters 68 = .ok (.aload_n 0, 1) := by decide +kernel
theorem dX12_clusters_69 : decode cX12_clusters 69 = .ok (.getfield 11, 3) := by decide +kernel
theorem dX12_clusters_72 : decode cX12_clusters 72 = .ok (.iload 7, 2) := by decide +kernel
theorem dX12_clusters_74 : decode cX12_clusters 74 = .ok (.aaload, 1) := by decide +kernel
theorem dX12_clusters_75 : decode cX12_clusters 75 = .ok (.ifnull 79, 3) := by decide +kernel
theorem dX12_clusters_78 : decode cX12_clusters 78 = .ok (.aload_n 0, 1) := by decide +kernel
theorem dX12_clusters_79 : decode cX12_clusters 79 = .ok (.getfield 11, 3) := by decide +kernel
theorem dX12_clusters_82 : decode cX12_clusters 82 = .ok (.iload 8, 2) := by decide +kernel
theorem dX12_clusters_84 : decode cX12_clusters 84 = .ok (.aaload, 1) := by decide +kernel
theorem dX12_clusters_85 : decode cX12_clusters 85 = .ok (.ifnull 69, 3) := by decide +kernel
theorem dX12_clusters_88 : decode cX12_clusters 88 = .ok (.aload_n 3, 1) := by decide +kernel
theorem dX12_clusters_89 : decode cX12_clusters 89 = .ok (.iload 7, 2) := by decide +kernel
theorem dX12_clusters_91 : decode cX12_clusters 91 = .ok (.iaload, 1) := by decide +kernel
theorem dX12_clusters_92 : decode cX12_clusters 92 = .ok (.iload 7, 2) := by decide +kernel
theorem dX12_clusters_94 : decode cX12_clusters 94 = .ok (.if_icmp .ne 60, 3) := by decide +kernel
theorem dX12_clusters_97 : decode cX12_clusters 97 = .ok (.aload_n 3, 1) := by decide +kernel
theorem dX12_clusters_98 : decode cX12_clusters 98 = .ok (.iload 8, 2) := by decide +kernel
theorem dX12_clusters_100 : decode cX12_clusters 100 = .ok (.iaload, 1) := by decide +kernel
theorem dX12_clusters_101 : decode cX12_clusters 101 = .ok (.iload 8, 2) := by decide +kernel
theorem dX12_clusters_103 : decode cX12_clusters 103 = .ok (.if_icmp .eq 6, 3) := by decide +kernel
theorem dX12_clusters_106 : decode cX12_clusters 106 = .ok (.goto 48, 3) := by decide +kernel
theorem dX12_clusters_109 : decode cX12_clusters 109 = .ok (.aload_n 0, 1) := by decide +kernel
theorem dX12_clusters_110 : decode cX12_clusters 110 = .ok (.iload_n 1, 1) := by decide +kernel
theorem dX12_clusters_111 : decode cX12_clusters 111 = .ok (.aload_n 3, 1) := by decide +kernel
theorem dX12_clusters_112 : decode cX12_clusters 112 = .ok (.iload 7, 2) := by decide +kernel
theorem dX12_clusters_114 : decode cX12_clusters 114 = .ok (.iload 8, 2) := by decide +kernel
theorem dX12_clusters_116 : decode cX12_clusters 116 = .ok (.invokevirtual 281, 3) := by decide +kernel
theorem dX12_clusters_119 : decode cX12_clusters 119 = .ok (.lstore 9, 2) := by decide +kernel
theorem dX12_clusters_121 : decode cX12_clusters 121 = .ok (.iload 5, 2) := by decide +kernel
theorem dX12_clusters_123 : decode cX12_clusters 123 = .ok (.iconst (-1), 1) := by decide +kernel
theorem dX12_clusters_124 : decode cX12_clusters 124 = .ok (.if_icmp .eq 16, 3) := by decide +kernel
theorem dX12_clusters_127 : decode cX12_clusters 127 = .ok (.lload 9, 2) := by decide +kernel
theorem dX12_clusters_129 : decode cX12_clusters 129 = .ok (.aload_n 0, 1) := by decide +kernel
theorem dX12_clusters_130 : decode cX12_clusters 130 = .ok (.getfield 284, 3) := by decide +kernel
theorem dX12_clusters_133 : decode cX12_clusters 133 = .ok (.lcmp, 1) := by decide +kernel
theorem dX12_clusters_134 : decode cX12_clusters 134 = .ok (.ifCond .lt 6, 3) := by decide +kernel
theorem dX12_clusters_137 : decode cX12_clusters 137 = .ok (.goto 17, 3) := by decide +kernel
theorem dX12_clusters_140 : decode cX12_clusters 140 = .ok (.iload 7, 2) := by decide +kernel
theorem dX12_clusters_142 : decode cX12_clusters 142 = .ok (.istore 5, 2) := by decide +kernel
theorem dX12_clusters_144 : decode cX12_clusters 144 = .ok (.iload 8, 2) := by decide +kernel
theorem dX12_clusters_146 : decode cX12_clusters 146 = .ok (.istore 6, 2) := by decide +kernel
theorem dX12_clusters_148 : decode cX12_clusters 148 = .ok (.aload_n 0, 1) := by decide +kernel
theorem dX12_clusters_149 : decode cX12_clusters 149 = .ok (.lload 9, 2) := by decide +kernel
theorem dX12_clusters_151 : decode cX12_clusters 151 = .ok (.putfield 284, 3) := by decide +kernel
theorem dX12_clusters_154 : decode cX12_clusters 154 = .ok (.iinc 8 1, 3) := by decide +kernel
theorem dX12_clusters_157 : decode cX12_clusters 157 = .ok (.goto (-96), 3) := by decide +kernel
theorem dX12_clusters_160 : decode cX12_clusters 160 = .ok (.iinc 7 1, 3) := by decide +kernel
theorem dX12_clusters_163 : decode cX12_clusters 163 = .ok (.goto (-115), 3) := by decide +kernel
theorem dX12_clusters_166 : decode cX12_clusters 166 = .ok (.iconst 0, 1) := by decide +kernel
theorem dX12_clusters_167 : decode cX12_clusters 167 = .ok (.istore 7, 2) := by decide +kernel
theorem dX12_clusters_169 : decode cX12_clusters 169 = .ok (.iload 7, 2) := by decide +kernel
theorem dX12_clusters_171 : decode cX12_clusters 171 = .ok (.bipush 12, 2) := by decide +kernel
theorem dX12_clusters_173 : decode cX12_clusters 173 = .ok (.if_icmp .ge 31, 3) := by decide +kernel
theorem dX12_clusters_176 : decode cX12_clusters 176 = .ok (.aload_n 3, 1) := by decide +kernel
theorem dX12_clusters_177 : decode cX12_clusters 177 = .ok (.iload 7, 2) := by decide +kernel
theorem dX12_clusters_179 : decode cX12_clusters 179 = .ok (.aload_n 3, 1) := by decide +kernel
theorem dX12_clusters_180 : decode cX12_clusters 180 = .ok (.iload 7, 2) := by decide +kernel
theorem dX12_clusters_182 : decode cX12_clusters 182 = .ok (.iaload, 1) := by decide +kernel
theorem dX12_clusters_183 : decode cX12_clusters 183 = .ok (.iload 6, 2) := by decide +kernel
theorem dX12_clusters_185 : decode cX12_clusters 185 = .ok (.if_icmp .ne 8, 3) := by decide +kernel
theorem dX12_clusters_188 : decode cX12_clusters 188 = .ok (.iload 5, 2) := by decide +kernel
theorem dX12_clusters_190 : decode cX12_clusters 190 = .ok (.goto 7, 3) := by decide +kernel
theorem dX12_clusters_193 : decode cX12_clusters 193 = .ok (.aload_n 3, 1) := by decide +kernel
theorem dX12_clusters_194 : decode cX12_clusters 194 = .ok (.iload 7, 2) := by decide +kernel
theorem dX12_clusters_196 : decode cX12_clusters 196 = .ok (.iaload, 1) := by decide +kernel
theorem dX12_clusters_197 : decode cX12_clusters 197 = .ok (.iastore, 1) := by decide +kernel
theorem dX12_clusters_198 : decode cX12_clusters 198 = .ok (.iinc 7 1, 3) := by decide +kernel
theorem dX12_clusters_201 : decode cX12_clusters 201 = .ok (.goto (-32), 3) := by decide +kernel
theorem dX12_clusters_204 : decode cX12_clusters 204 = .ok (.iinc 4 (-1), 3) := by decide +kernel
theorem dX12_clusters_207 : decode cX12_clusters 207 = .ok (.goto (-174), 3) := by decide +kernel
theorem dX12_clusters_210 : decode cX12_clusters 210 = .ok (.aload_n 3, 1) := by decide +kernel
theorem dX12_clusters_211 : decode cX12_clusters 211 = .ok (.areturn, 1) := by decide +kernel
theorem dX12_isNoCut_0 : decode cX12_isNoCut 0 = .ok (.iload_n 1, 1) := by decide +kernel
theorem dX12_isNoCut_1 : decode cX12_isNoCut 1 = .ok (.bipush 97, 2) := by decide +kernel
theorem dX12_isNoCut_3 : decode cX12_isNoCut 3 = .ok (.if_icmp .eq 9, 3) := by decide +kernel
theorem dX12_isNoCut_6 : decode cX12_isNoCut 6 = .ok (.iload_n 1, 1) := by decide +kernel
theorem dX12_isNoCut_7 : decode cX12_isNoCut 7 = .ok (.bipush 122, 2) := by decide +kernel
theorem dX12_isNoCut_9 : decode cX12_isNoCut 9 = .ok (.if_icmp .ne 14, 3) := by decide +kernel
theorem dX12_isNoCut_12 : decode cX12_isNoCut 12 = .ok (.iload_n 2, 1) := by decide +kernel
theorem dX12_isNoCut_13 : decode cX12_isNoCut 13 = .ok (.i2l, 1) := by decide +kernel
theorem dX12_isNoCut_14 : decode cX12_isNoCut 14 = .ok (.lconst 1, 1) := by decide +kernel
theorem dX12_isNoCut_15 : decode cX12_isNoCut 15 = .ok (.iload_n 3, 1) := by decide +kernel
theorem dX12_isNoCut_16 : decode cX12_isNoCut 16 = .ok (.i2l, 1) := by decide +kernel
theorem dX12_isNoCut_17 : decode cX12_isNoCut 17 = .ok (.invokestatic 29, 3) := by decide +kernel
theorem dX12_isNoCut_20 : decode cX12_isNoCut 20 = .ok (.ifCond .ne 7, 3) := by decide +kernel
theorem dX12_isNoCut_23 : decode cX12_isNoCut 23 = .ok (.iconst 1, 1) := by decide +kernel
theorem dX12_isNoCut_24 : decode cX12_isNoCut 24 = .ok (.goto 4, 3) := by decide +kernel
theorem dX12_isNoCut_27 : decode cX12_isNoCut 27 = .ok (.iconst 0, 1) := by decide +kernel
theorem dX12_isNoCut_28 : decode cX12_isNoCut 28 = .ok (.ireturn, 1) := by decide +kernel
theorem dX12_cluster_0 : decode cX12_cluster 0 = .ok (.aload_n 0, 1) := by decide +kernel
theorem dX12_cluster_1 : decode cX12_cluster 1 = .ok (.iload_n 3, 1) := by decide +kernel
theorem dX12_cluster_2 : decode cX12_cluster 2 = .ok (.invokevirtual 78, 3) := by decide +kernel
theorem dX12_cluster_5 : decode cX12_cluster 5 = .ok (.ifCond .ne 28, 3) := by decide +kernel
theorem dX12_cluster_8 : decode cX12_cluster 8 = .ok (.aload_n 0, 1) := by decide +kernel
theorem dX12_cluster_9 : decode cX12_cluster 9 = .ok (.aload_n 0, 1) := by decide +kernel
theorem dX12_cluster_10 : decode cX12_cluster 10 = .ok (.iload_n 1, 1) := by decide +kernel
theorem dX12_cluster_11 : decode cX12_cluster 11 = .ok (.iload_n 2, 1) := by decide +kernel
theorem dX12_cluster_12 : decode cX12_cluster 12 = .ok (.aload_n 0, 1) := by decide +kernel
theorem dX12_cluster_13 : decode cX12_cluster 13 = .ok (.invokevirtual 72, 3) := by decide +kernel
theorem dX12_cluster_16 : decode cX12_cluster 16 = .ok (.invokevirtual 288, 3) := by decide +kernel
theorem dX12_cluster_19 : decode cX12_cluster 19 = .ok (.ifCond .eq 7, 3) := by decide +kernel
theorem dX12_cluster_22 : decode cX12_cluster 22 = .ok (.iconst 2, 1) := by decide +kernel
theorem dX12_cluster_23 : decode cX12_cluster 23 = .ok (.goto 4, 3) := by decide +kernel
theorem dX12_cluster_26 : decode cX12_cluster 26 = .ok (.iconst 0, 1) := by decide +kernel
theorem dX12_cluster_27 : decode cX12_cluster 27 = .ok (.invokevirtual 39, 3) := by decide +kernel
theorem dX12_cluster_30 : decode cX12_cluster 30 = .ok (.ifCond .eq 7, 3) := by decide +kernel
theorem dX12_cluster_33 : decode cX12_cluster 33 = .ok (.iconst 0, 1) := by decide +kernel
theorem dX12_cluster_34 : decode cX12_cluster 34 = .ok (.goto 11, 3) := by decide +kernel
theorem dX12_cluster_37 : decode cX12_cluster 37 = .ok (.aload_n 0, 1) := by decide +kernel
theorem dX12_cluster_38 : decode cX12_cluster 38 = .ok (.iload_n 1, 1) := by decide +kernel
theorem dX12_cluster_39 : decode cX12_cluster 39 = .ok (.iload_n 2, 1) := by decide +kernel
theorem dX12_cluster_40 : decode cX12_cluster 40 = .ok (.invokevirtual 292, 3) := by decide +kernel
theorem dX12_cluster_43 : decode cX12_cluster 43 = .ok (.iload_n 3, 1) := by decide +kernel
theorem dX12_cluster_44 : decode cX12_cluster 44 = .ok (.iaload, 1) := by decide +kernel
theorem dX12_cluster_45 : decode cX12_cluster 45 = .ok (.ireturn, 1) := by decide +kernel
theorem dX12_joinedAt_0 : decode cX12_joinedAt 0 = .ok (.aload_n 0, 1) := by decide +kernel
theorem dX12_joinedAt_1 : decode cX12_joinedAt 1 = .ok (.aload_n 0, 1) := by decide +kernel
theorem dX12_joinedAt_2 : decode cX12_joinedAt 2 = .ok (.iload_n 1, 1) := by decide +kernel
theorem dX12_joinedAt_3 : decode cX12_joinedAt 3 = .ok (.iload_n 2, 1) := by decide +kernel
theorem dX12_joinedAt_4 : decode cX12_joinedAt 4 = .ok (.aload_n 0, 1) := by decide +kernel
theorem dX12_joinedAt_5 : decode cX12_joinedAt 5 = .ok (.invokevirtual 72, 3) := by decide +kernel
theorem dX12_joinedAt_8 : decode cX12_joinedAt 8 = .ok (.iconst 1, 1) := by decide +kernel
theorem dX12_joinedAt_9 : decode cX12_joinedAt 9 = .ok (.isub, 1) := by decide +kernel
theorem dX12_joinedAt_10 : decode cX12_joinedAt 10 = .ok (.invokevirtual 288, 3) := by decide +kernel
theorem dX12_joinedAt_13 : decode cX12_joinedAt 13 = .ok (.ifCond .eq 7, 3) := by decide +kernel
theorem dX12_joinedAt_16 : decode cX12_joinedAt 16 = .ok (.iconst 1, 1) := by decide +kernel
theorem dX12_joinedAt_17 : decode cX12_joinedAt 17 = .ok (.goto 4, 3) := by decide +kernel
theorem dX12_joinedAt_20 : decode cX12_joinedAt 20 = .ok (.iconst 0, 1) := by decide +kernel
theorem dX12_joinedAt_21 : decode cX12_joinedAt 21 = .ok (.invokevirtual 39, 3) := by decide +kernel
theorem dX12_joinedAt_24 : decode cX12_joinedAt 24 = .ok (.ifCond .eq 5, 3) := by decide +kernel
theorem dX12_joinedAt_27 : decode cX12_joinedAt 27 = .ok (.iconst 0, 1) := by decide +kernel
theorem dX12_joinedAt_28 : decode cX12_joinedAt 28 = .ok (.ireturn, 1) := by decide +kernel
theorem dX12_joinedAt_29 : decode cX12_joinedAt 29 = .ok (.aload_n 0, 1) := by decide +kernel
theorem dX12_joinedAt_30 : decode cX12_joinedAt 30 = .ok (.iload_n 1, 1) := by decide +kernel
theorem dX12_joinedAt_31 : decode cX12_joinedAt 31 = .ok (.iload_n 2, 1) := by decide +kernel
theorem dX12_joinedAt_32 : decode cX12_joinedAt 32 = .ok (.invokevirtual 292, 3) := by decide +kernel
theorem dX12_joinedAt_35 : decode cX12_joinedAt 35 = .ok (.pop, 1) := by decide +kernel
theorem dX12_joinedAt_36 : decode cX12_joinedAt 36 = .ok (.aload_n 0, 1) := by decide +kernel
theorem dX12_joinedAt_37 : decode cX12_joinedAt 37 = .ok (.getfield 284, 3) := by decide +kernel
theorem dX12_joinedAt_40 : decode cX12_joinedAt 40 = .ok (.l2i, 1) := by decide +kernel
theorem dX12_joinedAt_41 : decode cX12_joinedAt 41 = .ok (.ireturn, 1) := by decide +kernel
theorem dX12_worst_0 : decode cX12_worst 0 = .ok (.lconst 0, 1) := by decide +kernel
theorem dX12_worst_1 : decode cX12_worst 1 = .ok (.lstore_n 2, 1) := by decide +kernel
theorem dX12_worst_2 : decode cX12_worst 2 = .ok (.iconst 0, 1) := by decide +kernel
theorem dX12_worst_3 : decode cX12_worst 3 = .ok (.istore 4, 2) := by decide +kernel
theorem dX12_worst_5 : decode cX12_worst 5 = .ok (.iload 4, 2) := by decide +kernel
theorem dX12_worst_7 : decode cX12_worst 7 = .ok (.bipush 12, 2) := by decide +kernel
theorem dX12_worst_9 : decode cX12_worst 9 = .ok (.if_icmp .ge 80, 3) := by decide +kernel
theorem dX12_worst_12 : decode cX12_worst 12 = .ok (.aload_n 0, 1) := by decide +kernel
theorem dX12_worst_13 : decode cX12_worst 13 = .ok (.getfield 11, 3) := by decide +kernel
theorem dX12_worst_16 : decode cX12_worst 16 = .ok (.iload 4, 2) := by decide +kernel
theorem dX12_worst_18 : decode cX12_worst 18 = .ok (.aaload, 1) := by decide +kernel
theorem dX12_worst_19 : decode cX12_worst 19 = .ok (.ifnonnull 6, 3) := by decide +kernel
theorem dX12_worst_22 : decode cX12_worst 22 = .ok (.goto 61, 3) := by decide +kernel
theorem dX12_worst_25 : decode cX12_worst 25 = .ok (.ldc2_w 296, 3) := by decide +kernel
theorem dX12_worst_28 : decode cX12_worst 28 = .ok (.lstore 5, 2) := by decide +kernel
theorem dX12_worst_30 : decode cX12_worst 30 = .ok (.iconst 0, 1) := by decide +kernel
theorem dX12_worst_31 : decode cX12_worst 31 = .ok (.istore 7, 2) := by decide +kernel
theorem dX12_worst_33 : decode cX12_worst 33 = .ok (.iload 7, 2) := by decide +kernel
theorem dX12_worst_35 : decode cX12_worst 35 = .ok (.bipush 12, 2) := by decide +kernel
theorem dX12_worst_37 : decode cX12_worst 37 = .ok (.if_icmp .ge 39, 3) := by decide +kernel
theorem dX12_worst_40 : decode cX12_worst 40 = .ok (.iload_n 1, 1) := by decide +kernel
theorem dX12_worst_41 : decode cX12_worst 41 = .ok (.iload 7, 2) := by decide +kernel
theorem dX12_worst_43 : decode cX12_worst 43 = .ok (.ishr, 1) := by decide +kernel
theorem dX12_worst_44 : decode cX12_worst 44 = .ok (.iconst 1, 1) := by decide +kernel
theorem dX12_worst_45 : decode cX12_worst 45 = .ok (.iand, 1) := by decide +kernel
theorem dX12_worst_46 : decode cX12_worst 46 = .ok (.iconst 1, 1) := by decide +kernel
theorem dX12_worst_47 : decode cX12_worst 47 = .ok (.if_icmp .ne 19, 3) := by decide +kernel
theorem dX12_worst_50 : decode cX12_worst 50 = .ok (.lload 5, 2) := by decide +kernel
theorem dX12_worst_52 : decode cX12_worst 52 = .ok (.aload_n 0, 1) := by decide +kernel
theorem dX12_worst_53 : decode cX12_worst 53 = .ok (.iload 4, 2) := by decide +kernel
theorem dX12_worst_55 : decode cX12_worst 55 = .ok (.iload 7, 2) := by decide +kernel
theorem dX12_worst_57 : decode cX12_worst 57 = .ok (.invokevirtual 160, 3) := by decide +kernel
theorem dX12_worst_60 : decode cX12_worst 60 = .ok (.invokestatic 279, 3) := by decide +kernel
theorem dX12_worst_63 : decode cX12_worst 63 = .ok (.goto 5, 3) := by decide +kernel
theorem dX12_worst_66 : decode cX12_worst 66 = .ok (.lload 5, 2) := by decide +kernel
theorem dX12_worst_68 : decode cX12_worst 68 = .ok (.lstore 5, 2) := by decide +kernel
theorem dX12_worst_70 : decode cX12_worst 70 = .ok (.iinc 7 1, 3) := by decide +kernel
theorem dX12_worst_73 : decode cX12_worst 73 = .ok (.goto (-40), 3) := by decide +kernel
theorem dX12_worst_76 : decode cX12_worst 76 = .ok (.lload_n 2, 1) := by decide +kernel
theorem dX12_worst_77 : decode cX12_worst 77 = .ok (.lload 5, 2) := by decide +kernel
theorem dX12_worst_79 : decode cX12_worst 79 = .ok (.invokestatic 169, 3) := by decide +kernel
theorem dX12_worst_82 : decode cX12_worst 82 = .ok (.lstore_n 2, 1) := by decide +kernel
theorem dX12_worst_83 : decode cX12_worst 83 = .ok (.iinc 4 1, 3) := by decide +kernel
theorem dX12_worst_86 : decode cX12_worst 86 = .ok (.goto (-81), 3) := by decide +kernel
theorem dX12_worst_89 : decode cX12_worst 89 = .ok (.lload_n 2, 1) := by decide +kernel
theorem dX12_worst_90 : decode cX12_worst 90 = .ok (.lreturn, 1) := by decide +kernel
theorem dX12_isAhead_0 : decode cX12_isAhead 0 = .ok (.iload_n 0, 1) := by decide +kernel
theorem dX12_isAhead_1 : decode cX12_isAhead 1 = .ok (.iload_n 1, 1) := by decide +kernel
theorem dX12_isAhead_2 : decode cX12_isAhead 2 = .ok (.ixor, 1) := by decide +kernel
theorem dX12_isAhead_3 : decode cX12_isAhead 3 = .ok (.istore_n 2, 1) := by decide +kernel
theorem dX12_isAhead_4 : decode cX12_isAhead 4 = .ok (.iload_n 0, 1) := by decide +kernel
theorem dX12_isAhead_5 : decode cX12_isAhead 5 = .ok (.iload_n 2, 1) := by decide +kernel
theorem dX12_isAhead_6 : decode cX12_isAhead 6 = .ok (.iand, 1) := by decide +kernel
theorem dX12_isAhead_7 : decode cX12_isAhead 7 = .ok (.iload_n 2, 1) := by decide +kernel
theorem dX12_isAhead_8 : decode cX12_isAhead 8 = .ok (.ineg, 1) := by decide +kernel
theorem dX12_isAhead_9 : decode cX12_isAhead 9 = .ok (.iand, 1) := by decide +kernel
theorem dX12_isAhead_10 : decode cX12_isAhead 10 = .ok (.ifCond .eq 7, 3) := by decide +kernel
theorem dX12_isAhead_13 : decode cX12_isAhead 13 = .ok (.iconst 1, 1) := by decide +kernel
theorem dX12_isAhead_14 : decode cX12_isAhead 14 = .ok (.goto 4, 3) := by decide +kernel
theorem dX12_isAhead_17 : decode cX12_isAhead 17 = .ok (.iconst 0, 1) := by decide +kernel
theorem dX12_isAhead_18 : decode cX12_isAhead 18 = .ok (.ireturn, 1) := by decide +kernel
theorem dX12_centres_0 : decode cX12_centres 0 = .ok (.iconst 0, 1) := by decide +kernel
theorem dX12_centres_1 : decode cX12_centres 1 = .ok (.istore_n 2, 1) := by decide +kernel
theorem dX12_centres_2 : decode cX12_centres 2 = .ok (.iconst 1, 1) := by decide +kernel
theorem dX12_centres_3 : decode cX12_centres 3 = .ok (.istore_n 3, 1) := by decide +kernel
theorem dX12_centres_4 : decode cX12_centres 4 = .ok (.iload_n 3, 1) := by decide +kernel
theorem dX12_centres_5 : decode cX12_centres 5 = .ok (.sipush 4096, 3) := by decide +kernel
theorem dX12_centres_8 : decode cX12_centres 8 = .ok (.if_icmp .ge 89, 3) := by decide +kernel
theorem dX12_centres_11 : decode cX12_centres 11 = .ok (.iload_n 3, 1) := by decide +kernel
theorem dX12_centres_12 : decode cX12_centres 12 = .ok (.invokestatic 254, 3) := by decide +kernel
theorem dX12_centres_15 : decode cX12_centres 15 = .ok (.iload_n 1, 1) := by decide +kernel
theorem dX12_centres_16 : decode cX12_centres 16 = .ok (.if_icmp .ne 75, 3) := by decide +kernel
theorem dX12_centres_19 : decode cX12_centres 19 = .ok (.iload_n 3, 1) := by decide +kernel
theorem dX12_centres_20 : decode cX12_centres 20 = .ok (.aload_n 0, 1) := by decide +kernel
theorem dX12_centres_21 : decode cX12_centres 21 = .ok (.invokevirtual 195, 3) := by decide +kernel
theorem dX12_centres_24 : decode cX12_centres 24 = .ok (.iconst (-1), 1) := by decide +kernel
theorem dX12_centres_25 : decode cX12_centres 25 = .ok (.ixor, 1) := by decide +kernel
theorem dX12_centres_26 : decode cX12_centres 26 = .ok (.iand, 1) := by decide +kernel
theorem dX12_centres_27 : decode cX12_centres 27 = .ok (.ifCond .eq 6, 3) := by decide +kernel
theorem dX12_centres_30 : decode cX12_centres 30 = .ok (.goto 61, 3) := by decide +kernel
theorem dX12_centres_33 : decode cX12_centres 33 = .ok (.iload_n 2, 1) := by decide +kernel
theorem dX12_centres_34 : decode cX12_centres 34 = .ok (.ifCond .eq 39, 3) := by decide +kernel
theorem dX12_centres_37 : decode cX12_centres 37 = .ok (.aload_n 0, 1) := by decide +kernel
theorem dX12_centres_38 : decode cX12_centres 38 = .ok (.iload_n 3, 1) := by decide +kernel
theorem dX12_centres_39 : decode cX12_centres 39 = .ok (.invokevirtual 298, 3) := by decide +kernel
theorem dX12_centres_42 : decode cX12_centres 42 = .ok (.aload_n 0, 1) := by decide +kernel
theorem dX12_centres_43 : decode cX12_centres 43 = .ok (.iload_n 2, 1) := by decide +kernel
theorem dX12_centres_44 : decode cX12_centres 44 = .ok (.invokevirtual 298, 3) := by decide +kernel
theorem dX12_centres_47 : decode cX12_centres 47 = .ok (.lcmp, 1) := by decide +kernel
theorem dX12_centres_48 : decode cX12_centres 48 = .ok (.ifCond .lt 25, 3) := by decide +kernel
theorem dX12_centres_51 : decode cX12_centres 51 = .ok (.aload_n 0, 1) := by decide +kernel
theorem dX12_centres_52 : decode cX12_centres 52 = .ok (.iload_n 3, 1) := by decide +kernel
theorem dX12_centres_53 : decode cX12_centres 53 = .ok (.invokevirtual 298, 3) := by decide +kernel
theorem dX12_centres_56 : decode cX12_centres 56 = .ok (.aload_n 0, 1) := by decide +kernel
theorem dX12_centres_57 : decode cX12_centres 57 = .ok (.iload_n 2, 1) := by decide +kernel
theorem dX12_centres_58 : decode cX12_centres 58 = .ok (.invokevirtual 298, 3) := by decide +kernel
theorem dX12_centres_61 : decode cX12_centres 61 = .ok (.lcmp, 1) := by decide +kernel
theorem dX12_centres_62 : decode cX12_centres 62 = .ok (.ifCond .ne 15, 3) := by decide +kernel
theorem dX12_centres_65 : decode cX12_centres 65 = .ok (.iload_n 3, 1) := by decide +kernel
theorem dX12_centres_66 : decode cX12_centres 66 = .ok (.iload_n 2, 1) := by decide +kernel
theorem dX12_centres_67 : decode cX12_centres 67 = .ok (.invokestatic 302, 3) := by decide +kernel
theorem dX12_centres_70 : decode cX12_centres 70 = .ok (.ifCond .eq 7, 3) := by decide +kernel
theorem dX12_centres_73 : decode cX12_centres 73 = .ok (.iconst 1, 1) := by decide +kernel
theorem dX12_centres_74 : decode cX12_centres 74 = .ok (.goto 4, 3) := by decide +kernel
theorem dX12_centres_77 : decode cX12_centres 77 = .ok (.iconst 0, 1) := by decide +kernel
theorem dX12_centres_78 : decode cX12_centres 78 = .ok (.istore 4, 2) := by decide +kernel
theorem dX12_centres_80 : decode cX12_centres 80 = .ok (.iload 4, 2) := by decide +kernel
theorem dX12_centres_82 : decode cX12_centres 82 = .ok (.ifCond .eq 7, 3) := by decide +kernel
theorem dX12_centres_85 : decode cX12_centres 85 = .ok (.iload_n 3, 1) := by decide +kernel
theorem dX12_centres_86 : decode cX12_centres 86 = .ok (.goto 4, 3) := by decide +kernel
theorem dX12_centres_89 : decode cX12_centres 89 = .ok (.iload_n 2, 1) := by decide +kernel
theorem dX12_centres_90 : decode cX12_centres 90 = .ok (.istore_n 2, 1) := by decide +kernel
theorem dX12_centres_91 : decode cX12_centres 91 = .ok (.iinc 3 1, 3) := by decide +kernel
theorem dX12_centres_94 : decode cX12_centres 94 = .ok (.goto (-90), 3) := by decide +kernel
theorem dX12_centres_97 : decode cX12_centres 97 = .ok (.iload_n 2, 1) := by decide +kernel
theorem dX12_centres_98 : decode cX12_centres 98 = .ok (.ireturn, 1) := by decide +kernel
theorem dX12_centreDistance_0 : decode cX12_centreDistance 0 = .ok (.aload_n 0, 1) := by decide +kernel
theorem dX12_centreDistance_1 : decode cX12_centreDistance 1 = .ok (.iload_n 1, 1) := by decide +kernel
theorem dX12_centreDistance_2 : decode cX12_centreDistance 2 = .ok (.i2l, 1) := by decide +kernel
theorem dX12_centreDistance_3 : decode cX12_centreDistance 3 = .ok (.lconst 1, 1) := by decide +kernel
theorem dX12_centreDistance_4 : decode cX12_centreDistance 4 = .ok (.ldc2_w 212, 3) := by decide +kernel
theorem dX12_centreDistance_7 : decode cX12_centreDistance 7 = .ok (.invokestatic 29, 3) := by decide +kernel
theorem dX12_centreDistance_10 : decode cX12_centreDistance 10 = .ok (.ifCond .ne 7, 3) := by decide +kernel
theorem dX12_centreDistance_13 : decode cX12_centreDistance 13 = .ok (.iconst 1, 1) := by decide +kernel
theorem dX12_centreDistance_14 : decode cX12_centreDistance 14 = .ok (.goto 16, 3) := by decide +kernel
theorem dX12_centreDistance_17 : decode cX12_centreDistance 17 = .ok (.aload_n 0, 1) := by decide +kernel
theorem dX12_centreDistance_18 : decode cX12_centreDistance 18 = .ok (.invokevirtual 72, 3) := by decide +kernel
theorem dX12_centreDistance_21 : decode cX12_centreDistance 21 = .ok (.iload_n 1, 1) := by decide +kernel
theorem dX12_centreDistance_22 : decode cX12_centreDistance 22 = .ok (.if_icmp .ge 7, 3) := by decide +kernel
theorem dX12_centreDistance_25 : decode cX12_centreDistance 25 = .ok (.iconst 2, 1) := by decide +kernel
theorem dX12_centreDistance_26 : decode cX12_centreDistance 26 = .ok (.goto 4, 3) := by decide +kernel
theorem dX12_centreDistance_29 : decode cX12_centreDistance 29 = .ok (.iconst 0, 1) := by decide +kernel
theorem dX12_centreDistance_30 : decode cX12_centreDistance 30 = .ok (.invokevirtual 39, 3) := by decide +kernel
theorem dX12_centreDistance_33 : decode cX12_centreDistance 33 = .ok (.ifCond .eq 7, 3) := by decide +kernel
theorem dX12_centreDistance_36 : decode cX12_centreDistance 36 = .ok (.iconst 0, 1) := by decide +kernel
theorem dX12_centreDistance_37 : decode cX12_centreDistance 37 = .ok (.goto 13, 3) := by decide +kernel
theorem dX12_centreDistance_40 : decode cX12_centreDistance 40 = .ok (.aload_n 0, 1) := by decide +kernel
theorem dX12_centreDistance_41 : decode cX12_centreDistance 41 = .ok (.aload_n 0, 1) := by decide +kernel
theorem dX12_centreDistance_42 : decode cX12_centreDistance 42 = .ok (.iload_n 1, 1) := by decide +kernel
theorem dX12_centreDistance_43 : decode cX12_centreDistance 43 = .ok (.invokevirtual 305, 3) := by decide +kernel
theorem dX12_centreDistance_46 : decode cX12_centreDistance 46 = .ok (.invokevirtual 298, 3) := by decide +kernel
theorem dX12_centreDistance_49 : decode cX12_centreDistance 49 = .ok (.l2i, 1) := by decide +kernel
theorem dX12_centreDistance_50 : decode cX12_centreDistance 50 = .ok (.ireturn, 1) := by decide +kernel
theorem dX12_centre_0 : decode cX12_centre 0 = .ok (.aload_n 0, 1) := by decide +kernel
theorem dX12_centre_1 : decode cX12_centre 1 = .ok (.iload_n 1, 1) := by decide +kernel
theorem dX12_centre_2 : decode cX12_centre 2 = .ok (.i2l, 1) := by decide +kernel
theorem dX12_centre_3 : decode cX12_centre 3 = .ok (.lconst 1, 1) := by decide +kernel
theorem dX12_centre_4 : decode cX12_centre 4 = .ok (.ldc2_w 212, 3) := by decide +kernel
theorem dX12_centre_7 : decode cX12_centre 7 = .ok (.invokestatic 29, 3) := by decide +kernel
theorem dX12_centre_10 : decode cX12_centre 10 = .ok (.ifCond .eq 16, 3) := by decide +kernel
theorem dX12_centre_13 : decode cX12_centre 13 = .ok (.iload_n 2, 1) := by decide +kernel
theorem dX12_centre_14 : decode cX12_centre 14 = .ok (.i2l, 1) := by decide +kernel
theorem dX12_centre_15 : decode cX12_centre 15 = .ok (.lconst 0, 1) := by decide +kernel
theorem dX12_centre_16 : decode cX12_centre 16 = .ok (.iload_n 1, 1) := by decide +kernel
theorem dX12_centre_17 : decode cX12_centre 17 = .ok (.iconst 1, 1) := by decide +kernel
theorem dX12_centre_18 : decode cX12_centre 18 = .ok (.isub, 1) := by decide +kernel
theorem dX12_centre_19 : decode cX12_centre 19 = .ok (.i2l, 1) := by decide +kernel
theorem dX12_centre_20 : decode cX12_centre 20 = .ok (.invokestatic 29, 3) := by decide +kernel
theorem dX12_centre_23 : decode cX12_centre 23 = .ok (.ifCond .ne 7, 3) := by decide +kernel
theorem dX12_centre_26 : decode cX12_centre 26 = .ok (.iconst 1, 1) := by decide +kernel
theorem dX12_centre_27 : decode cX12_centre 27 = .ok (.goto 16, 3) := by decide +kernel
theorem dX12_centre_30 : decode cX12_centre 30 = .ok (.aload_n 0, 1) := by decide +kernel
theorem dX12_centre_31 : decode cX12_centre 31 = .ok (.invokevirtual 72, 3) := by decide +kernel
theorem dX12_centre_34 : decode cX12_centre 34 = .ok (.iload_n 1, 1) := by decide +kernel
theorem dX12_centre_35 : decode cX12_centre 35 = .ok (.if_icmp .ge 7, 3) := by decide +kernel
theorem dX12_centre_38 : decode cX12_centre 38 = .ok (.iconst 2, 1) := by decide +kernel
theorem dX12_centre_39 : decode cX12_centre 39 = .ok (.goto 4, 3) := by decide +kernel
theorem dX12_centre_42 : decode cX12_centre 42 = .ok (.iconst 0, 1) := by decide +kernel
theorem dX12_centre_43 : decode cX12_centre 43 = .ok (.invokevirtual 39, 3) := by decide +kernel
theorem dX12_centre_46 : decode cX12_centre 46 = .ok (.ifCond .eq 5, 3) := by decide +kernel
theorem dX12_centre_49 : decode cX12_centre 49 = .ok (.iconst 0, 1) := by decide +kernel
theorem dX12_centre_50 : decode cX12_centre 50 = .ok (.ireturn, 1) := by decide +kernel
theorem dX12_centre_51 : decode cX12_centre 51 = .ok (.aload_n 0, 1) := by decide +kernel
theorem dX12_centre_52 : decode cX12_centre 52 = .ok (.iload_n 1, 1) := by decide +kernel
theorem dX12_centre_53 : decode cX12_centre 53 = .ok (.invokevirtual 305, 3) := by decide +kernel
theorem dX12_centre_56 : decode cX12_centre 56 = .ok (.istore_n 3, 1) := by decide +kernel
theorem dX12_centre_57 : decode cX12_centre 57 = .ok (.iconst 0, 1) := by decide +kernel
theorem dX12_centre_58 : decode cX12_centre 58 = .ok (.istore 4, 2) := by decide +kernel
theorem dX12_centre_60 : decode cX12_centre 60 = .ok (.iload 4, 2) := by decide +kernel
theorem dX12_centre_62 : decode cX12_centre 62 = .ok (.iload_n 2, 1) := by decide +kernel
theorem dX12_centre_63 : decode cX12_centre 63 = .ok (.if_icmp .ge 15, 3) := by decide +kernel
theorem dX12_centre_66 : decode cX12_centre 66 = .ok (.iload_n 3, 1) := by decide +kernel
theorem dX12_centre_67 : decode cX12_centre 67 = .ok (.iload_n 3, 1) := by decide +kernel
theorem dX12_centre_68 : decode cX12_centre 68 = .ok (.iconst 1, 1) := by decide +kernel
theorem dX12_centre_69 : decode cX12_centre 69 = .ok (.isub, 1) := by decide +kernel
theorem dX12_centre_70 : decode cX12_centre 70 = .ok (.iand, 1) := by decide +kernel
theorem dX12_centre_71 : decode cX12_centre 71 = .ok (.istore_n 3, 1) := by decide +kernel
theorem dX12_centre_72 : decode cX12_centre 72 = .ok (.iinc 4 1, 3) := by decide +kernel
theorem dX12_centre_75 : decode cX12_centre 75 = .ok (.goto (-15), 3) := by decide +kernel
theorem dX12_centre_78 : decode cX12_centre 78 = .ok (.iload_n 3, 1) := by decide +kernel
theorem dX12_centre_79 : decode cX12_centre 79 = .ok (.invokestatic 308, 3) := by decide +kernel
theorem dX12_centre_82 : decode cX12_centre 82 = .ok (.ireturn, 1) := by decide +kernel
theorem dX12_countDiscs_0 : decode cX12_countDiscs 0 = .ok (.aload_n 0, 1) := by decide +kernel
theorem dX12_countDiscs_1 : decode cX12_countDiscs 1 = .ok (.iload_n 1, 1) := by decide +kernel
theorem dX12_countDiscs_2 : decode cX12_countDiscs 2 = .ok (.i2l, 1) := by decide +kernel
theorem dX12_countDiscs_3 : decode cX12_countDiscs 3 = .ok (.lconst 0, 1) := by decide +kernel
theorem dX12_countDiscs_4 : decode cX12_countDiscs 4 = .ok (.ldc2_w 214, 3) := by decide +kernel
theorem dX12_countDiscs_7 : decode cX12_countDiscs 7 = .ok (.invokestatic 29, 3) := by decide +kernel
theorem dX12_countDiscs_10 : decode cX12_countDiscs 10 = .ok (.ifCond .eq 7, 3) := by decide +kernel
theorem dX12_countDiscs_13 : decode cX12_countDiscs 13 = .ok (.iconst 0, 1) := by decide +kernel
theorem dX12_countDiscs_14 : decode cX12_countDiscs 14 = .ok (.goto 4, 3) := by decide +kernel
theorem dX12_countDiscs_17 : decode cX12_countDiscs 17 = .ok (.iconst 1, 1) := by decide +kernel
theorem dX12_countDiscs_18 : decode cX12_countDiscs 18 = .ok (.invokevirtual 39, 3) := by decide +kernel
theorem dX12_countDiscs_21 : decode cX12_countDiscs 21 = .ok (.ifCond .eq 5, 3) := by decide +kernel
theorem dX12_countDiscs_24 : decode cX12_countDiscs 24 = .ok (.iconst 0, 1) := by decide +kernel
theorem dX12_countDiscs_25 : decode cX12_countDiscs 25 = .ok (.ireturn, 1) := by decide +kernel
theorem dX12_countDiscs_26 : decode cX12_countDiscs 26 = .ok (.bipush 12, 2) := by decide +kernel
theorem dX12_countDiscs_28 : decode cX12_countDiscs 28 = .ok (.newarray .int, 2) := by decide +kernel
theorem dX12_countDiscs_30 : decode cX12_countDiscs 30 = .ok (.astore_n 2, 1) := by decide +kernel
theorem dX12_countDiscs_31 : decode cX12_countDiscs 31 = .ok (.iconst 0, 1) := by decide +kernel
theorem dX12_countDiscs_32 : decode cX12_countDiscs 32 = .ok (.istore_n 3, 1) := by decide +kernel
theorem dX12_countDiscs_33 : decode cX12_countDiscs 33 = .ok (.iload_n 3, 1) := by decide +kernel
theorem dX12_countDiscs_34 : decode cX12_countDiscs 34 = .ok (.bipush 12, 2) := by decide +kernel
theorem dX12_countDiscs_36 : decode cX12_countDiscs 36 = .ok (.if_icmp .ge 69, 3) := by decide +kernel
theorem dX12_countDiscs_39 : decode cX12_countDiscs 39 = .ok (.iconst 0, 1) := by decide +kernel
theorem dX12_countDiscs_40 : decode cX12_countDiscs 40 = .ok (.istore 4, 2) := by decide +kernel
theorem dX12_countDiscs_42 : decode cX12_countDiscs 42 = .ok (.iload 4, 2) := by decide +kernel
theorem dX12_countDiscs_44 : decode cX12_countDiscs 44 = .ok (.bipush 12, 2) := by decide +kernel
theorem dX12_countDiscs_46 : decode cX12_countDiscs 46 = .ok (.if_icmp .ge 53, 3) := by decide +kernel
theorem dX12_countDiscs_49 : decode cX12_countDiscs 49 = .ok (.aload_n 2, 1) := by decide +kernel
theorem dX12_countDiscs_50 : decode cX12_countDiscs 50 = .ok (.iload_n 3, 1) := by decide +kernel
theorem dX12_countDiscs_51 : decode cX12_countDiscs 51 = .ok (.dup2, 1) := by decide +kernel
theorem dX12_countDiscs_52 : decode cX12_countDiscs 52 = .ok (.iaload, 1) := by decide +kernel
theorem dX12_countDiscs_53 : decode cX12_countDiscs 53 = .ok (.aload_n 0, 1) := by decide +kernel
theorem dX12_countDiscs_54 : decode cX12_countDiscs 54 = .ok (.iload_n 3, 1) := by decide +kernel
theorem dX12_countDiscs_55 : decode cX12_countDiscs 55 = .ok (.invokevirtual 35, 3) := by decide +kernel
theorem dX12_countDiscs_58 : decode cX12_countDiscs 58 = .ok (.ifCond .eq 32, 3) := by decide +kernel
theorem dX12_countDiscs_61 : decode cX12_countDiscs 61 = .ok (.aload_n 0, 1) := by decide +kernel
theorem dX12_countDiscs_62 : decode cX12_countDiscs 62 = .ok (.iload 4, 2) := by decide +kernel
theorem dX12_countDiscs_64 : decode cX12_countDiscs 64 = .ok (.invokevirtual 35, 3) := by decide +kernel
theorem dX12_countDiscs_67 : decode cX12_countDiscs 67 = .ok (.ifCond .eq 23, 3) := by decide +kernel
theorem dX12_countDiscs_70 : decode cX12_countDiscs 70 = .ok (.aload_n 0, 1) := by decide +kernel
theorem dX12_countDiscs_71 : decode cX12_countDiscs 71 = .ok (.iload_n 3, 1) := by decide +kernel
theorem dX12_countDiscs_72 : decode cX12_countDiscs 72 = .ok (.iload 4, 2) := by decide +kernel
theorem dX12_countDiscs_74 : decode cX12_countDiscs 74 = .ok (.invokevirtual 160, 3) := by decide +kernel
theorem dX12_countDiscs_77 : decode cX12_countDiscs 77 = .ok (.iload_n 1, 1) := by decide +kernel
theorem dX12_countDiscs_78 : decode cX12_countDiscs 78 = .ok (.i2l, 1) := by decide +kernel
theorem dX12_countDiscs_79 : decode cX12_countDiscs 79 = .ok (.lcmp, 1) := by decide +kernel
theorem dX12_countDiscs_80 : decode cX12_countDiscs 80 = .ok (.ifCond .gt 10, 3) := by decide +kernel
theorem dX12_countDiscs_83 : decode cX12_countDiscs 83 = .ok (.iconst 1, 1) := by decide +kernel
theorem dX12_countDiscs_84 : decode cX12_countDiscs 84 = .ok (.iload 4, 2) := by decide +kernel
theorem dX12_countDiscs_86 : decode cX12_countDiscs 86 = .ok (.ishl, 1) := by decide +kernel
theorem dX12_countDiscs_87 : decode cX12_countDiscs 87 = .ok (.goto 4, 3) := by decide +kernel
theorem dX12_countDiscs_90 : decode cX12_countDiscs 90 = .ok (.iconst 0, 1) := by decide +kernel
theorem dX12_countDiscs_91 : decode cX12_countDiscs 91 = .ok (.ior, 1) := by decide +kernel
theorem dX12_countDiscs_92 : decode cX12_countDiscs 92 = .ok (.iastore, 1) := by decide +kernel
theorem dX12_countDiscs_93 : decode cX12_countDiscs 93 = .ok (.iinc 4 1, 3) := by decide +kernel
theorem dX12_countDiscs_96 : decode cX12_countDiscs 96 = .ok (.goto (-54), 3) := by decide +kernel
theorem dX12_countDiscs_99 : decode cX12_countDiscs 99 = .ok (.iinc 3 1, 3) := by decide +kernel
theorem dX12_countDiscs_102 : decode cX12_countDiscs 102 = .ok (.goto (-69), 3) := by decide +kernel
theorem dX12_countDiscs_105 : decode cX12_countDiscs 105 = .ok (.aload_n 0, 1) := by decide +kernel
theorem dX12_countDiscs_106 : decode cX12_countDiscs 106 = .ok (.aload_n 2, 1) := by decide +kernel
theorem dX12_countDiscs_107 : decode cX12_countDiscs 107 = .ok (.invokevirtual 257, 3) := by decide +kernel
theorem dX12_countDiscs_110 : decode cX12_countDiscs 110 = .ok (.ireturn, 1) := by decide +kernel
theorem dX12_getHullShare_0 : decode cX12_getHullShare 0 = .ok (.aload_n 0, 1) := by decide +kernel
theorem dX12_getHullShare_1 : decode cX12_getHullShare 1 = .ok (.aload_n 0, 1) := by decide +kernel
theorem dX12_getHullShare_2 : decode cX12_getHullShare 2 = .ok (.invokevirtual 72, 3) := by decide +kernel
theorem dX12_getHullShare_5 : decode cX12_getHullShare 5 = .ok (.ifCond .ne 7, 3) := by decide +kernel
theorem dX12_getHullShare_8 : decode cX12_getHullShare 8 = .ok (.iconst 1, 1) := by decide +kernel
theorem dX12_getHullShare_9 : decode cX12_getHullShare 9 = .ok (.goto 4, 3) := by decide +kernel
theorem dX12_getHullShare_12 : decode cX12_getHullShare 12 = .ok (.iconst 0, 1) := by decide +kernel
theorem dX12_getHullShare_13 : decode cX12_getHullShare 13 = .ok (.invokevirtual 39, 3) := by decide +kernel
theorem dX12_getHullShare_16 : decode cX12_getHullShare 16 = .ok (.ifCond .eq 7, 3) := by decide +kernel
theorem dX12_getHullShare_19 : decode cX12_getHullShare 19 = .ok (.fconst 0, 1) := by decide +kernel
theorem dX12_getHullShare_20 : decode cX12_getHullShare 20 = .ok (.goto 23, 3) := by decide +kernel
theorem dX12_getHullShare_23 : decode cX12_getHullShare 23 = .ok (.aload_n 0, 1) := by decide +kernel
theorem dX12_getHullShare_24 : decode cX12_getHullShare 24 = .ok (.aload_n 0, 1) := by decide +kernel
theorem dX12_getHullShare_25 : decode cX12_getHullShare 25 = .ok (.invokevirtual 195, 3) := by decide +kernel
theorem dX12_getHullShare_28 : decode cX12_getHullShare 28 = .ok (.invokevirtual 198, 3) := by decide +kernel
theorem dX12_getHullShare_31 : decode cX12_getHullShare 31 = .ok (.invokeinterface 56 1, 5) := by decide +kernel
theorem dX12_getHullShare_36 : decode cX12_getHullShare 36 = .ok (.i2f, 1) := by decide +kernel
theorem dX12_getHullShare_37 : decode cX12_getHullShare 37 = .ok (.aload_n 0, 1) := by decide +kernel
theorem dX12_getHullShare_38 : decode cX12_getHullShare 38 = .ok (.invokevirtual 72, 3) := by decide +kernel
theorem dX12_getHullShare_41 : decode cX12_getHullShare 41 = .ok (.i2f, 1) := by decide +kernel
theorem dX12_getHullShare_42 : decode cX12_getHullShare 42 = .ok (.fdiv, 1) := by decide +kernel
theorem dX12_getHullShare_43 : decode cX12_getHullShare 43 = .ok (.freturn, 1) := by decide +kernel
theorem dX12_getMeanNeighbours_0 : decode cX12_getMeanNeighbours 0 = .ok (.iconst 0, 1) := by decide +kernel
theorem dX12_getMeanNeighbours_1 : decode cX12_getMeanNeighbours 1 = .ok (.istore_n 1, 1) := by decide +kernel
theorem dX12_getMeanNeighbours_2 : decode cX12_getMeanNeighbours 2 = .ok (.iconst 0, 1) := by decide +kernel
theorem dX12_getMeanNeighbours_3 : decode cX12_getMeanNeighbours 3 = .ok (.istore_n 2, 1) := by decide +kernel
theorem dX12_getMeanNeighbours_4 : decode cX12_getMeanNeighbours 4 = .ok (.iload_n 2, 1) := by decide +kernel
theorem dX12_getMeanNeighbours_5 : decode cX12_getMeanNeighbours 5 = .ok (.bipush 12, 2) := by decide +kernel
theorem dX12_getMeanNeighbours_7 : decode cX12_getMeanNeighbours 7 = .ok (.if_icmp .ge 17, 3) := by decide +kernel
theorem dX12_getMeanNeighbours_10 : decode cX12_getMeanNeighbours 10 = .ok (.iload_n 1, 1) := by decide +kernel
theorem dX12_getMeanNeighbours_11 : decode cX12_getMeanNeighbours 11 = .ok (.aload_n 0, 1) := by decide +kernel
theorem dX12_getMeanNeighbours_12 : decode cX12_getMeanNeighbours 12 = .ok (.iload_n 2, 1) := by decide +kernel
theorem dX12_getMeanNeighbours_13 : decode cX12_getMeanNeighbours 13 = .ok (.invokevirtual 157, 3) := by decide +kernel
theorem dX12_getMeanNeighbours_16 : decode cX12_getMeanNeighbours 16 = .ok (.iadd, 1) := by decide +kernel
theorem dX12_getMeanNeighbours_17 : decode cX12_getMeanNeighbours 17 = .ok (.istore_n 1, 1) := by decide +kernel
theorem dX12_getMeanNeighbours_18 : decode cX12_getMeanNeighbours 18 = .ok (.iinc 2 1, 3) := by decide +kernel
theorem dX12_getMeanNeighbours_21 : decode cX12_getMeanNeighbours 21 = .ok (.goto (-17), 3) := by decide +kernel
theorem dX12_getMeanNeighbours_24 : decode cX12_getMeanNeighbours 24 = .ok (.aload_n 0, 1) := by decide +kernel
theorem dX12_getMeanNeighbours_25 : decode cX12_getMeanNeighbours 25 = .ok (.aload_n 0, 1) := by decide +kernel
theorem dX12_getMeanNeighbours_26 : decode cX12_getMeanNeighbours 26 = .ok (.invokevirtual 72, 3) := by decide +kernel
theorem dX12_getMeanNeighbours_29 : decode cX12_getMeanNeighbours 29 = .ok (.ifCond .ne 7, 3) := by decide +kernel
theorem dX12_getMeanNeighbours_32 : decode cX12_getMeanNeighbours 32 = .ok (.iconst 1, 1) := by decide +kernel
theorem dX12_getMeanNeighbours_33 : decode cX12_getMeanNeighbours 33 = .ok (.goto 4, 3) := by decide +kernel
theorem dX12_getMeanNeighbours_36 : decode cX12_getMeanNeighbours 36 = .ok (.iconst 0, 1) := by decide +kernel
theorem dX12_getMeanNeighbours_37 : decode cX12_getMeanNeighbours 37 = .ok (.invokevirtual 39, 3) := by decide +kernel
theorem dX12_getMeanNeighbours_40 : decode cX12_getMeanNeighbours 40 = .ok (.ifCond .eq 7, 3) := by decide +kernel
theorem dX12_getMeanNeighbours_43 : decode cX12_getMeanNeighbours 43 = .ok (.dconst 0, 1) := by decide +kernel
theorem dX12_getMeanNeighbours_44 : decode cX12_getMeanNeighbours 44 = .ok (.goto 11, 3) := by decide +kernel
theorem dX12_getMeanNeighbours_47 : decode cX12_getMeanNeighbours 47 = .ok (.iload_n 1, 1) := by decide +kernel
theorem dX12_getMeanNeighbours_48 : decode cX12_getMeanNeighbours 48 = .ok (.i2d, 1) := by decide +kernel
theorem dX12_getMeanNeighbours_49 : decode cX12_getMeanNeighbours 49 = .ok (.aload_n 0, 1) := by decide +kernel
theorem dX12_getMeanNeighbours_50 : decode cX12_getMeanNeighbours 50 = .ok (.invokevirtual 72, 3) := by decide +kernel
theorem dX12_getMeanNeighbours_53 : decode cX12_getMeanNeighbours 53 = .ok (.i2d, 1) := by decide +kernel
theorem dX12_getMeanNeighbours_54 : decode cX12_getMeanNeighbours 54 = .ok (.ddiv, 1) := by decide +kernel
theorem dX12_getMeanNeighbours_55 : decode cX12_getMeanNeighbours 55 = .ok (.dreturn, 1) := by decide +kernel
theorem dX12_checksum_0 : decode cX12_checksum 0 = .ok (.ldc2_w 311, 3) := by decide +kernel
theorem dX12_checksum_3 : decode cX12_checksum 3 = .ok (.lstore_n 1, 1) := by decide +kernel
theorem dX12_checksum_4 : decode cX12_checksum 4 = .ok (.iconst 0, 1) := by decide +kernel
theorem dX12_checksum_5 : decode cX12_checksum 5 = .ok (.istore_n 3, 1) := by decide +kernel
theorem dX12_checksum_6 : decode cX12_checksum 6 = .ok (.iload_n 3, 1) := by decide +kernel
theorem dX12_checksum_7 : decode cX12_checksum 7 = .ok (.bipush 12, 2) := by decide +kernel
theorem dX12_checksum_9 : decode cX12_checksum 9 = .ok (.if_icmp .ge 69, 3) := by decide +kernel
theorem dX12_checksum_12 : decode cX12_checksum 12 = .ok (.aload_n 0, 1) := by decide +kernel
theorem dX12_checksum_13 : decode cX12_checksum 13 = .ok (.getfield 11, 3) := by decide +kernel
theorem dX12_checksum_16 : decode cX12_checksum 16 = .ok (.iload_n 3, 1) := by decide +kernel
theorem dX12_checksum_17 : decode cX12_checksum 17 = .ok (.aaload, 1) := by decide +kernel
theorem dX12_checksum_18 : decode cX12_checksum 18 = .ok (.ifnull 54, 3) := by decide +kernel
theorem dX12_checksum_21 : decode cX12_checksum 21 = .ok (.ldc2_w 313, 3) := by decide +kernel
theorem dX12_checksum_24 : decode cX12_checksum 24 = .ok (.ldc2_w 313, 3) := by decide +kernel
theorem dX12_checksum_27 : decode cX12_checksum 27 = .ok (.ldc2_w 313, 3) := by decide +kernel
theorem dX12_checksum_30 : decode cX12_checksum 30 = .ok (.ldc2_w 313, 3) := by decide +kernel
theorem dX12_checksum_33 : decode cX12_checksum 33 = .ok (.lload_n 1, 1) := by decide +kernel
theorem dX12_checksum_34 : decode cX12_checksum 34 = .ok (.lmul, 1) := by decide +kernel
theorem dX12_checksum_35 : decode cX12_checksum 35 = .ok (.iload_n 3, 1) := by decide +kernel
theorem dX12_checksum_36 : decode cX12_checksum 36 = .ok (.i2l, 1) := by decide +kernel
theorem dX12_checksum_37 : decode cX12_checksum 37 = .ok (.ladd, 1) := by decide +kernel
theorem dX12_checksum_38 : decode cX12_checksum 38 = .ok (.lmul, 1) := by decide +kernel
theorem dX12_checksum_39 : decode cX12_checksum 39 = .ok (.aload_n 0, 1) := by decide +kernel
theorem dX12_checksum_40 : decode cX12_checksum 40 = .ok (.getfield 11, 3) := by decide +kernel
theorem dX12_checksum_43 : decode cX12_checksum 43 = .ok (.iload_n 3, 1) := by decide +kernel
theorem dX12_checksum_44 : decode cX12_checksum 44 = .ok (.aaload, 1) := by decide +kernel
theorem dX12_checksum_45 : decode cX12_checksum 45 = .ok (.iconst 0, 1) := by decide +kernel
theorem dX12_checksum_46 : decode cX12_checksum 46 = .ok (.iaload, 1) := by decide +kernel
theorem dX12_checksum_47 : decode cX12_checksum 47 = .ok (.i2l, 1) := by decide +kernel
theorem dX12_checksum_48 : decode cX12_checksum 48 = .ok (.ladd, 1) := by decide +kernel
theorem dX12_checksum_49 : decode cX12_checksum 49 = .ok (.lmul, 1) := by decide +kernel
theorem dX12_checksum_50 : decode cX12_checksum 50 = .ok (.aload_n 0, 1) := by decide +kernel
theorem dX12_checksum_51 : decode cX12_checksum 51 = .ok (.getfield 11, 3) := by decide +kernel
theorem dX12_checksum_54 : decode cX12_checksum 54 = .ok (.iload_n 3, 1) := by decide +kernel
theorem dX12_checksum_55 : decode cX12_checksum 55 = .ok (.aaload, 1) := by decide +kernel
theorem dX12_checksum_56 : decode cX12_checksum 56 = .ok (.iconst 1, 1) := by decide +kernel
theorem dX12_checksum_57 : decode cX12_checksum 57 = .ok (.iaload, 1) := by decide +kernel
theorem dX12_checksum_58 : decode cX12_checksum 58 = .ok (.i2l, 1) := by decide +kernel
theorem dX12_checksum_59 : decode cX12_checksum 59 = .ok (.ladd, 1) := by decide +kernel
theorem dX12_checksum_60 : decode cX12_checksum 60 = .ok (.lmul, 1) := by decide +kernel
theorem dX12_checksum_61 : decode cX12_checksum 61 = .ok (.aload_n 0, 1) := by decide +kernel
theorem dX12_checksum_62 : decode cX12_checksum 62 = .ok (.getfield 11, 3) := by decide +kernel
theorem dX12_checksum_65 : decode cX12_checksum 65 = .ok (.iload_n 3, 1) := by decide +kernel
theorem dX12_checksum_66 : decode cX12_checksum 66 = .ok (.aaload, 1) := by decide +kernel
theorem dX12_checksum_67 : decode cX12_checksum 67 = .ok (.iconst 2, 1) := by decide +kernel
theorem dX12_checksum_68 : decode cX12_checksum 68 = .ok (.iaload, 1) := by decide +kernel
theorem dX12_checksum_69 : decode cX12_checksum 69 = .ok (.i2l, 1) := by decide +kernel
theorem dX12_checksum_70 : decode cX12_checksum 70 = .ok (.ladd, 1) := by decide +kernel
theorem dX12_checksum_71 : decode cX12_checksum 71 = .ok (.lstore_n 1, 1) := by decide +kernel
theorem dX12_checksum_72 : decode cX12_checksum 72 = .ok (.iinc 3 1, 3) := by decide +kernel
theorem dX12_checksum_75 : decode cX12_checksum 75 = .ok (.goto (-69), 3) := by decide +kernel
theorem dX12_checksum_78 : decode cX12_checksum 78 = .ok (.ldc2_w 313, 3) := by decide +kernel
theorem dX12_checksum_81 : decode cX12_checksum 81 = .ok (.ldc2_w 313, 3) := by decide +kernel
theorem dX12_checksum_84 : decode cX12_checksum 84 = .ok (.lload_n 1, 1) := by decide +kernel
theorem dX12_checksum_85 : decode cX12_checksum 85 = .ok (.lmul, 1) := by decide +kernel
theorem dX12_checksum_86 : decode cX12_checksum 86 = .ok (.aload_n 0, 1) := by decide +kernel
theorem dX12_checksum_87 : decode cX12_checksum 87 = .ok (.getfield 22, 3) := by decide +kernel
theorem dX12_checksum_90 : decode cX12_checksum 90 = .ok (.invokeinterface 56 1, 5) := by decide +kernel
theorem dX12_checksum_95 : decode cX12_checksum 95 = .ok (.i2l, 1) := by decide +kernel
theorem dX12_checksum_96 : decode cX12_checksum 96 = .ok (.ladd, 1) := by decide +kernel
theorem dX12_checksum_97 : decode cX12_checksum 97 = .ok (.lmul, 1) := by decide +kernel
theorem dX12_checksum_98 : decode cX12_checksum 98 = .ok (.aload_n 0, 1) := by decide +kernel
theorem dX12_checksum_99 : decode cX12_checksum 99 = .ok (.invokevirtual 315, 3) := by decide +kernel
theorem dX12_checksum_102 : decode cX12_checksum 102 = .ok (.i2l, 1) := by decide +kernel
theorem dX12_checksum_103 : decode cX12_checksum 103 = .ok (.ladd, 1) := by decide +kernel
theorem dX12_checksum_104 : decode cX12_checksum 104 = .ok (.lreturn, 1) := by decide +kernel
theorem dX12_isSound_0 : decode cX12_isSound 0 = .ok (.aload_n 0, 1) := by decide +kernel
theorem dX12_isSound_1 : decode cX12_isSound 1 = .ok (.iconst 0, 1) := by decide +kernel
theorem dX12_isSound_2 : decode cX12_isSound 2 = .ok (.putfield 25, 3) := by decide +kernel
theorem dX12_isSound_5 : decode cX12_isSound 5 = .ok (.iconst 1, 1) := by decide +kernel
theorem dX12_isSound_6 : decode cX12_isSound 6 = .ok (.ireturn, 1) := by decide +kernel
theorem dJx00060_init_a7421_0 : decode cJx00060_init_a7421 0 = .ok (.aload_n 0, 1) := by decide +kernel
theorem dJx00060_init_a7421_1 : decode cJx00060_init_a7421 1 = .ok (.aload_n 1, 1) := by decide +kernel
theorem dJx00060_init_a7421_2 : decode cJx00060_init_a7421 2 = .ok (.invokespecial 7, 3) := by decide +kernel
theorem dJx00060_init_a7421_5 : decode cJx00060_init_a7421 5 = .ok (.return_, 1) := by decide +kernel
theorem dJ6_valueOf_2dffe_0 : decode cJ6_valueOf_2dffe 0 = .ok (.iload_n 0, 1) := by decide +kernel
theorem dJ6_valueOf_2dffe_1 : decode cJ6_valueOf_2dffe 1 = .ok (.bipush (-128), 2) := by decide +kernel
theorem dJ6_valueOf_2dffe_3 : decode cJ6_valueOf_2dffe 3 = .ok (.if_icmp .lt 20, 3) := by decide +kernel
theorem dJ6_valueOf_2dffe_6 : decode cJ6_valueOf_2dffe 6 = .ok (.iload_n 0, 1) := by decide +kernel
theorem dJ6_valueOf_2dffe_7 : decode cJ6_valueOf_2dffe 7 = .ok (.getstatic 191, 3) := by decide +kernel
theorem dJ6_valueOf_2dffe_10 : decode cJ6_valueOf_2dffe 10 = .ok (.if_icmp .gt 13, 3) := by decide +kernel
theorem dJ6_valueOf_2dffe_13 : decode cJ6_valueOf_2dffe 13 = .ok (.getstatic 195, 3) := by decide +kernel
theorem dJ6_valueOf_2dffe_16 : decode cJ6_valueOf_2dffe 16 = .ok (.iload_n 0, 1) := by decide +kernel
theorem dJ6_valueOf_2dffe_17 : decode cJ6_valueOf_2dffe 17 = .ok (.sipush 128, 3) := by decide +kernel
theorem dJ6_valueOf_2dffe_20 : decode cJ6_valueOf_2dffe 20 = .ok (.iadd, 1) := by decide +kernel
theorem dJ6_valueOf_2dffe_21 : decode cJ6_valueOf_2dffe 21 = .ok (.aaload, 1) := by decide +kernel
theorem dJ6_valueOf_2dffe_22 : decode cJ6_valueOf_2dffe 22 = .ok (.areturn, 1) := by decide +kernel
theorem dJ6_valueOf_2dffe_23 : decode cJ6_valueOf_2dffe 23 = .ok (.new 1, 3) := by decide +kernel
theorem dJ6_valueOf_2dffe_26 : decode cJ6_valueOf_2dffe 26 = .ok (.dup, 1) := by decide +kernel
theorem dJ6_valueOf_2dffe_27 : decode cJ6_valueOf_2dffe 27 = .ok (.iload_n 0, 1) := by decide +kernel
theorem dJ6_valueOf_2dffe_28 : decode cJ6_valueOf_2dffe 28 = .ok (.invokespecial 199, 3) := by decide +kernel
theorem dJ6_valueOf_2dffe_31 : decode cJ6_valueOf_2dffe 31 = .ok (.areturn, 1) := by decide +kernel
theorem dJ6_init_d00df_0 : decode cJ6_init_d00df 0 = .ok (.aload_n 0, 1) := by decide +kernel
theorem dJ6_init_d00df_1 : decode cJ6_init_d00df 1 = .ok (.invokespecial 202, 3) := by decide +kernel
theorem dJ6_init_d00df_4 : decode cJ6_init_d00df 4 = .ok (.aload_n 0, 1) := by decide +kernel
theorem dJ6_init_d00df_5 : decode cJ6_init_d00df 5 = .ok (.iload_n 1, 1) := by decide +kernel
theorem dJ6_init_d00df_6 : decode cJ6_init_d00df 6 = .ok (.putfield 205, 3) := by decide +kernel
theorem dJ6_init_d00df_9 : decode cJ6_init_d00df 9 = .ok (.return_, 1) := by decide +kernel
theorem dJ6_intValue_8abf5_0 : decode cJ6_intValue_8abf5 0 = .ok (.aload_n 0, 1) := by decide +kernel
theorem dJ6_intValue_8abf5_1 : decode cJ6_intValue_8abf5 1 = .ok (.getfield 205, 3) := by decide +kernel
theorem dJ6_intValue_8abf5_4 : decode cJ6_intValue_8abf5 4 = .ok (.ireturn, 1) := by decide +kernel
theorem dJ6_numberOfTrailingZeros_0f7a4_0 : decode cJ6_numberOfTrailingZeros_0f7a4 0 = .ok (.iload_n 0, 1) := by decide +kernel
theorem dJ6_numberOfTrailingZeros_0f7a4_1 : decode cJ6_numberOfTrailingZeros_0f7a4 1 = .ok (.iconst (-1), 1) := by decide +kernel
theorem dJ6_numberOfTrailingZeros_0f7a4_2 : decode cJ6_numberOfTrailingZeros_0f7a4 2 = .ok (.ixor, 1) := by decide +kernel
theorem dJ6_numberOfTrailingZeros_0f7a4_3 : decode cJ6_numberOfTrailingZeros_0f7a4 3 = .ok (.iload_n 0, 1) := by decide +kernel
theorem dJ6_numberOfTrailingZeros_0f7a4_4 : decode cJ6_numberOfTrailingZeros_0f7a4 4 = .ok (.iconst 1, 1) := by decide +kernel
theorem dJ6_numberOfTrailingZeros_0f7a4_5 : decode cJ6_numberOfTrailingZeros_0f7a4 5 = .ok (.isub, 1) := by decide +kernel
theorem dJ6_numberOfTrailingZeros_0f7a4_6 : decode cJ6_numberOfTrailingZeros_0f7a4 6 = .ok (.iand, 1) := by decide +kernel
theorem dJ6_numberOfTrailingZeros_0f7a4_7 : decode cJ6_numberOfTrailingZeros_0f7a4 7 = .ok (.istore_n 0, 1) := by decide +kernel
theorem dJ6_numberOfTrailingZeros_0f7a4_8 : decode cJ6_numberOfTrailingZeros_0f7a4 8 = .ok (.iload_n 0, 1) := by decide +kernel
theorem dJ6_numberOfTrailingZeros_0f7a4_9 : decode cJ6_numberOfTrailingZeros_0f7a4 9 = .ok (.ifCond .gt 8, 3) := by decide +kernel
theorem dJ6_numberOfTrailingZeros_0f7a4_12 : decode cJ6_numberOfTrailingZeros_0f7a4 12 = .ok (.iload_n 0, 1) := by decide +kernel
theorem dJ6_numberOfTrailingZeros_0f7a4_13 : decode cJ6_numberOfTrailingZeros_0f7a4 13 = .ok (.bipush 32, 2) := by decide +kernel
theorem dJ6_numberOfTrailingZeros_0f7a4_15 : decode cJ6_numberOfTrailingZeros_0f7a4 15 = .ok (.iand, 1) := by decide +kernel
theorem dJ6_numberOfTrailingZeros_0f7a4_16 : decode cJ6_numberOfTrailingZeros_0f7a4 16 = .ok (.ireturn, 1) := by decide +kernel
theorem dJ6_numberOfTrailingZeros_0f7a4_17 : decode cJ6_numberOfTrailingZeros_0f7a4 17 = .ok (.iconst 1, 1) := by decide +kernel
theorem dJ6_numberOfTrailingZeros_0f7a4_18 : decode cJ6_numberOfTrailingZeros_0f7a4 18 = .ok (.istore_n 1, 1) := by decide +kernel
theorem dJ6_numberOfTrailingZeros_0f7a4_19 : decode cJ6_numberOfTrailingZeros_0f7a4 19 = .ok (.iload_n 0, 1) := by decide +kernel
theorem dJ6_numberOfTrailingZeros_0f7a4_20 : decode cJ6_numberOfTrailingZeros_0f7a4 20 = .ok (.ldc_w 264, 3) := by decide +kernel
theorem dJ6_numberOfTrailingZeros_0f7a4_23 : decode cJ6_numberOfTrailingZeros_0f7a4 23 = .ok (.if_icmp .le 11, 3) := by decide +kernel
theorem dJ6_numberOfTrailingZeros_0f7a4_26 : decode cJ6_numberOfTrailingZeros_0f7a4 26 = .ok (.iinc 1 16, 3) := by decide +kernel
theorem dJ6_numberOfTrailingZeros_0f7a4_29 : decode cJ6_numberOfTrailingZeros_0f7a4 29 = .ok (.iload_n 0, 1) := by decide +kernel
theorem dJ6_numberOfTrailingZeros_0f7a4_30 : decode cJ6_numberOfTrailingZeros_0f7a4 30 = .ok (.bipush 16, 2) := by decide +kernel
theorem dJ6_numberOfTrailingZeros_0f7a4_32 : decode cJ6_numberOfTrailingZeros_0f7a4 32 = .ok (.iushr, 1) := by decide +kernel
theorem dJ6_numberOfTrailingZeros_0f7a4_33 : decode cJ6_numberOfTrailingZeros_0f7a4 33 = .ok (.istore_n 0, 1) := by decide +kernel
theorem dJ6_numberOfTrailingZeros_0f7a4_34 : decode cJ6_numberOfTrailingZeros_0f7a4 34 = .ok (.iload_n 0, 1) := by decide +kernel
theorem dJ6_numberOfTrailingZeros_0f7a4_35 : decode cJ6_numberOfTrailingZeros_0f7a4 35 = .ok (.sipush 256, 3) := by decide +kernel
theorem dJ6_numberOfTrailingZeros_0f7a4_38 : decode cJ6_numberOfTrailingZeros_0f7a4 38 = .ok (.if_icmp .le 11, 3) := by decide +kernel
theorem dJ6_numberOfTrailingZeros_0f7a4_41 : decode cJ6_numberOfTrailingZeros_0f7a4 41 = .ok (.iinc 1 8, 3) := by decide +kernel
theorem dJ6_numberOfTrailingZeros_0f7a4_44 : decode cJ6_numberOfTrailingZeros_0f7a4 44 = .ok (.iload_n 0, 1) := by decide +kernel
theorem dJ6_numberOfTrailingZeros_0f7a4_45 : decode cJ6_numberOfTrailingZeros_0f7a4 45 = .ok (.bipush 8, 2) := by decide +kernel
theorem dJ6_numberOfTrailingZeros_0f7a4_47 : decode cJ6_numberOfTrailingZeros_0f7a4 47 = .ok (.iushr, 1) := by decide +kernel
theorem dJ6_numberOfTrailingZeros_0f7a4_48 : decode cJ6_numberOfTrailingZeros_0f7a4 48 = .ok (.istore_n 0, 1) := by decide +kernel
theorem dJ6_numberOfTrailingZeros_0f7a4_49 : decode cJ6_numberOfTrailingZeros_0f7a4 49 = .ok (.iload_n 0, 1) := by decide +kernel
theorem dJ6_numberOfTrailingZeros_0f7a4_50 : decode cJ6_numberOfTrailingZeros_0f7a4 50 = .ok (.bipush 16, 2) := by decide +kernel
theorem dJ6_numberOfTrailingZeros_0f7a4_52 : decode cJ6_numberOfTrailingZeros_0f7a4 52 = .ok (.if_icmp .le 10, 3) := by decide +kernel
theorem dJ6_numberOfTrailingZeros_0f7a4_55 : decode cJ6_numberOfTrailingZeros_0f7a4 55 = .ok (.iinc 1 4, 3) := by decide +kernel
theorem dJ6_numberOfTrailingZeros_0f7a4_58 : decode cJ6_numberOfTrailingZeros_0f7a4 58 = .ok (.iload_n 0, 1) := by decide +kernel
theorem dJ6_numberOfTrailingZeros_0f7a4_59 : decode cJ6_numberOfTrailingZeros_0f7a4 59 = .ok (.iconst 4, 1) := by decide +kernel
theorem dJ6_numberOfTrailingZeros_0f7a4_60 : decode cJ6_numberOfTrailingZeros_0f7a4 60 = .ok (.iushr, 1) := by decide +kernel
theorem dJ6_numberOfTrailingZeros_0f7a4_61 : decode cJ6_numberOfTrailingZeros_0f7a4 61 = .ok (.istore_n 0, 1) := by decide +kernel
theorem dJ6_numberOfTrailingZeros_0f7a4_62 : decode cJ6_numberOfTrailingZeros_0f7a4 62 = .ok (.iload_n 0, 1) := by decide +kernel
theorem dJ6_numberOfTrailingZeros_0f7a4_63 : decode cJ6_numberOfTrailingZeros_0f7a4 63 = .ok (.iconst 4, 1) := by decide +kernel
theorem dJ6_numberOfTrailingZeros_0f7a4_64 : decode cJ6_numberOfTrailingZeros_0f7a4 64 = .ok (.if_icmp .le 10, 3) := by decide +kernel
theorem dJ6_numberOfTrailingZeros_0f7a4_67 : decode cJ6_numberOfTrailingZeros_0f7a4 67 = .ok (.iinc 1 2, 3) := by decide +kernel
theorem dJ6_numberOfTrailingZeros_0f7a4_70 : decode cJ6_numberOfTrailingZeros_0f7a4 70 = .ok (.iload_n 0, 1) := by decide +kernel
theorem dJ6_numberOfTrailingZeros_0f7a4_71 : decode cJ6_numberOfTrailingZeros_0f7a4 71 = .ok (.iconst 2, 1) := by decide +kernel
theorem dJ6_numberOfTrailingZeros_0f7a4_72 : decode cJ6_numberOfTrailingZeros_0f7a4 72 = .ok (.iushr, 1) := by decide +kernel
theorem dJ6_numberOfTrailingZeros_0f7a4_73 : decode cJ6_numberOfTrailingZeros_0f7a4 73 = .ok (.istore_n 0, 1) := by decide +kernel
theorem dJ6_numberOfTrailingZeros_0f7a4_74 : decode cJ6_numberOfTrailingZeros_0f7a4 74 = .ok (.iload_n 1, 1) := by decide +kernel
theorem dJ6_numberOfTrailingZeros_0f7a4_75 : decode cJ6_numberOfTrailingZeros_0f7a4 75 = .ok (.iload_n 0, 1) := by decide +kernel
theorem dJ6_numberOfTrailingZeros_0f7a4_76 : decode cJ6_numberOfTrailingZeros_0f7a4 76 = .ok (.iconst 1, 1) := by decide +kernel
theorem dJ6_numberOfTrailingZeros_0f7a4_77 : decode cJ6_numberOfTrailingZeros_0f7a4 77 = .ok (.iushr, 1) := by decide +kernel
theorem dJ6_numberOfTrailingZeros_0f7a4_78 : decode cJ6_numberOfTrailingZeros_0f7a4 78 = .ok (.iadd, 1) := by decide +kernel
theorem dJ6_numberOfTrailingZeros_0f7a4_79 : decode cJ6_numberOfTrailingZeros_0f7a4 79 = .ok (.ireturn, 1) := by decide +kernel
theorem dJ6_bitCount_0f7a4_0 : decode cJ6_bitCount_0f7a4 0 = .ok (.iload_n 0, 1) := by decide +kernel
theorem dJ6_bitCount_0f7a4_1 : decode cJ6_bitCount_0f7a4 1 = .ok (.iload_n 0, 1) := by decide +kernel
theorem dJ6_bitCount_0f7a4_2 : decode cJ6_bitCount_0f7a4 2 = .ok (.iconst 1, 1) := by decide +kernel
theorem dJ6_bitCount_0f7a4_3 : decode cJ6_bitCount_0f7a4 3 = .ok (.iushr, 1) := by decide +kernel
theorem dJ6_bitCount_0f7a4_4 : decode cJ6_bitCount_0f7a4 4 = .ok (.ldc_w 265, 3) := by decide +kernel
theorem dJ6_bitCount_0f7a4_7 : decode cJ6_bitCount_0f7a4 7 = .ok (.iand, 1) := by decide +kernel
theorem dJ6_bitCount_0f7a4_8 : decode cJ6_bitCount_0f7a4 8 = .ok (.isub, 1) := by decide +kernel
theorem dJ6_bitCount_0f7a4_9 : decode cJ6_bitCount_0f7a4 9 = .ok (.istore_n 0, 1) := by decide +kernel
theorem dJ6_bitCount_0f7a4_10 : decode cJ6_bitCount_0f7a4 10 = .ok (.iload_n 0, 1) := by decide +kernel
theorem dJ6_bitCount_0f7a4_11 : decode cJ6_bitCount_0f7a4 11 = .ok (.ldc_w 266, 3) := by decide +kernel
theorem dJ6_bitCount_0f7a4_14 : decode cJ6_bitCount_0f7a4 14 = .ok (.iand, 1) := by decide +kernel
theorem dJ6_bitCount_0f7a4_15 : decode cJ6_bitCount_0f7a4 15 = .ok (.iload_n 0, 1) := by decide +kernel
theorem dJ6_bitCount_0f7a4_16 : decode cJ6_bitCount_0f7a4 16 = .ok (.iconst 2, 1) := by decide +kernel
theorem dJ6_bitCount_0f7a4_17 : decode cJ6_bitCount_0f7a4 17 = .ok (.iushr, 1) := by decide +kernel
theorem dJ6_bitCount_0f7a4_18 : decode cJ6_bitCount_0f7a4 18 = .ok (.ldc_w 266, 3) := by decide +kernel
theorem dJ6_bitCount_0f7a4_21 : decode cJ6_bitCount_0f7a4 21 = .ok (.iand, 1) := by decide +kernel
theorem dJ6_bitCount_0f7a4_22 : decode cJ6_bitCount_0f7a4 22 = .ok (.iadd, 1) := by decide +kernel
theorem dJ6_bitCount_0f7a4_23 : decode cJ6_bitCount_0f7a4 23 = .ok (.istore_n 0, 1) := by decide +kernel
theorem dJ6_bitCount_0f7a4_24 : decode cJ6_bitCount_0f7a4 24 = .ok (.iload_n 0, 1) := by decide +kernel
theorem dJ6_bitCount_0f7a4_25 : decode cJ6_bitCount_0f7a4 25 = .ok (.iload_n 0, 1) := by decide +kernel
theorem dJ6_bitCount_0f7a4_26 : decode cJ6_bitCount_0f7a4 26 = .ok (.iconst 4, 1) := by decide +kernel
theorem dJ6_bitCount_0f7a4_27 : decode cJ6_bitCount_0f7a4 27 = .ok (.iushr, 1) := by decide +kernel
theorem dJ6_bitCount_0f7a4_28 : decode cJ6_bitCount_0f7a4 28 = .ok (.iadd, 1) := by decide +kernel
theorem dJ6_bitCount_0f7a4_29 : decode cJ6_bitCount_0f7a4 29 = .ok (.ldc_w 267, 3) := by decide +kernel
theorem dJ6_bitCount_0f7a4_32 : decode cJ6_bitCount_0f7a4 32 = .ok (.iand, 1) := by decide +kernel
theorem dJ6_bitCount_0f7a4_33 : decode cJ6_bitCount_0f7a4 33 = .ok (.istore_n 0, 1) := by decide +kernel
theorem dJ6_bitCount_0f7a4_34 : decode cJ6_bitCount_0f7a4 34 = .ok (.iload_n 0, 1) := by decide +kernel
theorem dJ6_bitCount_0f7a4_35 : decode cJ6_bitCount_0f7a4 35 = .ok (.iload_n 0, 1) := by decide +kernel
theorem dJ6_bitCount_0f7a4_36 : decode cJ6_bitCount_0f7a4 36 = .ok (.bipush 8, 2) := by decide +kernel
theorem dJ6_bitCount_0f7a4_38 : decode cJ6_bitCount_0f7a4 38 = .ok (.iushr, 1) := by decide +kernel
theorem dJ6_bitCount_0f7a4_39 : decode cJ6_bitCount_0f7a4 39 = .ok (.iadd, 1) := by decide +kernel
theorem dJ6_bitCount_0f7a4_40 : decode cJ6_bitCount_0f7a4 40 = .ok (.istore_n 0, 1) := by decide +kernel
theorem dJ6_bitCount_0f7a4_41 : decode cJ6_bitCount_0f7a4 41 = .ok (.iload_n 0, 1) := by decide +kernel
theorem dJ6_bitCount_0f7a4_42 : decode cJ6_bitCount_0f7a4 42 = .ok (.iload_n 0, 1) := by decide +kernel
theorem dJ6_bitCount_0f7a4_43 : decode cJ6_bitCount_0f7a4 43 = .ok (.bipush 16, 2) := by decide +kernel
theorem dJ6_bitCount_0f7a4_45 : decode cJ6_bitCount_0f7a4 45 = .ok (.iushr, 1) := by decide +kernel
theorem dJ6_bitCount_0f7a4_46 : decode cJ6_bitCount_0f7a4 46 = .ok (.iadd, 1) := by decide +kernel
theorem dJ6_bitCount_0f7a4_47 : decode cJ6_bitCount_0f7a4 47 = .ok (.istore_n 0, 1) := by decide +kernel
theorem dJ6_bitCount_0f7a4_48 : decode cJ6_bitCount_0f7a4 48 = .ok (.iload_n 0, 1) := by decide +kernel
theorem dJ6_bitCount_0f7a4_49 : decode cJ6_bitCount_0f7a4 49 = .ok (.bipush 63, 2) := by decide +kernel
theorem dJ6_bitCount_0f7a4_51 : decode cJ6_bitCount_0f7a4 51 = .ok (.iand, 1) := by decide +kernel
theorem dJ6_bitCount_0f7a4_52 : decode cJ6_bitCount_0f7a4 52 = .ok (.ireturn, 1) := by decide +kernel
theorem dJ13_signum_95d88_0 : decode cJ13_signum_95d88 0 = .ok (.lload_n 0, 1) := by decide +kernel
theorem dJ13_signum_95d88_1 : decode cJ13_signum_95d88 1 = .ok (.bipush 63, 2) := by decide +kernel
theorem dJ13_signum_95d88_3 : decode cJ13_signum_95d88 3 = .ok (.lshr, 1) := by decide +kernel
theorem dJ13_signum_95d88_4 : decode cJ13_signum_95d88 4 = .ok (.lload_n 0, 1) := by decide +kernel
theorem dJ13_signum_95d88_5 : decode cJ13_signum_95d88 5 = .ok (.lneg, 1) := by decide +kernel
theorem dJ13_signum_95d88_6 : decode cJ13_signum_95d88 6 = .ok (.bipush 63, 2) := by decide +kernel
theorem dJ13_signum_95d88_8 : decode cJ13_signum_95d88 8 = .ok (.lushr, 1) := by decide +kernel
theorem dJ13_signum_95d88_9 : decode cJ13_signum_95d88 9 = .ok (.lor, 1) := by decide +kernel
theorem dJ13_signum_95d88_10 : decode cJ13_signum_95d88 10 = .ok (.l2i, 1) := by decide +kernel
theorem dJ13_signum_95d88_11 : decode cJ13_signum_95d88 11 = .ok (.ireturn, 1) := by decide +kernel
theorem dJ9_abs_0f7a4_0 : decode cJ9_abs_0f7a4 0 = .ok (.iload_n 0, 1) := by decide +kernel
theorem dJ9_abs_0f7a4_1 : decode cJ9_abs_0f7a4 1 = .ok (.ifCond .ge 8, 3) := by decide +kernel
theorem dJ9_abs_0f7a4_4 : decode cJ9_abs_0f7a4 4 = .ok (.iload_n 0, 1) := by decide +kernel
theorem dJ9_abs_0f7a4_5 : decode cJ9_abs_0f7a4 5 = .ok (.ineg, 1) := by decide +kernel
theorem dJ9_abs_0f7a4_6 : decode cJ9_abs_0f7a4 6 = .ok (.goto 4, 3) := by decide +kernel
theorem dJ9_abs_0f7a4_9 : decode cJ9_abs_0f7a4 9 = .ok (.iload_n 0, 1) := by decide +kernel
theorem dJ9_abs_0f7a4_10 : decode cJ9_abs_0f7a4 10 = .ok (.ireturn, 1) := by decide +kernel
theorem dJ9_max_7cf53_0 : decode cJ9_max_7cf53 0 = .ok (.iload_n 0, 1) := by decide +kernel
theorem dJ9_max_7cf53_1 : decode cJ9_max_7cf53 1 = .ok (.iload_n 1, 1) := by decide +kernel
theorem dJ9_max_7cf53_2 : decode cJ9_max_7cf53 2 = .ok (.if_icmp .lt 7, 3) := by decide +kernel
theorem dJ9_max_7cf53_5 : decode cJ9_max_7cf53 5 = .ok (.iload_n 0, 1) := by decide +kernel
theorem dJ9_max_7cf53_6 : decode cJ9_max_7cf53 6 = .ok (.goto 4, 3) := by decide +kernel
theorem dJ9_max_7cf53_9 : decode cJ9_max_7cf53 9 = .ok (.iload_n 1, 1) := by decide +kernel
theorem dJ9_max_7cf53_10 : decode cJ9_max_7cf53 10 = .ok (.ireturn, 1) := by decide +kernel
theorem dJ9_max_f86c9_0 : decode cJ9_max_f86c9 0 = .ok (.lload_n 0, 1) := by decide +kernel
theorem dJ9_max_f86c9_1 : decode cJ9_max_f86c9 1 = .ok (.lload_n 2, 1) := by decide +kernel
theorem dJ9_max_f86c9_2 : decode cJ9_max_f86c9 2 = .ok (.lcmp, 1) := by decide +kernel
theorem dJ9_max_f86c9_3 : decode cJ9_max_f86c9 3 = .ok (.ifCond .lt 7, 3) := by decide +kernel
theorem dJ9_max_f86c9_6 : decode cJ9_max_f86c9 6 = .ok (.lload_n 0, 1) := by decide +kernel
theorem dJ9_max_f86c9_7 : decode cJ9_max_f86c9 7 = .ok (.goto 4, 3) := by decide +kernel
theorem dJ9_max_f86c9_10 : decode cJ9_max_f86c9 10 = .ok (.lload_n 2, 1) := by decide +kernel
theorem dJ9_max_f86c9_11 : decode cJ9_max_f86c9 11 = .ok (.lreturn, 1) := by decide +kernel
theorem dJ9_min_7cf53_0 : decode cJ9_min_7cf53 0 = .ok (.iload_n 0, 1) := by decide +kernel
theorem dJ9_min_7cf53_1 : decode cJ9_min_7cf53 1 = .ok (.iload_n 1, 1) := by decide +kernel
theorem dJ9_min_7cf53_2 : decode cJ9_min_7cf53 2 = .ok (.if_icmp .gt 7, 3) := by decide +kernel
theorem dJ9_min_7cf53_5 : decode cJ9_min_7cf53 5 = .ok (.iload_n 0, 1) := by decide +kernel
theorem dJ9_min_7cf53_6 : decode cJ9_min_7cf53 6 = .ok (.goto 4, 3) := by decide +kernel
theorem dJ9_min_7cf53_9 : decode cJ9_min_7cf53 9 = .ok (.iload_n 1, 1) := by decide +kernel
theorem dJ9_min_7cf53_10 : decode cJ9_min_7cf53 10 = .ok (.ireturn, 1) := by decide +kernel
theorem dJ9_min_f86c9_0 : decode cJ9_min_f86c9 0 = .ok (.lload_n 0, 1) := by decide +kernel
theorem dJ9_min_f86c9_1 : decode cJ9_min_f86c9 1 = .ok (.lload_n 2, 1) := by decide +kernel
theorem dJ9_min_f86c9_2 : decode cJ9_min_f86c9 2 = .ok (.lcmp, 1) := by decide +kernel
theorem dJ9_min_f86c9_3 : decode cJ9_min_f86c9 3 = .ok (.ifCond .gt 7, 3) := by decide +kernel
theorem dJ9_min_f86c9_6 : decode cJ9_min_f86c9 6 = .ok (.lload_n 0, 1) := by decide +kernel
theorem dJ9_min_f86c9_7 : decode cJ9_min_f86c9 7 = .ok (.goto 4, 3) := by decide +kernel
theorem dJ9_min_f86c9_10 : decode cJ9_min_f86c9 10 = .ok (.lload_n 2, 1) := by decide +kernel
theorem dJ9_min_f86c9_11 : decode cJ9_min_f86c9 11 = .ok (.lreturn, 1) := by decide +kernel
theorem dJxd2413_init_da8c8_0 : decode cJxd2413_init_da8c8 0 = .ok (.aload_n 0, 1) := by decide +kernel
theorem dJxd2413_init_da8c8_1 : decode cJxd2413_init_da8c8 1 = .ok (.invokespecial 1, 3) := by decide +kernel
theorem dJxd2413_init_da8c8_4 : decode cJxd2413_init_da8c8 4 = .ok (.return_, 1) := by decide +kernel
theorem dJxa1e45_init_da8c8_0 : decode cJxa1e45_init_da8c8 0 = .ok (.aload_n 0, 1) := by decide +kernel
theorem dJxa1e45_init_da8c8_1 : decode cJxa1e45_init_da8c8 1 = .ok (.invokespecial 1, 3) := by decide +kernel
theorem dJxa1e45_init_da8c8_4 : decode cJxa1e45_init_da8c8 4 = .ok (.return_, 1) := by decide +kernel
theorem dJxc12de_init_da8c8_0 : decode cJxc12de_init_da8c8 0 = .ok (.aload_n 0, 1) := by decide +kernel
theorem dJxc12de_init_da8c8_1 : decode cJxc12de_init_da8c8 1 = .ok (.invokespecial 1, 3) := by decide +kernel
theorem dJxc12de_init_da8c8_4 : decode cJxc12de_init_da8c8 4 = .ok (.aload_n 0, 1) := by decide +kernel
theorem dJxc12de_init_da8c8_5 : decode cJxc12de_init_da8c8 5 = .ok (.iconst 0, 1) := by decide +kernel
theorem dJxc12de_init_da8c8_6 : decode cJxc12de_init_da8c8 6 = .ok (.putfield 7, 3) := by decide +kernel
theorem dJxc12de_init_da8c8_9 : decode cJxc12de_init_da8c8 9 = .ok (.return_, 1) := by decide +kernel
theorem dJx35411_init_45d68_0 : decode cJx35411_init_45d68 0 = .ok (.aload_n 0, 1) := by decide +kernel
theorem dJx35411_init_45d68_1 : decode cJx35411_init_45d68 1 = .ok (.aload_n 1, 1) := by decide +kernel
theorem dJx35411_init_45d68_2 : decode cJx35411_init_45d68 2 = .ok (.putfield 1, 3) := by decide +kernel
theorem dJx35411_init_45d68_5 : decode cJx35411_init_45d68 5 = .ok (.aload_n 0, 1) := by decide +kernel
theorem dJx35411_init_45d68_6 : decode cJx35411_init_45d68 6 = .ok (.invokespecial 7, 3) := by decide +kernel
theorem dJx35411_init_45d68_9 : decode cJx35411_init_45d68 9 = .ok (.aload_n 0, 1) := by decide +kernel
theorem dJx35411_init_45d68_10 : decode cJx35411_init_45d68 10 = .ok (.iconst (-1), 1) := by decide +kernel
theorem dJx35411_init_45d68_11 : decode cJx35411_init_45d68 11 = .ok (.putfield 13, 3) := by decide +kernel
theorem dJx35411_init_45d68_14 : decode cJx35411_init_45d68 14 = .ok (.aload_n 0, 1) := by decide +kernel
theorem dJx35411_init_45d68_15 : decode cJx35411_init_45d68 15 = .ok (.aload_n 0, 1) := by decide +kernel
theorem dJx35411_init_45d68_16 : decode cJx35411_init_45d68 16 = .ok (.getfield 1, 3) := by decide +kernel
theorem dJx35411_init_45d68_19 : decode cJx35411_init_45d68 19 = .ok (.getfield 17, 3) := by decide +kernel
theorem dJx35411_init_45d68_22 : decode cJx35411_init_45d68 22 = .ok (.putfield 22, 3) := by decide +kernel
theorem dJx35411_init_45d68_25 : decode cJx35411_init_45d68 25 = .ok (.return_, 1) := by decide +kernel
theorem dJx35411_hasNext_aae02_0 : decode cJx35411_hasNext_aae02 0 = .ok (.aload_n 0, 1) := by decide +kernel
theorem dJx35411_hasNext_aae02_1 : decode cJx35411_hasNext_aae02 1 = .ok (.getfield 25, 3) := by decide +kernel
theorem dJx35411_hasNext_aae02_4 : decode cJx35411_hasNext_aae02 4 = .ok (.aload_n 0, 1) := by decide +kernel
theorem dJx35411_hasNext_aae02_5 : decode cJx35411_hasNext_aae02 5 = .ok (.getfield 1, 3) := by decide +kernel
theorem dJx35411_hasNext_aae02_8 : decode cJx35411_hasNext_aae02 8 = .ok (.getfield 28, 3) := by decide +kernel
theorem dJx35411_hasNext_aae02_11 : decode cJx35411_hasNext_aae02 11 = .ok (.if_icmp .eq 7, 3) := by decide +kernel
theorem dJx35411_hasNext_aae02_14 : decode cJx35411_hasNext_aae02 14 = .ok (.iconst 1, 1) := by decide +kernel
theorem dJx35411_hasNext_aae02_15 : decode cJx35411_hasNext_aae02 15 = .ok (.goto 4, 3) := by decide +kernel
theorem dJx35411_hasNext_aae02_18 : decode cJx35411_hasNext_aae02 18 = .ok (.iconst 0, 1) := by decide +kernel
theorem dJx35411_hasNext_aae02_19 : decode cJx35411_hasNext_aae02 19 = .ok (.ireturn, 1) := by decide +kernel
theorem dJx35411_next_0502b_0 : decode cJx35411_next_0502b 0 = .ok (.aload_n 0, 1) := by decide +kernel
theorem dJx35411_next_0502b_1 : decode cJx35411_next_0502b 1 = .ok (.invokevirtual 31, 3) := by decide +kernel
theorem dJx35411_next_0502b_4 : decode cJx35411_next_0502b 4 = .ok (.aload_n 0, 1) := by decide +kernel
theorem dJx35411_next_0502b_5 : decode cJx35411_next_0502b 5 = .ok (.getfield 25, 3) := by decide +kernel
theorem dJx35411_next_0502b_8 : decode cJx35411_next_0502b 8 = .ok (.istore_n 1, 1) := by decide +kernel
theorem dJx35411_next_0502b_9 : decode cJx35411_next_0502b 9 = .ok (.iload_n 1, 1) := by decide +kernel
theorem dJx35411_next_0502b_10 : decode cJx35411_next_0502b 10 = .ok (.aload_n 0, 1) := by decide +kernel
theorem dJx35411_next_0502b_11 : decode cJx35411_next_0502b 11 = .ok (.getfield 1, 3) := by decide +kernel
theorem dJx35411_next_0502b_14 : decode cJx35411_next_0502b 14 = .ok (.getfield 28, 3) := by decide +kernel
theorem dJx35411_next_0502b_17 : decode cJx35411_next_0502b 17 = .ok (.if_icmp .lt 11, 3) := by decide +kernel
theorem dJx35411_next_0502b_20 : decode cJx35411_next_0502b 20 = .ok (.new 34, 3) := by decide +kernel
theorem dJx35411_next_0502b_23 : decode cJx35411_next_0502b 23 = .ok (.dup, 1) := by decide +kernel
theorem dJx35411_next_0502b_24 : decode cJx35411_next_0502b 24 = .ok (.invokespecial 36, 3) := by decide +kernel
theorem dJx35411_next_0502b_27 : decode cJx35411_next_0502b 27 = .ok (.athrow, 1) := by decide +kernel
theorem dJx35411_next_0502b_28 : decode cJx35411_next_0502b 28 = .ok (.aload_n 0, 1) := by decide +kernel
theorem dJx35411_next_0502b_29 : decode cJx35411_next_0502b 29 = .ok (.getfield 1, 3) := by decide +kernel
theorem dJx35411_next_0502b_32 : decode cJx35411_next_0502b 32 = .ok (.getfield 37, 3) := by decide +kernel
theorem dJx35411_next_0502b_35 : decode cJx35411_next_0502b 35 = .ok (.astore_n 2, 1) := by decide +kernel
theorem dJx35411_next_0502b_36 : decode cJx35411_next_0502b 36 = .ok (.iload_n 1, 1) := by decide +kernel
theorem dJx35411_next_0502b_37 : decode cJx35411_next_0502b 37 = .ok (.aload_n 2, 1) := by decide +kernel
theorem dJx35411_next_0502b_38 : decode cJx35411_next_0502b 38 = .ok (.arraylength, 1) := by decide +kernel
theorem dJx35411_next_0502b_39 : decode cJx35411_next_0502b 39 = .ok (.if_icmp .lt 11, 3) := by decide +kernel
theorem dJx35411_next_0502b_42 : decode cJx35411_next_0502b 42 = .ok (.new 41, 3) := by decide +kernel
theorem dJx35411_next_0502b_45 : decode cJx35411_next_0502b 45 = .ok (.dup, 1) := by decide +kernel
theorem dJx35411_next_0502b_46 : decode cJx35411_next_0502b 46 = .ok (.invokespecial 43, 3) := by decide +kernel
theorem dJx35411_next_0502b_49 : decode cJx35411_next_0502b 49 = .ok (.athrow, 1) := by decide +kernel
theorem dJx35411_next_0502b_50 : decode cJx35411_next_0502b 50 = .ok (.aload_n 0, 1) := by decide +kernel
theorem dJx35411_next_0502b_51 : decode cJx35411_next_0502b 51 = .ok (.iload_n 1, 1) := by decide +kernel
theorem dJx35411_next_0502b_52 : decode cJx35411_next_0502b 52 = .ok (.iconst 1, 1) := by decide +kernel
theorem dJx35411_next_0502b_53 : decode cJx35411_next_0502b 53 = .ok (.iadd, 1) := by decide +kernel
theorem dJx35411_next_0502b_54 : decode cJx35411_next_0502b 54 = .ok (.putfield 25, 3) := by decide +kernel
theorem dJx35411_next_0502b_57 : decode cJx35411_next_0502b 57 = .ok (.aload_n 2, 1) := by decide +kernel
theorem dJx35411_next_0502b_58 : decode cJx35411_next_0502b 58 = .ok (.aload_n 0, 1) := by decide +kernel
theorem dJx35411_next_0502b_59 : decode cJx35411_next_0502b 59 = .ok (.iload_n 1, 1) := by decide +kernel
theorem dJx35411_next_0502b_60 : decode cJx35411_next_0502b 60 = .ok (.dup_x1, 1) := by decide +kernel
theorem dJx35411_next_0502b_61 : decode cJx35411_next_0502b 61 = .ok (.putfield 13, 3) := by decide +kernel
theorem dJx35411_next_0502b_64 : decode cJx35411_next_0502b 64 = .ok (.aaload, 1) := by decide +kernel
theorem dJx35411_next_0502b_65 : decode cJx35411_next_0502b 65 = .ok (.areturn, 1) := by decide +kernel
theorem dJx35411_checkForComodification_da8c8_0 : decode cJx35411_checkForComodification_da8c8 0 = .ok (.aload_n 0, 1) := by decide +kernel
theorem dJx35411_checkForComodification_da8c8_1 : decode cJx35411_checkForComodification_da8c8 1 = .ok (.getfield 1, 3) := by decide +kernel
theorem dJx35411_checkForComodification_da8c8_4 : decode cJx35411_checkForComodification_da8c8 4 = .ok (.getfield 17, 3) := by decide +kernel
theorem dJx35411_checkForComodification_da8c8_7 : decode cJx35411_checkForComodification_da8c8 7 = .ok (.aload_n 0, 1) := by decide +kernel
theorem dJx35411_checkForComodification_da8c8_8 : decode cJx35411_checkForComodification_da8c8 8 = .ok (.getfield 22, 3) := by decide +kernel
theorem dJx35411_checkForComodification_da8c8_11 : decode cJx35411_checkForComodification_da8c8 11 = .ok (.if_icmp .eq 11, 3) := by decide +kernel
theorem dJx35411_checkForComodification_da8c8_14 : decode cJx35411_checkForComodification_da8c8 14 = .ok (.new 41, 3) := by decide +kernel
theorem dJx35411_checkForComodification_da8c8_17 : decode cJx35411_checkForComodification_da8c8 17 = .ok (.dup, 1) := by decide +kernel
theorem dJx35411_checkForComodification_da8c8_18 : decode cJx35411_checkForComodification_da8c8 18 = .ok (.invokespecial 43, 3) := by decide +kernel
theorem dJx35411_checkForComodification_da8c8_21 : decode cJx35411_checkForComodification_da8c8 21 = .ok (.athrow, 1) := by decide +kernel
theorem dJx35411_checkForComodification_da8c8_22 : decode cJx35411_checkForComodification_da8c8 22 = .ok (.return_, 1) := by decide +kernel
theorem dJx4a65c_init_da8c8_0 : decode cJx4a65c_init_da8c8 0 = .ok (.aload_n 0, 1) := by decide +kernel
theorem dJx4a65c_init_da8c8_1 : decode cJx4a65c_init_da8c8 1 = .ok (.invokespecial 1, 3) := by decide +kernel
theorem dJx4a65c_init_da8c8_4 : decode cJx4a65c_init_da8c8 4 = .ok (.aload_n 0, 1) := by decide +kernel
theorem dJx4a65c_init_da8c8_5 : decode cJx4a65c_init_da8c8 5 = .ok (.getstatic 39, 3) := by decide +kernel
theorem dJx4a65c_init_da8c8_8 : decode cJx4a65c_init_da8c8 8 = .ok (.putfield 9, 3) := by decide +kernel
theorem dJx4a65c_init_da8c8_11 : decode cJx4a65c_init_da8c8 11 = .ok (.return_, 1) := by decide +kernel
theorem dJx4a65c_grow_92f84_0 : decode cJx4a65c_grow_92f84 0 = .ok (.aload_n 0, 1) := by decide +kernel
theorem dJx4a65c_grow_92f84_1 : decode cJx4a65c_grow_92f84 1 = .ok (.getfield 9, 3) := by decide +kernel
theorem dJx4a65c_grow_92f84_4 : decode cJx4a65c_grow_92f84 4 = .ok (.arraylength, 1) := by decide +kernel
theorem dJx4a65c_grow_92f84_5 : decode cJx4a65c_grow_92f84 5 = .ok (.istore_n 2, 1) := by decide +kernel
theorem dJx4a65c_grow_92f84_6 : decode cJx4a65c_grow_92f84 6 = .ok (.iload_n 2, 1) := by decide +kernel
theorem dJx4a65c_grow_92f84_7 : decode cJx4a65c_grow_92f84 7 = .ok (.ifCond .gt 13, 3) := by decide +kernel
theorem dJx4a65c_grow_92f84_10 : decode cJx4a65c_grow_92f84 10 = .ok (.aload_n 0, 1) := by decide +kernel
theorem dJx4a65c_grow_92f84_11 : decode cJx4a65c_grow_92f84 11 = .ok (.getfield 9, 3) := by decide +kernel
theorem dJx4a65c_grow_92f84_14 : decode cJx4a65c_grow_92f84 14 = .ok (.getstatic 39, 3) := by decide +kernel
theorem dJx4a65c_grow_92f84_17 : decode cJx4a65c_grow_92f84 17 = .ok (.if_acmp .eq 28, 3) := by decide +kernel
theorem dJx4a65c_grow_92f84_20 : decode cJx4a65c_grow_92f84 20 = .ok (.iload_n 2, 1) := by decide +kernel
theorem dJx4a65c_grow_92f84_21 : decode cJx4a65c_grow_92f84 21 = .ok (.iload_n 1, 1) := by decide +kernel
theorem dJx4a65c_grow_92f84_22 : decode cJx4a65c_grow_92f84 22 = .ok (.iload_n 2, 1) := by decide +kernel
theorem dJx4a65c_grow_92f84_23 : decode cJx4a65c_grow_92f84 23 = .ok (.isub, 1) := by decide +kernel
theorem dJx4a65c_grow_92f84_24 : decode cJx4a65c_grow_92f84 24 = .ok (.iload_n 2, 1) := by decide +kernel
theorem dJx4a65c_grow_92f84_25 : decode cJx4a65c_grow_92f84 25 = .ok (.iconst 1, 1) := by decide +kernel
theorem dJx4a65c_grow_92f84_26 : decode cJx4a65c_grow_92f84 26 = .ok (.ishr, 1) := by decide +kernel
theorem dJx4a65c_grow_92f84_27 : decode cJx4a65c_grow_92f84 27 = .ok (.invokestatic 73, 3) := by decide +kernel
theorem dJx4a65c_grow_92f84_30 : decode cJx4a65c_grow_92f84 30 = .ok (.istore_n 3, 1) := by decide +kernel
theorem dJx4a65c_grow_92f84_31 : decode cJx4a65c_grow_92f84 31 = .ok (.aload_n 0, 1) := by decide +kernel
theorem dJx4a65c_grow_92f84_32 : decode cJx4a65c_grow_92f84 32 = .ok (.aload_n 0, 1) := by decide +kernel
theorem dJx4a65c_grow_92f84_33 : decode cJx4a65c_grow_92f84 33 = .ok (.getfield 9, 3) := by decide +kernel
theorem dJx4a65c_grow_92f84_36 : decode cJx4a65c_grow_92f84 36 = .ok (.iload_n 3, 1) := by decide +kernel
theorem dJx4a65c_grow_92f84_37 : decode cJx4a65c_grow_92f84 37 = .ok (.invokestatic 66, 3) := by decide +kernel
theorem dJx4a65c_grow_92f84_40 : decode cJx4a65c_grow_92f84 40 = .ok (.dup_x1, 1) := by decide +kernel
theorem dJx4a65c_grow_92f84_41 : decode cJx4a65c_grow_92f84 41 = .ok (.putfield 9, 3) := by decide +kernel
theorem dJx4a65c_grow_92f84_44 : decode cJx4a65c_grow_92f84 44 = .ok (.areturn, 1) := by decide +kernel
theorem dJx4a65c_grow_92f84_45 : decode cJx4a65c_grow_92f84 45 = .ok (.aload_n 0, 1) := by decide +kernel
theorem dJx4a65c_grow_92f84_46 : decode cJx4a65c_grow_92f84 46 = .ok (.bipush 10, 2) := by decide +kernel
theorem dJx4a65c_grow_92f84_48 : decode cJx4a65c_grow_92f84 48 = .ok (.iload_n 1, 1) := by decide +kernel
theorem dJx4a65c_grow_92f84_49 : decode cJx4a65c_grow_92f84 49 = .ok (.invokestatic 79, 3) := by decide +kernel
theorem dJx4a65c_grow_92f84_52 : decode cJx4a65c_grow_92f84 52 = .ok (.anewarray 7, 3) := by decide +kernel
theorem dJx4a65c_grow_92f84_55 : decode cJx4a65c_grow_92f84 55 = .ok (.dup_x1, 1) := by decide +kernel
theorem dJx4a65c_grow_92f84_56 : decode cJx4a65c_grow_92f84 56 = .ok (.putfield 9, 3) := by decide +kernel
theorem dJx4a65c_grow_92f84_59 : decode cJx4a65c_grow_92f84 59 = .ok (.areturn, 1) := by decide +kernel
theorem dJx4a65c_grow_d5877_0 : decode cJx4a65c_grow_d5877 0 = .ok (.aload_n 0, 1) := by decide +kernel
theorem dJx4a65c_grow_d5877_1 : decode cJx4a65c_grow_d5877 1 = .ok (.aload_n 0, 1) := by decide +kernel
theorem dJx4a65c_grow_d5877_2 : decode cJx4a65c_grow_d5877 2 = .ok (.getfield 48, 3) := by decide +kernel
theorem dJx4a65c_grow_d5877_5 : decode cJx4a65c_grow_d5877 5 = .ok (.iconst 1, 1) := by decide +kernel
theorem dJx4a65c_grow_d5877_6 : decode cJx4a65c_grow_d5877 6 = .ok (.iadd, 1) := by decide +kernel
theorem dJx4a65c_grow_d5877_7 : decode cJx4a65c_grow_d5877 7 = .ok (.invokevirtual 69, 3) := by decide +kernel
theorem dJx4a65c_grow_d5877_10 : decode cJx4a65c_grow_d5877 10 = .ok (.areturn, 1) := by decide +kernel
theorem dJx4a65c_size_8abf5_0 : decode cJx4a65c_size_8abf5 0 = .ok (.aload_n 0, 1) := by decide +kernel
theorem dJx4a65c_size_8abf5_1 : decode cJx4a65c_size_8abf5 1 = .ok (.getfield 48, 3) := by decide +kernel
theorem dJx4a65c_size_8abf5_4 : decode cJx4a65c_size_8abf5 4 = .ok (.ireturn, 1) := by decide +kernel
theorem dJx4a65c_isEmpty_aae02_0 : decode cJx4a65c_isEmpty_aae02 0 = .ok (.aload_n 0, 1) := by decide +kernel
theorem dJx4a65c_isEmpty_aae02_1 : decode cJx4a65c_isEmpty_aae02 1 = .ok (.getfield 48, 3) := by decide +kernel
theorem dJx4a65c_isEmpty_aae02_4 : decode cJx4a65c_isEmpty_aae02 4 = .ok (.ifCond .ne 7, 3) := by decide +kernel
theorem dJx4a65c_isEmpty_aae02_7 : decode cJx4a65c_isEmpty_aae02 7 = .ok (.iconst 1, 1) := by decide +kernel
theorem dJx4a65c_isEmpty_aae02_8 : decode cJx4a65c_isEmpty_aae02 8 = .ok (.goto 4, 3) := by decide +kernel
theorem dJx4a65c_isEmpty_aae02_11 : decode cJx4a65c_isEmpty_aae02 11 = .ok (.iconst 0, 1) := by decide +kernel
theorem dJx4a65c_isEmpty_aae02_12 : decode cJx4a65c_isEmpty_aae02 12 = .ok (.ireturn, 1) := by decide +kernel
theorem dJx4a65c_elementData_915e3_0 : decode cJx4a65c_elementData_915e3 0 = .ok (.aload_n 0, 1) := by decide +kernel
theorem dJx4a65c_elementData_915e3_1 : decode cJx4a65c_elementData_915e3 1 = .ok (.getfield 9, 3) := by decide +kernel
theorem dJx4a65c_elementData_915e3_4 : decode cJx4a65c_elementData_915e3 4 = .ok (.iload_n 1, 1) := by decide +kernel
theorem dJx4a65c_elementData_915e3_5 : decode cJx4a65c_elementData_915e3 5 = .ok (.aaload, 1) := by decide +kernel
theorem dJx4a65c_elementData_915e3_6 : decode cJx4a65c_elementData_915e3 6 = .ok (.areturn, 1) := by decide +kernel
theorem dJx4a65c_get_915e3_0 : decode cJx4a65c_get_915e3 0 = .ok (.iload_n 1, 1) := by decide +kernel
theorem dJx4a65c_get_915e3_1 : decode cJx4a65c_get_915e3 1 = .ok (.aload_n 0, 1) := by decide +kernel
theorem dJx4a65c_get_915e3_2 : decode cJx4a65c_get_915e3 2 = .ok (.getfield 48, 3) := by decide +kernel
theorem dJx4a65c_get_915e3_5 : decode cJx4a65c_get_915e3 5 = .ok (.invokestatic 118, 3) := by decide +kernel
theorem dJx4a65c_get_915e3_8 : decode cJx4a65c_get_915e3 8 = .ok (.pop, 1) := by decide +kernel
theorem dJx4a65c_get_915e3_9 : decode cJx4a65c_get_915e3 9 = .ok (.aload_n 0, 1) := by decide +kernel
theorem dJx4a65c_get_915e3_10 : decode cJx4a65c_get_915e3 10 = .ok (.iload_n 1, 1) := by decide +kernel
theorem dJx4a65c_get_915e3_11 : decode cJx4a65c_get_915e3 11 = .ok (.invokevirtual 123, 3) := by decide +kernel
theorem dJx4a65c_get_915e3_14 : decode cJx4a65c_get_915e3 14 = .ok (.areturn, 1) := by decide +kernel
theorem dJx4a65c_add_72be8_0 : decode cJx4a65c_add_72be8 0 = .ok (.iload_n 3, 1) := by decide +kernel
theorem dJx4a65c_add_72be8_1 : decode cJx4a65c_add_72be8 1 = .ok (.aload_n 2, 1) := by decide +kernel
theorem dJx4a65c_add_72be8_2 : decode cJx4a65c_add_72be8 2 = .ok (.arraylength, 1) := by decide +kernel
theorem dJx4a65c_add_72be8_3 : decode cJx4a65c_add_72be8 3 = .ok (.if_icmp .ne 8, 3) := by decide +kernel
theorem dJx4a65c_add_72be8_6 : decode cJx4a65c_add_72be8 6 = .ok (.aload_n 0, 1) := by decide +kernel
theorem dJx4a65c_add_72be8_7 : decode cJx4a65c_add_72be8 7 = .ok (.invokevirtual 129, 3) := by decide +kernel
theorem dJx4a65c_add_72be8_10 : decode cJx4a65c_add_72be8 10 = .ok (.astore_n 2, 1) := by decide +kernel
theorem dJx4a65c_add_72be8_11 : decode cJx4a65c_add_72be8 11 = .ok (.aload_n 2, 1) := by decide +kernel
theorem dJx4a65c_add_72be8_12 : decode cJx4a65c_add_72be8 12 = .ok (.iload_n 3, 1) := by decide +kernel
theorem dJx4a65c_add_72be8_13 : decode cJx4a65c_add_72be8 13 = .ok (.aload_n 1, 1) := by decide +kernel
theorem dJx4a65c_add_72be8_14 : decode cJx4a65c_add_72be8 14 = .ok (.aastore, 1) := by decide +kernel
theorem dJx4a65c_add_72be8_15 : decode cJx4a65c_add_72be8 15 = .ok (.aload_n 0, 1) := by decide +kernel
theorem dJx4a65c_add_72be8_16 : decode cJx4a65c_add_72be8 16 = .ok (.iload_n 3, 1) := by decide +kernel
theorem dJx4a65c_add_72be8_17 : decode cJx4a65c_add_72be8 17 = .ok (.iconst 1, 1) := by decide +kernel
theorem dJx4a65c_add_72be8_18 : decode cJx4a65c_add_72be8 18 = .ok (.iadd, 1) := by decide +kernel
theorem dJx4a65c_add_72be8_19 : decode cJx4a65c_add_72be8 19 = .ok (.putfield 48, 3) := by decide +kernel
theorem dJx4a65c_add_72be8_22 : decode cJx4a65c_add_72be8 22 = .ok (.return_, 1) := by decide +kernel
theorem dJx4a65c_add_9ea2d_0 : decode cJx4a65c_add_9ea2d 0 = .ok (.aload_n 0, 1) := by decide +kernel
theorem dJx4a65c_add_9ea2d_1 : decode cJx4a65c_add_9ea2d 1 = .ok (.dup, 1) := by decide +kernel
theorem dJx4a65c_add_9ea2d_2 : decode cJx4a65c_add_9ea2d 2 = .ok (.getfield 63, 3) := by decide +kernel
theorem dJx4a65c_add_9ea2d_5 : decode cJx4a65c_add_9ea2d 5 = .ok (.iconst 1, 1) := by decide +kernel
theorem dJx4a65c_add_9ea2d_6 : decode cJx4a65c_add_9ea2d 6 = .ok (.iadd, 1) := by decide +kernel
theorem dJx4a65c_add_9ea2d_7 : decode cJx4a65c_add_9ea2d 7 = .ok (.putfield 63, 3) := by decide +kernel
theorem dJx4a65c_add_9ea2d_10 : decode cJx4a65c_add_9ea2d 10 = .ok (.aload_n 0, 1) := by decide +kernel
theorem dJx4a65c_add_9ea2d_11 : decode cJx4a65c_add_9ea2d 11 = .ok (.aload_n 1, 1) := by decide +kernel
theorem dJx4a65c_add_9ea2d_12 : decode cJx4a65c_add_9ea2d 12 = .ok (.aload_n 0, 1) := by decide +kernel
theorem dJx4a65c_add_9ea2d_13 : decode cJx4a65c_add_9ea2d 13 = .ok (.getfield 9, 3) := by decide +kernel
theorem dJx4a65c_add_9ea2d_16 : decode cJx4a65c_add_9ea2d 16 = .ok (.aload_n 0, 1) := by decide +kernel
theorem dJx4a65c_add_9ea2d_17 : decode cJx4a65c_add_9ea2d 17 = .ok (.getfield 48, 3) := by decide +kernel
theorem dJx4a65c_add_9ea2d_20 : decode cJx4a65c_add_9ea2d 20 = .ok (.invokevirtual 131, 3) := by decide +kernel
theorem dJx4a65c_add_9ea2d_23 : decode cJx4a65c_add_9ea2d 23 = .ok (.iconst 1, 1) := by decide +kernel
theorem dJx4a65c_add_9ea2d_24 : decode cJx4a65c_add_9ea2d 24 = .ok (.ireturn, 1) := by decide +kernel
theorem dJx4a65c_remove_915e3_0 : decode cJx4a65c_remove_915e3 0 = .ok (.iload_n 1, 1) := by decide +kernel
theorem dJx4a65c_remove_915e3_1 : decode cJx4a65c_remove_915e3 1 = .ok (.aload_n 0, 1) := by decide +kernel
theorem dJx4a65c_remove_915e3_2 : decode cJx4a65c_remove_915e3 2 = .ok (.getfield 48, 3) := by decide +kernel
theorem dJx4a65c_remove_915e3_5 : decode cJx4a65c_remove_915e3 5 = .ok (.invokestatic 118, 3) := by decide +kernel
theorem dJx4a65c_remove_915e3_8 : decode cJx4a65c_remove_915e3 8 = .ok (.pop, 1) := by decide +kernel
theorem dJx4a65c_remove_915e3_9 : decode cJx4a65c_remove_915e3 9 = .ok (.aload_n 0, 1) := by decide +kernel
theorem dJx4a65c_remove_915e3_10 : decode cJx4a65c_remove_915e3 10 = .ok (.getfield 9, 3) := by decide +kernel
theorem dJx4a65c_remove_915e3_13 : decode cJx4a65c_remove_915e3 13 = .ok (.astore_n 2, 1) := by decide +kernel
theorem dJx4a65c_remove_915e3_14 : decode cJx4a65c_remove_915e3 14 = .ok (.aload_n 2, 1) := by decide +kernel
theorem dJx4a65c_remove_915e3_15 : decode cJx4a65c_remove_915e3 15 = .ok (.iload_n 1, 1) := by decide +kernel
theorem dJx4a65c_remove_915e3_16 : decode cJx4a65c_remove_915e3 16 = .ok (.aaload, 1) := by decide +kernel
theorem dJx4a65c_remove_915e3_17 : decode cJx4a65c_remove_915e3 17 = .ok (.astore_n 3, 1) := by decide +kernel
theorem dJx4a65c_remove_915e3_18 : decode cJx4a65c_remove_915e3 18 = .ok (.aload_n 0, 1) := by decide +kernel
theorem dJx4a65c_remove_915e3_19 : decode cJx4a65c_remove_915e3 19 = .ok (.aload_n 2, 1) := by decide +kernel
theorem dJx4a65c_remove_915e3_20 : decode cJx4a65c_remove_915e3 20 = .ok (.iload_n 1, 1) := by decide +kernel
theorem dJx4a65c_remove_915e3_21 : decode cJx4a65c_remove_915e3 21 = .ok (.invokevirtual 144, 3) := by decide +kernel
theorem dJx4a65c_remove_915e3_24 : decode cJx4a65c_remove_915e3 24 = .ok (.aload_n 3, 1) := by decide +kernel
theorem dJx4a65c_remove_915e3_25 : decode cJx4a65c_remove_915e3 25 = .ok (.areturn, 1) := by decide +kernel
theorem dJx4a65c_fastRemove_b59b0_0 : decode cJx4a65c_fastRemove_b59b0 0 = .ok (.aload_n 0, 1) := by decide +kernel
theorem dJx4a65c_fastRemove_b59b0_1 : decode cJx4a65c_fastRemove_b59b0 1 = .ok (.dup, 1) := by decide +kernel
theorem dJx4a65c_fastRemove_b59b0_2 : decode cJx4a65c_fastRemove_b59b0 2 = .ok (.getfield 63, 3) := by decide +kernel
theorem dJx4a65c_fastRemove_b59b0_5 : decode cJx4a65c_fastRemove_b59b0 5 = .ok (.iconst 1, 1) := by decide +kernel
theorem dJx4a65c_fastRemove_b59b0_6 : decode cJx4a65c_fastRemove_b59b0 6 = .ok (.iadd, 1) := by decide +kernel
theorem dJx4a65c_fastRemove_b59b0_7 : decode cJx4a65c_fastRemove_b59b0 7 = .ok (.putfield 63, 3) := by decide +kernel
theorem dJx4a65c_fastRemove_b59b0_10 : decode cJx4a65c_fastRemove_b59b0 10 = .ok (.aload_n 0, 1) := by decide +kernel
theorem dJx4a65c_fastRemove_b59b0_11 : decode cJx4a65c_fastRemove_b59b0 11 = .ok (.getfield 48, 3) := by decide +kernel
theorem dJx4a65c_fastRemove_b59b0_14 : decode cJx4a65c_fastRemove_b59b0 14 = .ok (.iconst 1, 1) := by decide +kernel
theorem dJx4a65c_fastRemove_b59b0_15 : decode cJx4a65c_fastRemove_b59b0 15 = .ok (.isub, 1) := by decide +kernel
theorem dJx4a65c_fastRemove_b59b0_16 : decode cJx4a65c_fastRemove_b59b0 16 = .ok (.dup, 1) := by decide +kernel
theorem dJx4a65c_fastRemove_b59b0_17 : decode cJx4a65c_fastRemove_b59b0 17 = .ok (.istore_n 3, 1) := by decide +kernel
theorem dJx4a65c_fastRemove_b59b0_18 : decode cJx4a65c_fastRemove_b59b0 18 = .ok (.iload_n 2, 1) := by decide +kernel
theorem dJx4a65c_fastRemove_b59b0_19 : decode cJx4a65c_fastRemove_b59b0 19 = .ok (.if_icmp .le 15, 3) := by decide +kernel
theorem dJx4a65c_fastRemove_b59b0_22 : decode cJx4a65c_fastRemove_b59b0 22 = .ok (.aload_n 1, 1) := by decide +kernel
theorem dJx4a65c_fastRemove_b59b0_23 : decode cJx4a65c_fastRemove_b59b0 23 = .ok (.iload_n 2, 1) := by decide +kernel
theorem dJx4a65c_fastRemove_b59b0_24 : decode cJx4a65c_fastRemove_b59b0 24 = .ok (.iconst 1, 1) := by decide +kernel
theorem dJx4a65c_fastRemove_b59b0_25 : decode cJx4a65c_fastRemove_b59b0 25 = .ok (.iadd, 1) := by decide +kernel
theorem dJx4a65c_fastRemove_b59b0_26 : decode cJx4a65c_fastRemove_b59b0 26 = .ok (.aload_n 1, 1) := by decide +kernel
theorem dJx4a65c_fastRemove_b59b0_27 : decode cJx4a65c_fastRemove_b59b0 27 = .ok (.iload_n 2, 1) := by decide +kernel
theorem dJx4a65c_fastRemove_b59b0_28 : decode cJx4a65c_fastRemove_b59b0 28 = .ok (.iload_n 3, 1) := by decide +kernel
theorem dJx4a65c_fastRemove_b59b0_29 : decode cJx4a65c_fastRemove_b59b0 29 = .ok (.iload_n 2, 1) := by decide +kernel
theorem dJx4a65c_fastRemove_b59b0_30 : decode cJx4a65c_fastRemove_b59b0 30 = .ok (.isub, 1) := by decide +kernel
theorem dJx4a65c_fastRemove_b59b0_31 : decode cJx4a65c_fastRemove_b59b0 31 = .ok (.invokestatic 112, 3) := by decide +kernel
theorem dJx4a65c_fastRemove_b59b0_34 : decode cJx4a65c_fastRemove_b59b0 34 = .ok (.aload_n 1, 1) := by decide +kernel
theorem dJx4a65c_fastRemove_b59b0_35 : decode cJx4a65c_fastRemove_b59b0 35 = .ok (.aload_n 0, 1) := by decide +kernel
theorem dJx4a65c_fastRemove_b59b0_36 : decode cJx4a65c_fastRemove_b59b0 36 = .ok (.iload_n 3, 1) := by decide +kernel
theorem dJx4a65c_fastRemove_b59b0_37 : decode cJx4a65c_fastRemove_b59b0 37 = .ok (.dup_x1, 1) := by decide +kernel
theorem dJx4a65c_fastRemove_b59b0_38 : decode cJx4a65c_fastRemove_b59b0 38 = .ok (.putfield 48, 3) := by decide +kernel
theorem dJx4a65c_fastRemove_b59b0_41 : decode cJx4a65c_fastRemove_b59b0 41 = .ok (.aconst_null, 1) := by decide +kernel
theorem dJx4a65c_fastRemove_b59b0_42 : decode cJx4a65c_fastRemove_b59b0 42 = .ok (.aastore, 1) := by decide +kernel
theorem dJx4a65c_fastRemove_b59b0_43 : decode cJx4a65c_fastRemove_b59b0 43 = .ok (.return_, 1) := by decide +kernel
theorem dJx4a65c_iterator_32c93_0 : decode cJx4a65c_iterator_32c93 0 = .ok (.new 267, 3) := by decide +kernel
theorem dJx4a65c_iterator_32c93_3 : decode cJx4a65c_iterator_32c93 3 = .ok (.dup, 1) := by decide +kernel
theorem dJx4a65c_iterator_32c93_4 : decode cJx4a65c_iterator_32c93 4 = .ok (.aload_n 0, 1) := by decide +kernel
theorem dJx4a65c_iterator_32c93_5 : decode cJx4a65c_iterator_32c93 5 = .ok (.invokespecial 269, 3) := by decide +kernel
theorem dJx4a65c_iterator_32c93_8 : decode cJx4a65c_iterator_32c93 8 = .ok (.areturn, 1) := by decide +kernel
theorem dJ7_copyOf_1904c_0 : decode cJ7_copyOf_1904c 0 = .ok (.aload_n 0, 1) := by decide +kernel
theorem dJ7_copyOf_1904c_1 : decode cJ7_copyOf_1904c 1 = .ok (.iload_n 1, 1) := by decide +kernel
theorem dJ7_copyOf_1904c_2 : decode cJ7_copyOf_1904c 2 = .ok (.aload_n 0, 1) := by decide +kernel
theorem dJ7_copyOf_1904c_3 : decode cJ7_copyOf_1904c 3 = .ok (.invokevirtual 86, 3) := by decide +kernel
theorem dJ7_copyOf_1904c_6 : decode cJ7_copyOf_1904c 6 = .ok (.invokestatic 300, 3) := by decide +kernel
theorem dJ7_copyOf_1904c_9 : decode cJ7_copyOf_1904c 9 = .ok (.areturn, 1) := by decide +kernel
theorem dJ7_copyOf_6403c_0 : decode cJ7_copyOf_6403c 0 = .ok (.aload_n 2, 1) := by decide +kernel
theorem dJ7_copyOf_6403c_1 : decode cJ7_copyOf_6403c 1 = .ok (.ldc 110, 2) := by decide +kernel
theorem dJ7_copyOf_6403c_3 : decode cJ7_copyOf_6403c 3 = .ok (.if_acmp .ne 10, 3) := by decide +kernel
theorem dJ7_copyOf_6403c_6 : decode cJ7_copyOf_6403c 6 = .ok (.iload_n 1, 1) := by decide +kernel
theorem dJ7_copyOf_6403c_7 : decode cJ7_copyOf_6403c 7 = .ok (.anewarray 2, 3) := by decide +kernel
theorem dJ7_copyOf_6403c_10 : decode cJ7_copyOf_6403c 10 = .ok (.goto 14, 3) := by decide +kernel
theorem dJ7_copyOf_6403c_13 : decode cJ7_copyOf_6403c 13 = .ok (.aload_n 2, 1) := by decide +kernel
theorem dJ7_copyOf_6403c_14 : decode cJ7_copyOf_6403c 14 = .ok (.invokevirtual 90, 3) := by decide +kernel
theorem dJ7_copyOf_6403c_17 : decode cJ7_copyOf_6403c 17 = .ok (.iload_n 1, 1) := by decide +kernel
theorem dJ7_copyOf_6403c_18 : decode cJ7_copyOf_6403c 18 = .ok (.invokestatic 95, 3) := by decide +kernel
theorem dJ7_copyOf_6403c_21 : decode cJ7_copyOf_6403c 21 = .ok (.checkcast 110, 3) := by decide +kernel
theorem dJ7_copyOf_6403c_24 : decode cJ7_copyOf_6403c 24 = .ok (.astore_n 3, 1) := by decide +kernel
theorem dJ7_copyOf_6403c_25 : decode cJ7_copyOf_6403c 25 = .ok (.aload_n 0, 1) := by decide +kernel
theorem dJ7_copyOf_6403c_26 : decode cJ7_copyOf_6403c 26 = .ok (.iconst 0, 1) := by decide +kernel
theorem dJ7_copyOf_6403c_27 : decode cJ7_copyOf_6403c 27 = .ok (.aload_n 3, 1) := by decide +kernel
theorem dJ7_copyOf_6403c_28 : decode cJ7_copyOf_6403c 28 = .ok (.iconst 0, 1) := by decide +kernel
theorem dJ7_copyOf_6403c_29 : decode cJ7_copyOf_6403c 29 = .ok (.aload_n 0, 1) := by decide +kernel
theorem dJ7_copyOf_6403c_30 : decode cJ7_copyOf_6403c 30 = .ok (.arraylength, 1) := by decide +kernel
theorem dJ7_copyOf_6403c_31 : decode cJ7_copyOf_6403c 31 = .ok (.iload_n 1, 1) := by decide +kernel
theorem dJ7_copyOf_6403c_32 : decode cJ7_copyOf_6403c 32 = .ok (.invokestatic 304, 3) := by decide +kernel
theorem dJ7_copyOf_6403c_35 : decode cJ7_copyOf_6403c 35 = .ok (.invokestatic 150, 3) := by decide +kernel
theorem dJ7_copyOf_6403c_38 : decode cJ7_copyOf_6403c 38 = .ok (.aload_n 3, 1) := by decide +kernel
theorem dJ7_copyOf_6403c_39 : decode cJ7_copyOf_6403c 39 = .ok (.areturn, 1) := by decide +kernel
theorem dJ15_checkIndex_7cf53_0 : decode cJ15_checkIndex_7cf53 0 = .ok (.iload_n 0, 1) := by decide +kernel
theorem dJ15_checkIndex_7cf53_1 : decode cJ15_checkIndex_7cf53 1 = .ok (.iload_n 1, 1) := by decide +kernel
theorem dJ15_checkIndex_7cf53_2 : decode cJ15_checkIndex_7cf53 2 = .ok (.aconst_null, 1) := by decide +kernel
theorem dJ15_checkIndex_7cf53_3 : decode cJ15_checkIndex_7cf53 3 = .ok (.invokestatic 105, 3) := by decide +kernel
theorem dJ15_checkIndex_7cf53_6 : decode cJ15_checkIndex_7cf53 6 = .ok (.ireturn, 1) := by decide +kernel
theorem dJ8_newLength_cabcc_0 : decode cJ8_newLength_cabcc 0 = .ok (.iload_n 0, 1) := by decide +kernel
theorem dJ8_newLength_cabcc_1 : decode cJ8_newLength_cabcc 1 = .ok (.iload_n 1, 1) := by decide +kernel
theorem dJ8_newLength_cabcc_2 : decode cJ8_newLength_cabcc 2 = .ok (.iload_n 2, 1) := by decide +kernel
theorem dJ8_newLength_cabcc_3 : decode cJ8_newLength_cabcc 3 = .ok (.invokestatic 194, 3) := by decide +kernel
theorem dJ8_newLength_cabcc_6 : decode cJ8_newLength_cabcc 6 = .ok (.iadd, 1) := by decide +kernel
theorem dJ8_newLength_cabcc_7 : decode cJ8_newLength_cabcc 7 = .ok (.istore_n 3, 1) := by decide +kernel
theorem dJ8_newLength_cabcc_8 : decode cJ8_newLength_cabcc 8 = .ok (.iconst 0, 1) := by decide +kernel
theorem dJ8_newLength_cabcc_9 : decode cJ8_newLength_cabcc 9 = .ok (.iload_n 3, 1) := by decide +kernel
theorem dJ8_newLength_cabcc_10 : decode cJ8_newLength_cabcc 10 = .ok (.if_icmp .ge 11, 3) := by decide +kernel
theorem dJ8_newLength_cabcc_13 : decode cJ8_newLength_cabcc 13 = .ok (.iload_n 3, 1) := by decide +kernel
theorem dJ8_newLength_cabcc_14 : decode cJ8_newLength_cabcc 14 = .ok (.ldc 200, 2) := by decide +kernel
theorem dJ8_newLength_cabcc_16 : decode cJ8_newLength_cabcc 16 = .ok (.if_icmp .gt 5, 3) := by decide +kernel
theorem dJ8_newLength_cabcc_19 : decode cJ8_newLength_cabcc 19 = .ok (.iload_n 3, 1) := by decide +kernel
theorem dJ8_newLength_cabcc_20 : decode cJ8_newLength_cabcc 20 = .ok (.ireturn, 1) := by decide +kernel
theorem dJ8_newLength_cabcc_21 : decode cJ8_newLength_cabcc 21 = .ok (.iload_n 0, 1) := by decide +kernel
theorem dJ8_newLength_cabcc_22 : decode cJ8_newLength_cabcc 22 = .ok (.iload_n 1, 1) := by decide +kernel
theorem dJ8_newLength_cabcc_23 : decode cJ8_newLength_cabcc 23 = .ok (.invokestatic 201, 3) := by decide +kernel
theorem dJ8_newLength_cabcc_26 : decode cJ8_newLength_cabcc 26 = .ok (.ireturn, 1) := by decide +kernel
theorem dJ8_hugeLength_7cf53_0 : decode cJ8_hugeLength_7cf53 0 = .ok (.iload_n 0, 1) := by decide +kernel
theorem dJ8_hugeLength_7cf53_1 : decode cJ8_hugeLength_7cf53 1 = .ok (.iload_n 1, 1) := by decide +kernel
theorem dJ8_hugeLength_7cf53_2 : decode cJ8_hugeLength_7cf53 2 = .ok (.iadd, 1) := by decide +kernel
theorem dJ8_hugeLength_7cf53_3 : decode cJ8_hugeLength_7cf53 3 = .ok (.istore_n 2, 1) := by decide +kernel
theorem dJ8_hugeLength_7cf53_4 : decode cJ8_hugeLength_7cf53 4 = .ok (.iload_n 2, 1) := by decide +kernel
theorem dJ8_hugeLength_7cf53_5 : decode cJ8_hugeLength_7cf53 5 = .ok (.ifCond .ge 44, 3) := by decide +kernel
theorem dJ8_hugeLength_7cf53_8 : decode cJ8_hugeLength_7cf53 8 = .ok (.new 204, 3) := by decide +kernel
theorem dJ8_hugeLength_7cf53_11 : decode cJ8_hugeLength_7cf53 11 = .ok (.dup, 1) := by decide +kernel
theorem dJ8_hugeLength_7cf53_12 : decode cJ8_hugeLength_7cf53 12 = .ok (.new 89, 3) := by decide +kernel
theorem dJ8_hugeLength_7cf53_15 : decode cJ8_hugeLength_7cf53 15 = .ok (.dup, 1) := by decide +kernel
theorem dJ8_hugeLength_7cf53_16 : decode cJ8_hugeLength_7cf53 16 = .ok (.invokespecial 91, 3) := by decide +kernel
theorem dJ8_hugeLength_7cf53_19 : decode cJ8_hugeLength_7cf53 19 = .ok (.ldc 206, 2) := by decide +kernel
theorem dJ8_hugeLength_7cf53_21 : decode cJ8_hugeLength_7cf53 21 = .ok (.invokevirtual 94, 3) := by decide +kernel
theorem dJ8_hugeLength_7cf53_24 : decode cJ8_hugeLength_7cf53 24 = .ok (.iload_n 0, 1) := by decide +kernel
theorem dJ8_hugeLength_7cf53_25 : decode cJ8_hugeLength_7cf53 25 = .ok (.invokevirtual 98, 3) := by decide +kernel
theorem dJ8_hugeLength_7cf53_28 : decode cJ8_hugeLength_7cf53 28 = .ok (.ldc 208, 2) := by decide +kernel
theorem dJ8_hugeLength_7cf53_30 : decode cJ8_hugeLength_7cf53 30 = .ok (.invokevirtual 94, 3) := by decide +kernel
theorem dJ8_hugeLength_7cf53_33 : decode cJ8_hugeLength_7cf53 33 = .ok (.iload_n 1, 1) := by decide +kernel
theorem dJ8_hugeLength_7cf53_34 : decode cJ8_hugeLength_7cf53 34 = .ok (.invokevirtual 98, 3) := by decide +kernel
theorem dJ8_hugeLength_7cf53_37 : decode cJ8_hugeLength_7cf53 37 = .ok (.ldc 210, 2) := by decide +kernel
theorem dJ8_hugeLength_7cf53_39 : decode cJ8_hugeLength_7cf53 39 = .ok (.invokevirtual 94, 3) := by decide +kernel
theorem dJ8_hugeLength_7cf53_42 : decode cJ8_hugeLength_7cf53 42 = .ok (.invokevirtual 101, 3) := by decide +kernel
theorem dJ8_hugeLength_7cf53_45 : decode cJ8_hugeLength_7cf53 45 = .ok (.invokespecial 212, 3) := by decide +kernel
theorem dJ8_hugeLength_7cf53_48 : decode cJ8_hugeLength_7cf53 48 = .ok (.athrow, 1) := by decide +kernel
theorem dJ8_hugeLength_7cf53_49 : decode cJ8_hugeLength_7cf53 49 = .ok (.iload_n 2, 1) := by decide +kernel
theorem dJ8_hugeLength_7cf53_50 : decode cJ8_hugeLength_7cf53 50 = .ok (.ldc 200, 2) := by decide +kernel
theorem dJ8_hugeLength_7cf53_52 : decode cJ8_hugeLength_7cf53 52 = .ok (.if_icmp .gt 6, 3) := by decide +kernel
theorem dJ8_hugeLength_7cf53_55 : decode cJ8_hugeLength_7cf53 55 = .ok (.ldc 200, 2) := by decide +kernel
theorem dJ8_hugeLength_7cf53_57 : decode cJ8_hugeLength_7cf53 57 = .ok (.ireturn, 1) := by decide +kernel
theorem dJ8_hugeLength_7cf53_58 : decode cJ8_hugeLength_7cf53 58 = .ok (.iload_n 2, 1) := by decide +kernel
theorem dJ8_hugeLength_7cf53_59 : decode cJ8_hugeLength_7cf53 59 = .ok (.ireturn, 1) := by decide +kernel
theorem dJ3_checkIndex_8e157_0 : decode cJ3_checkIndex_8e157 0 = .ok (.iload_n 0, 1) := by decide +kernel
theorem dJ3_checkIndex_8e157_1 : decode cJ3_checkIndex_8e157 1 = .ok (.ifCond .lt 8, 3) := by decide +kernel
theorem dJ3_checkIndex_8e157_4 : decode cJ3_checkIndex_8e157 4 = .ok (.iload_n 0, 1) := by decide +kernel
theorem dJ3_checkIndex_8e157_5 : decode cJ3_checkIndex_8e157 5 = .ok (.iload_n 1, 1) := by decide +kernel
theorem dJ3_checkIndex_8e157_6 : decode cJ3_checkIndex_8e157 6 = .ok (.if_icmp .lt 10, 3) := by decide +kernel
theorem dJ3_checkIndex_8e157_9 : decode cJ3_checkIndex_8e157 9 = .ok (.aload_n 2, 1) := by decide +kernel
theorem dJ3_checkIndex_8e157_10 : decode cJ3_checkIndex_8e157 10 = .ok (.iload_n 0, 1) := by decide +kernel
theorem dJ3_checkIndex_8e157_11 : decode cJ3_checkIndex_8e157 11 = .ok (.iload_n 1, 1) := by decide +kernel
theorem dJ3_checkIndex_8e157_12 : decode cJ3_checkIndex_8e157 12 = .ok (.invokestatic 95, 3) := by decide +kernel
theorem dJ3_checkIndex_8e157_15 : decode cJ3_checkIndex_8e157 15 = .ok (.athrow, 1) := by decide +kernel
theorem dJ3_checkIndex_8e157_16 : decode cJ3_checkIndex_8e157 16 = .ok (.iload_n 0, 1) := by decide +kernel
theorem dJ3_checkIndex_8e157_17 : decode cJ3_checkIndex_8e157 17 = .ok (.ireturn, 1) := by decide +kernel
theorem dL_addPoint_0 : decode cL_addPoint 0 = .ok (.aload_n 3, 1) := by decide +kernel
theorem dL_addPoint_1 : decode cL_addPoint 1 = .ok (.iconst 0, 1) := by decide +kernel
theorem dL_addPoint_2 : decode cL_addPoint 2 = .ok (.aload_n 0, 1) := by decide +kernel
theorem dL_addPoint_3 : decode cL_addPoint 3 = .ok (.iload_n 1, 1) := by decide +kernel
theorem dL_addPoint_4 : decode cL_addPoint 4 = .ok (.iload_n 2, 1) := by decide +kernel
theorem dL_addPoint_5 : decode cL_addPoint 5 = .ok (.invokevirtual 7, 3) := by decide +kernel
theorem dL_addPoint_8 : decode cL_addPoint 8 = .ok (.i2l, 1) := by decide +kernel
theorem dL_addPoint_9 : decode cL_addPoint 9 = .ok (.lastore, 1) := by decide +kernel
theorem dL_addPoint_10 : decode cL_addPoint 10 = .ok (.goto 15, 3) := by decide +kernel
theorem dL_addPoint_13 : decode cL_addPoint 13 = .ok (.astore 4, 2) := by decide +kernel
theorem dL_addPoint_15 : decode cL_addPoint 15 = .ok (.iconst 1, 1) := by decide +kernel
theorem dL_addPoint_16 : decode cL_addPoint 16 = .ok (.ireturn, 1) := by decide +kernel
theorem dL_addPoint_17 : decode cL_addPoint 17 = .ok (.astore 4, 2) := by decide +kernel
theorem dL_addPoint_19 : decode cL_addPoint 19 = .ok (.iconst 2, 1) := by decide +kernel
theorem dL_addPoint_20 : decode cL_addPoint 20 = .ok (.ireturn, 1) := by decide +kernel
theorem dL_addPoint_21 : decode cL_addPoint 21 = .ok (.astore 4, 2) := by decide +kernel
theorem dL_addPoint_23 : decode cL_addPoint 23 = .ok (.iconst 3, 1) := by decide +kernel
theorem dL_addPoint_24 : decode cL_addPoint 24 = .ok (.ireturn, 1) := by decide +kernel
theorem dL_addPoint_25 : decode cL_addPoint 25 = .ok (.iconst 0, 1) := by decide +kernel
theorem dL_addPoint_26 : decode cL_addPoint 26 = .ok (.ireturn, 1) := by decide +kernel
theorem dL_remove_0 : decode cL_remove 0 = .ok (.aload_n 2, 1) := by decide +kernel
theorem dL_remove_1 : decode cL_remove 1 = .ok (.iconst 0, 1) := by decide +kernel
theorem dL_remove_2 : decode cL_remove 2 = .ok (.aload_n 0, 1) := by decide +kernel
theorem dL_remove_3 : decode cL_remove 3 = .ok (.iload_n 1, 1) := by decide +kernel
theorem dL_remove_4 : decode cL_remove 4 = .ok (.invokevirtual 19, 3) := by decide +kernel
theorem dL_remove_7 : decode cL_remove 7 = .ok (.i2l, 1) := by decide +kernel
theorem dL_remove_8 : decode cL_remove 8 = .ok (.lastore, 1) := by decide +kernel
theorem dL_remove_9 : decode cL_remove 9 = .ok (.goto 6, 3) := by decide +kernel
theorem dL_remove_12 : decode cL_remove 12 = .ok (.astore_n 3, 1) := by decide +kernel
theorem dL_remove_13 : decode cL_remove 13 = .ok (.iconst 1, 1) := by decide +kernel
theorem dL_remove_14 : decode cL_remove 14 = .ok (.ireturn, 1) := by decide +kernel
theorem dL_remove_15 : decode cL_remove 15 = .ok (.iconst 0, 1) := by decide +kernel
theorem dL_remove_16 : decode cL_remove 16 = .ok (.ireturn, 1) := by decide +kernel
theorem dL_move_0 : decode cL_move 0 = .ok (.aload 4, 2) := by decide +kernel
theorem dL_move_2 : decode cL_move 2 = .ok (.iconst 0, 1) := by decide +kernel
theorem dL_move_3 : decode cL_move 3 = .ok (.aload_n 0, 1) := by decide +kernel
theorem dL_move_4 : decode cL_move 4 = .ok (.iload_n 1, 1) := by decide +kernel
theorem dL_move_5 : decode cL_move 5 = .ok (.iload_n 2, 1) := by decide +kernel
theorem dL_move_6 : decode cL_move 6 = .ok (.iload_n 3, 1) := by decide +kernel
theorem dL_move_7 : decode cL_move 7 = .ok (.invokevirtual 25, 3) := by decide +kernel
theorem dL_move_10 : decode cL_move 10 = .ok (.i2l, 1) := by decide +kernel
theorem dL_move_11 : decode cL_move 11 = .ok (.lastore, 1) := by decide +kernel
theorem dL_move_12 : decode cL_move 12 = .ok (.goto 15, 3) := by decide +kernel
theorem dL_move_15 : decode cL_move 15 = .ok (.astore 5, 2) := by decide +kernel
theorem dL_move_17 : decode cL_move 17 = .ok (.iconst 1, 1) := by decide +kernel
theorem dL_move_18 : decode cL_move 18 = .ok (.ireturn, 1) := by decide +kernel
theorem dL_move_19 : decode cL_move 19 = .ok (.astore 5, 2) := by decide +kernel
theorem dL_move_21 : decode cL_move 21 = .ok (.iconst 2, 1) := by decide +kernel
theorem dL_move_22 : decode cL_move 22 = .ok (.ireturn, 1) := by decide +kernel
theorem dL_move_23 : decode cL_move 23 = .ok (.astore 5, 2) := by decide +kernel
theorem dL_move_25 : decode cL_move 25 = .ok (.iconst 3, 1) := by decide +kernel
theorem dL_move_26 : decode cL_move 26 = .ok (.ireturn, 1) := by decide +kernel
theorem dL_move_27 : decode cL_move 27 = .ok (.iconst 0, 1) := by decide +kernel
theorem dL_move_28 : decode cL_move 28 = .ok (.ireturn, 1) := by decide +kernel
theorem dL_setWeight_0 : decode cL_setWeight 0 = .ok (.aload_n 3, 1) := by decide +kernel
theorem dL_setWeight_1 : decode cL_setWeight 1 = .ok (.iconst 0, 1) := by decide +kernel
theorem dL_setWeight_2 : decode cL_setWeight 2 = .ok (.aload_n 0, 1) := by decide +kernel
theorem dL_setWeight_3 : decode cL_setWeight 3 = .ok (.iload_n 1, 1) := by decide +kernel
theorem dL_setWeight_4 : decode cL_setWeight 4 = .ok (.iload_n 2, 1) := by decide +kernel
theorem dL_setWeight_5 : decode cL_setWeight 5 = .ok (.invokevirtual 29, 3) := by decide +kernel
theorem dL_setWeight_8 : decode cL_setWeight 8 = .ok (.i2l, 1) := by decide +kernel
theorem dL_setWeight_9 : decode cL_setWeight 9 = .ok (.lastore, 1) := by decide +kernel
theorem dL_setWeight_10 : decode cL_setWeight 10 = .ok (.goto 11, 3) := by decide +kernel
theorem dL_setWeight_13 : decode cL_setWeight 13 = .ok (.astore 4, 2) := by decide +kernel
theorem dL_setWeight_15 : decode cL_setWeight 15 = .ok (.iconst 1, 1) := by decide +kernel
theorem dL_setWeight_16 : decode cL_setWeight 16 = .ok (.ireturn, 1) := by decide +kernel
theorem dL_setWeight_17 : decode cL_setWeight 17 = .ok (.astore 4, 2) := by decide +kernel
theorem dL_setWeight_19 : decode cL_setWeight 19 = .ok (.iconst 2, 1) := by decide +kernel
theorem dL_setWeight_20 : decode cL_setWeight 20 = .ok (.ireturn, 1) := by decide +kernel
theorem dL_setWeight_21 : decode cL_setWeight 21 = .ok (.iconst 0, 1) := by decide +kernel
theorem dL_setWeight_22 : decode cL_setWeight 22 = .ok (.ireturn, 1) := by decide +kernel
theorem dL_pointAt_0 : decode cL_pointAt 0 = .ok (.aload_n 3, 1) := by decide +kernel
theorem dL_pointAt_1 : decode cL_pointAt 1 = .ok (.iconst 0, 1) := by decide +kernel
theorem dL_pointAt_2 : decode cL_pointAt 2 = .ok (.aload_n 0, 1) := by decide +kernel
theorem dL_pointAt_3 : decode cL_pointAt 3 = .ok (.iload_n 1, 1) := by decide +kernel
theorem dL_pointAt_4 : decode cL_pointAt 4 = .ok (.iload_n 2, 1) := by decide +kernel
theorem dL_pointAt_5 : decode cL_pointAt 5 = .ok (.invokevirtual 32, 3) := by decide +kernel
theorem dL_pointAt_8 : decode cL_pointAt 8 = .ok (.i2l, 1) := by decide +kernel
theorem dL_pointAt_9 : decode cL_pointAt 9 = .ok (.lastore, 1) := by decide +kernel
theorem dL_pointAt_10 : decode cL_pointAt 10 = .ok (.goto 7, 3) := by decide +kernel
theorem dL_pointAt_13 : decode cL_pointAt 13 = .ok (.astore 4, 2) := by decide +kernel
theorem dL_pointAt_15 : decode cL_pointAt 15 = .ok (.iconst 1, 1) := by decide +kernel
theorem dL_pointAt_16 : decode cL_pointAt 16 = .ok (.ireturn, 1) := by decide +kernel
theorem dL_pointAt_17 : decode cL_pointAt 17 = .ok (.iconst 0, 1) := by decide +kernel
theorem dL_pointAt_18 : decode cL_pointAt 18 = .ok (.ireturn, 1) := by decide +kernel
theorem dL_undo_0 : decode cL_undo 0 = .ok (.aload_n 1, 1) := by decide +kernel
theorem dL_undo_1 : decode cL_undo 1 = .ok (.iconst 0, 1) := by decide +kernel
theorem dL_undo_2 : decode cL_undo 2 = .ok (.aload_n 0, 1) := by decide +kernel
theorem dL_undo_3 : decode cL_undo 3 = .ok (.invokevirtual 37, 3) := by decide +kernel
theorem dL_undo_6 : decode cL_undo 6 = .ok (.i2l, 1) := by decide +kernel
theorem dL_undo_7 : decode cL_undo 7 = .ok (.lastore, 1) := by decide +kernel
theorem dL_undo_8 : decode cL_undo 8 = .ok (.goto 6, 3) := by decide +kernel
theorem dL_undo_11 : decode cL_undo 11 = .ok (.astore_n 2, 1) := by decide +kernel
theorem dL_undo_12 : decode cL_undo 12 = .ok (.iconst 1, 1) := by decide +kernel
theorem dL_undo_13 : decode cL_undo 13 = .ok (.ireturn, 1) := by decide +kernel
theorem dL_undo_14 : decode cL_undo 14 = .ok (.iconst 0, 1) := by decide +kernel
theorem dL_undo_15 : decode cL_undo 15 = .ok (.ireturn, 1) := by decide +kernel
theorem dL_nearest_0 : decode cL_nearest 0 = .ok (.aload 4, 2) := by decide +kernel
theorem dL_nearest_2 : decode cL_nearest 2 = .ok (.iconst 0, 1) := by decide +kernel
theorem dL_nearest_3 : decode cL_nearest 3 = .ok (.aload_n 0, 1) := by decide +kernel
theorem dL_nearest_4 : decode cL_nearest 4 = .ok (.iload_n 1, 1) := by decide +kernel
theorem dL_nearest_5 : decode cL_nearest 5 = .ok (.iload_n 2, 1) := by decide +kernel
theorem dL_nearest_6 : decode cL_nearest 6 = .ok (.iload_n 3, 1) := by decide +kernel
theorem dL_nearest_7 : decode cL_nearest 7 = .ok (.invokevirtual 41, 3) := by decide +kernel
theorem dL_nearest_10 : decode cL_nearest 10 = .ok (.i2l, 1) := by decide +kernel
theorem dL_nearest_11 : decode cL_nearest 11 = .ok (.lastore, 1) := by decide +kernel
theorem dL_nearest_12 : decode cL_nearest 12 = .ok (.goto 11, 3) := by decide +kernel
theorem dL_nearest_15 : decode cL_nearest 15 = .ok (.astore 5, 2) := by decide +kernel
theorem dL_nearest_17 : decode cL_nearest 17 = .ok (.iconst 1, 1) := by decide +kernel
theorem dL_nearest_18 : decode cL_nearest 18 = .ok (.ireturn, 1) := by decide +kernel
theorem dL_nearest_19 : decode cL_nearest 19 = .ok (.astore 5, 2) := by decide +kernel
theorem dL_nearest_21 : decode cL_nearest 21 = .ok (.iconst 2, 1) := by decide +kernel
theorem dL_nearest_22 : decode cL_nearest 22 = .ok (.ireturn, 1) := by decide +kernel
theorem dL_nearest_23 : decode cL_nearest 23 = .ok (.iconst 0, 1) := by decide +kernel
theorem dL_nearest_24 : decode cL_nearest 24 = .ok (.ireturn, 1) := by decide +kernel
theorem dL_nearness_0 : decode cL_nearness 0 = .ok (.aload 4, 2) := by decide +kernel
theorem dL_nearness_2 : decode cL_nearness 2 = .ok (.iconst 0, 1) := by decide +kernel
theorem dL_nearness_3 : decode cL_nearness 3 = .ok (.aload_n 0, 1) := by decide +kernel
theorem dL_nearness_4 : decode cL_nearness 4 = .ok (.iload_n 1, 1) := by decide +kernel
theorem dL_nearness_5 : decode cL_nearness 5 = .ok (.iload_n 2, 1) := by decide +kernel
theorem dL_nearness_6 : decode cL_nearness 6 = .ok (.iload_n 3, 1) := by decide +kernel
theorem dL_nearness_7 : decode cL_nearness 7 = .ok (.invokevirtual 45, 3) := by decide +kernel
theorem dL_nearness_10 : decode cL_nearness 10 = .ok (.i2l, 1) := by decide +kernel
theorem dL_nearness_11 : decode cL_nearness 11 = .ok (.lastore, 1) := by decide +kernel
theorem dL_nearness_12 : decode cL_nearness 12 = .ok (.goto 11, 3) := by decide +kernel
theorem dL_nearness_15 : decode cL_nearness 15 = .ok (.astore 5, 2) := by decide +kernel
theorem dL_nearness_17 : decode cL_nearness 17 = .ok (.iconst 1, 1) := by decide +kernel
theorem dL_nearness_18 : decode cL_nearness 18 = .ok (.ireturn, 1) := by decide +kernel
theorem dL_nearness_19 : decode cL_nearness 19 = .ok (.astore 5, 2) := by decide +kernel
theorem dL_nearness_21 : decode cL_nearness 21 = .ok (.iconst 2, 1) := by decide +kernel
theorem dL_nearness_22 : decode cL_nearness 22 = .ok (.ireturn, 1) := by decide +kernel
theorem dL_nearness_23 : decode cL_nearness 23 = .ok (.iconst 0, 1) := by decide +kernel
theorem dL_nearness_24 : decode cL_nearness 24 = .ok (.ireturn, 1) := by decide +kernel
theorem dL_farthest_0 : decode cL_farthest 0 = .ok (.aload 4, 2) := by decide +kernel
theorem dL_farthest_2 : decode cL_farthest 2 = .ok (.iconst 0, 1) := by decide +kernel
theorem dL_farthest_3 : decode cL_farthest 3 = .ok (.aload_n 0, 1) := by decide +kernel
theorem dL_farthest_4 : decode cL_farthest 4 = .ok (.iload_n 1, 1) := by decide +kernel
theorem dL_farthest_5 : decode cL_farthest 5 = .ok (.iload_n 2, 1) := by decide +kernel
theorem dL_farthest_6 : decode cL_farthest 6 = .ok (.iload_n 3, 1) := by decide +kernel
theorem dL_farthest_7 : decode cL_farthest 7 = .ok (.invokevirtual 48, 3) := by decide +kernel
theorem dL_farthest_10 : decode cL_farthest 10 = .ok (.i2l, 1) := by decide +kernel
theorem dL_farthest_11 : decode cL_farthest 11 = .ok (.lastore, 1) := by decide +kernel
theorem dL_farthest_12 : decode cL_farthest 12 = .ok (.goto 11, 3) := by decide +kernel
theorem dL_farthest_15 : decode cL_farthest 15 = .ok (.astore 5, 2) := by decide +kernel
theorem dL_farthest_17 : decode cL_farthest 17 = .ok (.iconst 1, 1) := by decide +kernel
theorem dL_farthest_18 : decode cL_farthest 18 = .ok (.ireturn, 1) := by decide +kernel
theorem dL_farthest_19 : decode cL_farthest 19 = .ok (.astore 5, 2) := by decide +kernel
theorem dL_farthest_21 : decode cL_farthest 21 = .ok (.iconst 2, 1) := by decide +kernel
theorem dL_farthest_22 : decode cL_farthest 22 = .ok (.ireturn, 1) := by decide +kernel
theorem dL_farthest_23 : decode cL_farthest 23 = .ok (.iconst 0, 1) := by decide +kernel
theorem dL_farthest_24 : decode cL_farthest 24 = .ok (.ireturn, 1) := by decide +kernel
theorem dL_nearestAt_0 : decode cL_nearestAt 0 = .ok (.aload 5, 2) := by decide +kernel
theorem dL_nearestAt_2 : decode cL_nearestAt 2 = .ok (.iconst 0, 1) := by decide +kernel
theorem dL_nearestAt_3 : decode cL_nearestAt 3 = .ok (.aload_n 0, 1) := by decide +kernel
theorem dL_nearestAt_4 : decode cL_nearestAt 4 = .ok (.iload_n 1, 1) := by decide +kernel
theorem dL_nearestAt_5 : decode cL_nearestAt 5 = .ok (.iload_n 2, 1) := by decide +kernel
theorem dL_nearestAt_6 : decode cL_nearestAt 6 = .ok (.iload_n 3, 1) := by decide +kernel
theorem dL_nearestAt_7 : decode cL_nearestAt 7 = .ok (.iload 4, 2) := by decide +kernel
theorem dL_nearestAt_9 : decode cL_nearestAt 9 = .ok (.invokevirtual 51, 3) := by decide +kernel
theorem dL_nearestAt_12 : decode cL_nearestAt 12 = .ok (.i2l, 1) := by decide +kernel
theorem dL_nearestAt_13 : decode cL_nearestAt 13 = .ok (.lastore, 1) := by decide +kernel
theorem dL_nearestAt_14 : decode cL_nearestAt 14 = .ok (.goto 11, 3) := by decide +kernel
theorem dL_nearestAt_17 : decode cL_nearestAt 17 = .ok (.astore 6, 2) := by decide +kernel
theorem dL_nearestAt_19 : decode cL_nearestAt 19 = .ok (.iconst 1, 1) := by decide +kernel
theorem dL_nearestAt_20 : decode cL_nearestAt 20 = .ok (.ireturn, 1) := by decide +kernel
theorem dL_nearestAt_21 : decode cL_nearestAt 21 = .ok (.astore 6, 2) := by decide +kernel
theorem dL_nearestAt_23 : decode cL_nearestAt 23 = .ok (.iconst 2, 1) := by decide +kernel
theorem dL_nearestAt_24 : decode cL_nearestAt 24 = .ok (.ireturn, 1) := by decide +kernel
theorem dL_nearestAt_25 : decode cL_nearestAt 25 = .ok (.iconst 0, 1) := by decide +kernel
theorem dL_nearestAt_26 : decode cL_nearestAt 26 = .ok (.ireturn, 1) := by decide +kernel
theorem dL_within_0 : decode cL_within 0 = .ok (.aload 4, 2) := by decide +kernel
theorem dL_within_2 : decode cL_within 2 = .ok (.iconst 0, 1) := by decide +kernel
theorem dL_within_3 : decode cL_within 3 = .ok (.aload_n 0, 1) := by decide +kernel
theorem dL_within_4 : decode cL_within 4 = .ok (.iload_n 1, 1) := by decide +kernel
theorem dL_within_5 : decode cL_within 5 = .ok (.iload_n 2, 1) := by decide +kernel
theorem dL_within_6 : decode cL_within 6 = .ok (.iload_n 3, 1) := by decide +kernel
theorem dL_within_7 : decode cL_within 7 = .ok (.invokevirtual 55, 3) := by decide +kernel
theorem dL_within_10 : decode cL_within 10 = .ok (.i2l, 1) := by decide +kernel
theorem dL_within_11 : decode cL_within 11 = .ok (.lastore, 1) := by decide +kernel
theorem dL_within_12 : decode cL_within 12 = .ok (.goto 7, 3) := by decide +kernel
theorem dL_within_15 : decode cL_within 15 = .ok (.astore 5, 2) := by decide +kernel
theorem dL_within_17 : decode cL_within 17 = .ok (.iconst 1, 1) := by decide +kernel
theorem dL_within_18 : decode cL_within 18 = .ok (.ireturn, 1) := by decide +kernel
theorem dL_within_19 : decode cL_within 19 = .ok (.iconst 0, 1) := by decide +kernel
theorem dL_within_20 : decode cL_within 20 = .ok (.ireturn, 1) := by decide +kernel
theorem dL_cell_0 : decode cL_cell 0 = .ok (.aload_n 3, 1) := by decide +kernel
theorem dL_cell_1 : decode cL_cell 1 = .ok (.iconst 0, 1) := by decide +kernel
theorem dL_cell_2 : decode cL_cell 2 = .ok (.aload_n 0, 1) := by decide +kernel
theorem dL_cell_3 : decode cL_cell 3 = .ok (.iload_n 1, 1) := by decide +kernel
theorem dL_cell_4 : decode cL_cell 4 = .ok (.iload_n 2, 1) := by decide +kernel
theorem dL_cell_5 : decode cL_cell 5 = .ok (.invokevirtual 58, 3) := by decide +kernel
theorem dL_cell_8 : decode cL_cell 8 = .ok (.i2l, 1) := by decide +kernel
theorem dL_cell_9 : decode cL_cell 9 = .ok (.lastore, 1) := by decide +kernel
theorem dL_cell_10 : decode cL_cell 10 = .ok (.goto 11, 3) := by decide +kernel
theorem dL_cell_13 : decode cL_cell 13 = .ok (.astore 4, 2) := by decide +kernel
theorem dL_cell_15 : decode cL_cell 15 = .ok (.iconst 1, 1) := by decide +kernel
theorem dL_cell_16 : decode cL_cell 16 = .ok (.ireturn, 1) := by decide +kernel
theorem dL_cell_17 : decode cL_cell 17 = .ok (.astore 4, 2) := by decide +kernel
theorem dL_cell_19 : decode cL_cell 19 = .ok (.iconst 2, 1) := by decide +kernel
theorem dL_cell_20 : decode cL_cell 20 = .ok (.ireturn, 1) := by decide +kernel
theorem dL_cell_21 : decode cL_cell 21 = .ok (.iconst 0, 1) := by decide +kernel
theorem dL_cell_22 : decode cL_cell 22 = .ok (.ireturn, 1) := by decide +kernel
theorem dL_turn_0 : decode cL_turn 0 = .ok (.aload 4, 2) := by decide +kernel
theorem dL_turn_2 : decode cL_turn 2 = .ok (.iconst 0, 1) := by decide +kernel
theorem dL_turn_3 : decode cL_turn 3 = .ok (.aload_n 0, 1) := by decide +kernel
theorem dL_turn_4 : decode cL_turn 4 = .ok (.iload_n 1, 1) := by decide +kernel
theorem dL_turn_5 : decode cL_turn 5 = .ok (.iload_n 2, 1) := by decide +kernel
theorem dL_turn_6 : decode cL_turn 6 = .ok (.iload_n 3, 1) := by decide +kernel
theorem dL_turn_7 : decode cL_turn 7 = .ok (.invokevirtual 62, 3) := by decide +kernel
theorem dL_turn_10 : decode cL_turn 10 = .ok (.i2l, 1) := by decide +kernel
theorem dL_turn_11 : decode cL_turn 11 = .ok (.lastore, 1) := by decide +kernel
theorem dL_turn_12 : decode cL_turn 12 = .ok (.goto 7, 3) := by decide +kernel
theorem dL_turn_15 : decode cL_turn 15 = .ok (.astore 5, 2) := by decide +kernel
theorem dL_turn_17 : decode cL_turn 17 = .ok (.iconst 1, 1) := by decide +kernel
theorem dL_turn_18 : decode cL_turn 18 = .ok (.ireturn, 1) := by decide +kernel
theorem dL_turn_19 : decode cL_turn 19 = .ok (.iconst 0, 1) := by decide +kernel
theorem dL_turn_20 : decode cL_turn 20 = .ok (.ireturn, 1) := by decide +kernel
theorem dL_inCircle_0 : decode cL_inCircle 0 = .ok (.aload 5, 2) := by decide +kernel
theorem dL_inCircle_2 : decode cL_inCircle 2 = .ok (.iconst 0, 1) := by decide +kernel
theorem dL_inCircle_3 : decode cL_inCircle 3 = .ok (.aload_n 0, 1) := by decide +kernel
theorem dL_inCircle_4 : decode cL_inCircle 4 = .ok (.iload_n 1, 1) := by decide +kernel
theorem dL_inCircle_5 : decode cL_inCircle 5 = .ok (.iload_n 2, 1) := by decide +kernel
theorem dL_inCircle_6 : decode cL_inCircle 6 = .ok (.iload_n 3, 1) := by decide +kernel
theorem dL_inCircle_7 : decode cL_inCircle 7 = .ok (.iload 4, 2) := by decide +kernel
theorem dL_inCircle_9 : decode cL_inCircle 9 = .ok (.invokevirtual 65, 3) := by decide +kernel
theorem dL_inCircle_12 : decode cL_inCircle 12 = .ok (.i2l, 1) := by decide +kernel
theorem dL_inCircle_13 : decode cL_inCircle 13 = .ok (.lastore, 1) := by decide +kernel
theorem dL_inCircle_14 : decode cL_inCircle 14 = .ok (.goto 11, 3) := by decide +kernel
theorem dL_inCircle_17 : decode cL_inCircle 17 = .ok (.astore 6, 2) := by decide +kernel
theorem dL_inCircle_19 : decode cL_inCircle 19 = .ok (.iconst 1, 1) := by decide +kernel
theorem dL_inCircle_20 : decode cL_inCircle 20 = .ok (.ireturn, 1) := by decide +kernel
theorem dL_inCircle_21 : decode cL_inCircle 21 = .ok (.astore 6, 2) := by decide +kernel
theorem dL_inCircle_23 : decode cL_inCircle 23 = .ok (.iconst 2, 1) := by decide +kernel
theorem dL_inCircle_24 : decode cL_inCircle 24 = .ok (.ireturn, 1) := by decide +kernel
theorem dL_inCircle_25 : decode cL_inCircle 25 = .ok (.iconst 0, 1) := by decide +kernel
theorem dL_inCircle_26 : decode cL_inCircle 26 = .ok (.ireturn, 1) := by decide +kernel
theorem dL_isTriangle_0 : decode cL_isTriangle 0 = .ok (.aload 4, 2) := by decide +kernel
theorem dL_isTriangle_2 : decode cL_isTriangle 2 = .ok (.iconst 0, 1) := by decide +kernel
theorem dL_isTriangle_3 : decode cL_isTriangle 3 = .ok (.aload_n 0, 1) := by decide +kernel
theorem dL_isTriangle_4 : decode cL_isTriangle 4 = .ok (.iload_n 1, 1) := by decide +kernel
theorem dL_isTriangle_5 : decode cL_isTriangle 5 = .ok (.iload_n 2, 1) := by decide +kernel
theorem dL_isTriangle_6 : decode cL_isTriangle 6 = .ok (.iload_n 3, 1) := by decide +kernel
theorem dL_isTriangle_7 : decode cL_isTriangle 7 = .ok (.invokevirtual 69, 3) := by decide +kernel
theorem dL_isTriangle_10 : decode cL_isTriangle 10 = .ok (.ifCond .eq 7, 3) := by decide +kernel
theorem dL_isTriangle_13 : decode cL_isTriangle 13 = .ok (.lconst 1, 1) := by decide +kernel
theorem dL_isTriangle_14 : decode cL_isTriangle 14 = .ok (.goto 4, 3) := by decide +kernel
theorem dL_isTriangle_17 : decode cL_isTriangle 17 = .ok (.lconst 0, 1) := by decide +kernel
theorem dL_isTriangle_18 : decode cL_isTriangle 18 = .ok (.lastore, 1) := by decide +kernel
theorem dL_isTriangle_19 : decode cL_isTriangle 19 = .ok (.goto 7, 3) := by decide +kernel
theorem dL_isTriangle_22 : decode cL_isTriangle 22 = .ok (.astore 5, 2) := by decide +kernel
theorem dL_isTriangle_24 : decode cL_isTriangle 24 = .ok (.iconst 1, 1) := by decide +kernel
theorem dL_isTriangle_25 : decode cL_isTriangle 25 = .ok (.ireturn, 1) := by decide +kernel
theorem dL_isTriangle_26 : decode cL_isTriangle 26 = .ok (.iconst 0, 1) := by decide +kernel
theorem dL_isTriangle_27 : decode cL_isTriangle 27 = .ok (.ireturn, 1) := by decide +kernel
theorem dL_areNeighbours_0 : decode cL_areNeighbours 0 = .ok (.aload_n 3, 1) := by decide +kernel
theorem dL_areNeighbours_1 : decode cL_areNeighbours 1 = .ok (.iconst 0, 1) := by decide +kernel
theorem dL_areNeighbours_2 : decode cL_areNeighbours 2 = .ok (.aload_n 0, 1) := by decide +kernel
theorem dL_areNeighbours_3 : decode cL_areNeighbours 3 = .ok (.iload_n 1, 1) := by decide +kernel
theorem dL_areNeighbours_4 : decode cL_areNeighbours 4 = .ok (.iload_n 2, 1) := by decide +kernel
theorem dL_areNeighbours_5 : decode cL_areNeighbours 5 = .ok (.invokevirtual 73, 3) := by decide +kernel
theorem dL_areNeighbours_8 : decode cL_areNeighbours 8 = .ok (.ifCond .eq 7, 3) := by decide +kernel
theorem dL_areNeighbours_11 : decode cL_areNeighbours 11 = .ok (.lconst 1, 1) := by decide +kernel
theorem dL_areNeighbours_12 : decode cL_areNeighbours 12 = .ok (.goto 4, 3) := by decide +kernel
theorem dL_areNeighbours_15 : decode cL_areNeighbours 15 = .ok (.lconst 0, 1) := by decide +kernel
theorem dL_areNeighbours_16 : decode cL_areNeighbours 16 = .ok (.lastore, 1) := by decide +kernel
theorem dL_areNeighbours_17 : decode cL_areNeighbours 17 = .ok (.goto 7, 3) := by decide +kernel
theorem dL_areNeighbours_20 : decode cL_areNeighbours 20 = .ok (.astore 4, 2) := by decide +kernel
theorem dL_areNeighbours_22 : decode cL_areNeighbours 22 = .ok (.iconst 1, 1) := by decide +kernel
theorem dL_areNeighbours_23 : decode cL_areNeighbours 23 = .ok (.ireturn, 1) := by decide +kernel
theorem dL_areNeighbours_24 : decode cL_areNeighbours 24 = .ok (.iconst 0, 1) := by decide +kernel
theorem dL_areNeighbours_25 : decode cL_areNeighbours 25 = .ok (.ireturn, 1) := by decide +kernel
theorem dL_countNeighbours_0 : decode cL_countNeighbours 0 = .ok (.aload_n 2, 1) := by decide +kernel
theorem dL_countNeighbours_1 : decode cL_countNeighbours 1 = .ok (.iconst 0, 1) := by decide +kernel
theorem dL_countNeighbours_2 : decode cL_countNeighbours 2 = .ok (.aload_n 0, 1) := by decide +kernel
theorem dL_countNeighbours_3 : decode cL_countNeighbours 3 = .ok (.iload_n 1, 1) := by decide +kernel
theorem dL_countNeighbours_4 : decode cL_countNeighbours 4 = .ok (.invokevirtual 77, 3) := by decide +kernel
theorem dL_countNeighbours_7 : decode cL_countNeighbours 7 = .ok (.i2l, 1) := by decide +kernel
theorem dL_countNeighbours_8 : decode cL_countNeighbours 8 = .ok (.lastore, 1) := by decide +kernel
theorem dL_countNeighbours_9 : decode cL_countNeighbours 9 = .ok (.goto 6, 3) := by decide +kernel
theorem dL_countNeighbours_12 : decode cL_countNeighbours 12 = .ok (.astore_n 3, 1) := by decide +kernel
theorem dL_countNeighbours_13 : decode cL_countNeighbours 13 = .ok (.iconst 1, 1) := by decide +kernel
theorem dL_countNeighbours_14 : decode cL_countNeighbours 14 = .ok (.ireturn, 1) := by decide +kernel
theorem dL_countNeighbours_15 : decode cL_countNeighbours 15 = .ok (.iconst 0, 1) := by decide +kernel
theorem dL_countNeighbours_16 : decode cL_countNeighbours 16 = .ok (.ireturn, 1) := by decide +kernel
theorem dL_isJoined_0 : decode cL_isJoined 0 = .ok (.aload 4, 2) := by decide +kernel
theorem dL_isJoined_2 : decode cL_isJoined 2 = .ok (.iconst 0, 1) := by decide +kernel
theorem dL_isJoined_3 : decode cL_isJoined 3 = .ok (.aload_n 0, 1) := by decide +kernel
theorem dL_isJoined_4 : decode cL_isJoined 4 = .ok (.iload_n 1, 1) := by decide +kernel
theorem dL_isJoined_5 : decode cL_isJoined 5 = .ok (.iload_n 2, 1) := by decide +kernel
theorem dL_isJoined_6 : decode cL_isJoined 6 = .ok (.iload_n 3, 1) := by decide +kernel
theorem dL_isJoined_7 : decode cL_isJoined 7 = .ok (.invokevirtual 80, 3) := by decide +kernel
theorem dL_isJoined_10 : decode cL_isJoined 10 = .ok (.ifCond .eq 7, 3) := by decide +kernel
theorem dL_isJoined_13 : decode cL_isJoined 13 = .ok (.lconst 1, 1) := by decide +kernel
theorem dL_isJoined_14 : decode cL_isJoined 14 = .ok (.goto 4, 3) := by decide +kernel
theorem dL_isJoined_17 : decode cL_isJoined 17 = .ok (.lconst 0, 1) := by decide +kernel
theorem dL_isJoined_18 : decode cL_isJoined 18 = .ok (.lastore, 1) := by decide +kernel
theorem dL_isJoined_19 : decode cL_isJoined 19 = .ok (.goto 11, 3) := by decide +kernel
theorem dL_isJoined_22 : decode cL_isJoined 22 = .ok (.astore 5, 2) := by decide +kernel
theorem dL_isJoined_24 : decode cL_isJoined 24 = .ok (.iconst 1, 1) := by decide +kernel
theorem dL_isJoined_25 : decode cL_isJoined 25 = .ok (.ireturn, 1) := by decide +kernel
theorem dL_isJoined_26 : decode cL_isJoined 26 = .ok (.astore 5, 2) := by decide +kernel
theorem dL_isJoined_28 : decode cL_isJoined 28 = .ok (.iconst 2, 1) := by decide +kernel
theorem dL_isJoined_29 : decode cL_isJoined 29 = .ok (.ireturn, 1) := by decide +kernel
theorem dL_isJoined_30 : decode cL_isJoined 30 = .ok (.iconst 0, 1) := by decide +kernel
theorem dL_isJoined_31 : decode cL_isJoined 31 = .ok (.ireturn, 1) := by decide +kernel
theorem dL_countJoined_0 : decode cL_countJoined 0 = .ok (.aload_n 2, 1) := by decide +kernel
theorem dL_countJoined_1 : decode cL_countJoined 1 = .ok (.iconst 0, 1) := by decide +kernel
theorem dL_countJoined_2 : decode cL_countJoined 2 = .ok (.aload_n 0, 1) := by decide +kernel
theorem dL_countJoined_3 : decode cL_countJoined 3 = .ok (.iload_n 1, 1) := by decide +kernel
theorem dL_countJoined_4 : decode cL_countJoined 4 = .ok (.invokevirtual 84, 3) := by decide +kernel
theorem dL_countJoined_7 : decode cL_countJoined 7 = .ok (.i2l, 1) := by decide +kernel
theorem dL_countJoined_8 : decode cL_countJoined 8 = .ok (.lastore, 1) := by decide +kernel
theorem dL_countJoined_9 : decode cL_countJoined 9 = .ok (.goto 6, 3) := by decide +kernel
theorem dL_countJoined_12 : decode cL_countJoined 12 = .ok (.astore_n 3, 1) := by decide +kernel
theorem dL_countJoined_13 : decode cL_countJoined 13 = .ok (.iconst 1, 1) := by decide +kernel
theorem dL_countJoined_14 : decode cL_countJoined 14 = .ok (.ireturn, 1) := by decide +kernel
theorem dL_countJoined_15 : decode cL_countJoined 15 = .ok (.iconst 0, 1) := by decide +kernel
theorem dL_countJoined_16 : decode cL_countJoined 16 = .ok (.ireturn, 1) := by decide +kernel
theorem dL_steps_0 : decode cL_steps 0 = .ok (.aload_n 3, 1) := by decide +kernel
theorem dL_steps_1 : decode cL_steps 1 = .ok (.iconst 0, 1) := by decide +kernel
theorem dL_steps_2 : decode cL_steps 2 = .ok (.aload_n 0, 1) := by decide +kernel
theorem dL_steps_3 : decode cL_steps 3 = .ok (.iload_n 1, 1) := by decide +kernel
theorem dL_steps_4 : decode cL_steps 4 = .ok (.iload_n 2, 1) := by decide +kernel
theorem dL_steps_5 : decode cL_steps 5 = .ok (.invokevirtual 88, 3) := by decide +kernel
theorem dL_steps_8 : decode cL_steps 8 = .ok (.i2l, 1) := by decide +kernel
theorem dL_steps_9 : decode cL_steps 9 = .ok (.lastore, 1) := by decide +kernel
theorem dL_steps_10 : decode cL_steps 10 = .ok (.goto 11, 3) := by decide +kernel
theorem dL_steps_13 : decode cL_steps 13 = .ok (.astore 4, 2) := by decide +kernel
theorem dL_steps_15 : decode cL_steps 15 = .ok (.iconst 1, 1) := by decide +kernel
theorem dL_steps_16 : decode cL_steps 16 = .ok (.ireturn, 1) := by decide +kernel
theorem dL_steps_17 : decode cL_steps 17 = .ok (.astore 4, 2) := by decide +kernel
theorem dL_steps_19 : decode cL_steps 19 = .ok (.iconst 2, 1) := by decide +kernel
theorem dL_steps_20 : decode cL_steps 20 = .ok (.ireturn, 1) := by decide +kernel
theorem dL_steps_21 : decode cL_steps 21 = .ok (.iconst 0, 1) := by decide +kernel
theorem dL_steps_22 : decode cL_steps 22 = .ok (.ireturn, 1) := by decide +kernel
theorem dL_hullAt_0 : decode cL_hullAt 0 = .ok (.aload_n 2, 1) := by decide +kernel
theorem dL_hullAt_1 : decode cL_hullAt 1 = .ok (.iconst 0, 1) := by decide +kernel
theorem dL_hullAt_2 : decode cL_hullAt 2 = .ok (.aload_n 0, 1) := by decide +kernel
theorem dL_hullAt_3 : decode cL_hullAt 3 = .ok (.iload_n 1, 1) := by decide +kernel
theorem dL_hullAt_4 : decode cL_hullAt 4 = .ok (.invokevirtual 91, 3) := by decide +kernel
theorem dL_hullAt_7 : decode cL_hullAt 7 = .ok (.i2l, 1) := by decide +kernel
theorem dL_hullAt_8 : decode cL_hullAt 8 = .ok (.lastore, 1) := by decide +kernel
theorem dL_hullAt_9 : decode cL_hullAt 9 = .ok (.goto 6, 3) := by decide +kernel
theorem dL_hullAt_12 : decode cL_hullAt 12 = .ok (.astore_n 3, 1) := by decide +kernel
theorem dL_hullAt_13 : decode cL_hullAt 13 = .ok (.iconst 1, 1) := by decide +kernel
theorem dL_hullAt_14 : decode cL_hullAt 14 = .ok (.ireturn, 1) := by decide +kernel
theorem dL_hullAt_15 : decode cL_hullAt 15 = .ok (.iconst 0, 1) := by decide +kernel
theorem dL_hullAt_16 : decode cL_hullAt 16 = .ok (.ireturn, 1) := by decide +kernel
theorem dL_layer_0 : decode cL_layer 0 = .ok (.aload_n 2, 1) := by decide +kernel
theorem dL_layer_1 : decode cL_layer 1 = .ok (.iconst 0, 1) := by decide +kernel
theorem dL_layer_2 : decode cL_layer 2 = .ok (.aload_n 0, 1) := by decide +kernel
theorem dL_layer_3 : decode cL_layer 3 = .ok (.iload_n 1, 1) := by decide +kernel
theorem dL_layer_4 : decode cL_layer 4 = .ok (.invokevirtual 94, 3) := by decide +kernel
theorem dL_layer_7 : decode cL_layer 7 = .ok (.i2l, 1) := by decide +kernel
theorem dL_layer_8 : decode cL_layer 8 = .ok (.lastore, 1) := by decide +kernel
theorem dL_layer_9 : decode cL_layer 9 = .ok (.goto 6, 3) := by decide +kernel
theorem dL_layer_12 : decode cL_layer 12 = .ok (.astore_n 3, 1) := by decide +kernel
theorem dL_layer_13 : decode cL_layer 13 = .ok (.iconst 1, 1) := by decide +kernel
theorem dL_layer_14 : decode cL_layer 14 = .ok (.ireturn, 1) := by decide +kernel
theorem dL_layer_15 : decode cL_layer 15 = .ok (.iconst 0, 1) := by decide +kernel
theorem dL_layer_16 : decode cL_layer 16 = .ok (.ireturn, 1) := by decide +kernel
theorem dL_depth_0 : decode cL_depth 0 = .ok (.aload_n 2, 1) := by decide +kernel
theorem dL_depth_1 : decode cL_depth 1 = .ok (.iconst 0, 1) := by decide +kernel
theorem dL_depth_2 : decode cL_depth 2 = .ok (.aload_n 0, 1) := by decide +kernel
theorem dL_depth_3 : decode cL_depth 3 = .ok (.iload_n 1, 1) := by decide +kernel
theorem dL_depth_4 : decode cL_depth 4 = .ok (.invokevirtual 97, 3) := by decide +kernel
theorem dL_depth_7 : decode cL_depth 7 = .ok (.i2l, 1) := by decide +kernel
theorem dL_depth_8 : decode cL_depth 8 = .ok (.lastore, 1) := by decide +kernel
theorem dL_depth_9 : decode cL_depth 9 = .ok (.goto 6, 3) := by decide +kernel
theorem dL_depth_12 : decode cL_depth 12 = .ok (.astore_n 3, 1) := by decide +kernel
theorem dL_depth_13 : decode cL_depth 13 = .ok (.iconst 1, 1) := by decide +kernel
theorem dL_depth_14 : decode cL_depth 14 = .ok (.ireturn, 1) := by decide +kernel
theorem dL_depth_15 : decode cL_depth 15 = .ok (.iconst 0, 1) := by decide +kernel
theorem dL_depth_16 : decode cL_depth 16 = .ok (.ireturn, 1) := by decide +kernel
theorem dL_countParts_0 : decode cL_countParts 0 = .ok (.aload_n 2, 1) := by decide +kernel
theorem dL_countParts_1 : decode cL_countParts 1 = .ok (.iconst 0, 1) := by decide +kernel
theorem dL_countParts_2 : decode cL_countParts 2 = .ok (.aload_n 0, 1) := by decide +kernel
theorem dL_countParts_3 : decode cL_countParts 3 = .ok (.iload_n 1, 1) := by decide +kernel
theorem dL_countParts_4 : decode cL_countParts 4 = .ok (.invokevirtual 100, 3) := by decide +kernel
theorem dL_countParts_7 : decode cL_countParts 7 = .ok (.i2l, 1) := by decide +kernel
theorem dL_countParts_8 : decode cL_countParts 8 = .ok (.lastore, 1) := by decide +kernel
theorem dL_countParts_9 : decode cL_countParts 9 = .ok (.goto 6, 3) := by decide +kernel
theorem dL_countParts_12 : decode cL_countParts 12 = .ok (.astore_n 3, 1) := by decide +kernel
theorem dL_countParts_13 : decode cL_countParts 13 = .ok (.iconst 1, 1) := by decide +kernel
theorem dL_countParts_14 : decode cL_countParts 14 = .ok (.ireturn, 1) := by decide +kernel
theorem dL_countParts_15 : decode cL_countParts 15 = .ok (.iconst 0, 1) := by decide +kernel
theorem dL_countParts_16 : decode cL_countParts 16 = .ok (.ireturn, 1) := by decide +kernel
theorem dL_countHoles_0 : decode cL_countHoles 0 = .ok (.aload_n 2, 1) := by decide +kernel
theorem dL_countHoles_1 : decode cL_countHoles 1 = .ok (.iconst 0, 1) := by decide +kernel
theorem dL_countHoles_2 : decode cL_countHoles 2 = .ok (.aload_n 0, 1) := by decide +kernel
theorem dL_countHoles_3 : decode cL_countHoles 3 = .ok (.iload_n 1, 1) := by decide +kernel
theorem dL_countHoles_4 : decode cL_countHoles 4 = .ok (.invokevirtual 103, 3) := by decide +kernel
theorem dL_countHoles_7 : decode cL_countHoles 7 = .ok (.i2l, 1) := by decide +kernel
theorem dL_countHoles_8 : decode cL_countHoles 8 = .ok (.lastore, 1) := by decide +kernel
theorem dL_countHoles_9 : decode cL_countHoles 9 = .ok (.goto 6, 3) := by decide +kernel
theorem dL_countHoles_12 : decode cL_countHoles 12 = .ok (.astore_n 3, 1) := by decide +kernel
theorem dL_countHoles_13 : decode cL_countHoles 13 = .ok (.iconst 1, 1) := by decide +kernel
theorem dL_countHoles_14 : decode cL_countHoles 14 = .ok (.ireturn, 1) := by decide +kernel
theorem dL_countHoles_15 : decode cL_countHoles 15 = .ok (.iconst 0, 1) := by decide +kernel
theorem dL_countHoles_16 : decode cL_countHoles 16 = .ok (.ireturn, 1) := by decide +kernel
theorem dL_addWall_0 : decode cL_addWall 0 = .ok (.aload 5, 2) := by decide +kernel
theorem dL_addWall_2 : decode cL_addWall 2 = .ok (.iconst 0, 1) := by decide +kernel
theorem dL_addWall_3 : decode cL_addWall 3 = .ok (.aload_n 0, 1) := by decide +kernel
theorem dL_addWall_4 : decode cL_addWall 4 = .ok (.iload_n 1, 1) := by decide +kernel
theorem dL_addWall_5 : decode cL_addWall 5 = .ok (.iload_n 2, 1) := by decide +kernel
theorem dL_addWall_6 : decode cL_addWall 6 = .ok (.iload_n 3, 1) := by decide +kernel
theorem dL_addWall_7 : decode cL_addWall 7 = .ok (.iload 4, 2) := by decide +kernel
theorem dL_addWall_9 : decode cL_addWall 9 = .ok (.invokevirtual 106, 3) := by decide +kernel
theorem dL_addWall_12 : decode cL_addWall 12 = .ok (.i2l, 1) := by decide +kernel
theorem dL_addWall_13 : decode cL_addWall 13 = .ok (.lastore, 1) := by decide +kernel
theorem dL_addWall_14 : decode cL_addWall 14 = .ok (.goto 11, 3) := by decide +kernel
theorem dL_addWall_17 : decode cL_addWall 17 = .ok (.astore 6, 2) := by decide +kernel
theorem dL_addWall_19 : decode cL_addWall 19 = .ok (.iconst 1, 1) := by decide +kernel
theorem dL_addWall_20 : decode cL_addWall 20 = .ok (.ireturn, 1) := by decide +kernel
theorem dL_addWall_21 : decode cL_addWall 21 = .ok (.astore 6, 2) := by decide +kernel
theorem dL_addWall_23 : decode cL_addWall 23 = .ok (.iconst 2, 1) := by decide +kernel
theorem dL_addWall_24 : decode cL_addWall 24 = .ok (.ireturn, 1) := by decide +kernel
theorem dL_addWall_25 : decode cL_addWall 25 = .ok (.iconst 0, 1) := by decide +kernel
theorem dL_addWall_26 : decode cL_addWall 26 = .ok (.ireturn, 1) := by decide +kernel
theorem dL_dropWall_0 : decode cL_dropWall 0 = .ok (.aload_n 1, 1) := by decide +kernel
theorem dL_dropWall_1 : decode cL_dropWall 1 = .ok (.iconst 0, 1) := by decide +kernel
theorem dL_dropWall_2 : decode cL_dropWall 2 = .ok (.aload_n 0, 1) := by decide +kernel
theorem dL_dropWall_3 : decode cL_dropWall 3 = .ok (.invokevirtual 109, 3) := by decide +kernel
theorem dL_dropWall_6 : decode cL_dropWall 6 = .ok (.i2l, 1) := by decide +kernel
theorem dL_dropWall_7 : decode cL_dropWall 7 = .ok (.lastore, 1) := by decide +kernel
theorem dL_dropWall_8 : decode cL_dropWall 8 = .ok (.goto 6, 3) := by decide +kernel
theorem dL_dropWall_11 : decode cL_dropWall 11 = .ok (.astore_n 2, 1) := by decide +kernel
theorem dL_dropWall_12 : decode cL_dropWall 12 = .ok (.iconst 1, 1) := by decide +kernel
theorem dL_dropWall_13 : decode cL_dropWall 13 = .ok (.ireturn, 1) := by decide +kernel
theorem dL_dropWall_14 : decode cL_dropWall 14 = .ok (.iconst 0, 1) := by decide +kernel
theorem dL_dropWall_15 : decode cL_dropWall 15 = .ok (.ireturn, 1) := by decide +kernel
theorem dL_sees_0 : decode cL_sees 0 = .ok (.aload 4, 2) := by decide +kernel
theorem dL_sees_2 : decode cL_sees 2 = .ok (.iconst 0, 1) := by decide +kernel
theorem dL_sees_3 : decode cL_sees 3 = .ok (.aload_n 0, 1) := by decide +kernel
theorem dL_sees_4 : decode cL_sees 4 = .ok (.iload_n 1, 1) := by decide +kernel
theorem dL_sees_5 : decode cL_sees 5 = .ok (.iload_n 2, 1) := by decide +kernel
theorem dL_sees_6 : decode cL_sees 6 = .ok (.iload_n 3, 1) := by decide +kernel
theorem dL_sees_7 : decode cL_sees 7 = .ok (.invokevirtual 112, 3) := by decide +kernel
theorem dL_sees_10 : decode cL_sees 10 = .ok (.ifCond .eq 7, 3) := by decide +kernel
theorem dL_sees_13 : decode cL_sees 13 = .ok (.lconst 1, 1) := by decide +kernel
theorem dL_sees_14 : decode cL_sees 14 = .ok (.goto 4, 3) := by decide +kernel
theorem dL_sees_17 : decode cL_sees 17 = .ok (.lconst 0, 1) := by decide +kernel
theorem dL_sees_18 : decode cL_sees 18 = .ok (.lastore, 1) := by decide +kernel
theorem dL_sees_19 : decode cL_sees 19 = .ok (.goto 11, 3) := by decide +kernel
theorem dL_sees_22 : decode cL_sees 22 = .ok (.astore 5, 2) := by decide +kernel
theorem dL_sees_24 : decode cL_sees 24 = .ok (.iconst 1, 1) := by decide +kernel
theorem dL_sees_25 : decode cL_sees 25 = .ok (.ireturn, 1) := by decide +kernel
theorem dL_sees_26 : decode cL_sees 26 = .ok (.astore 5, 2) := by decide +kernel
theorem dL_sees_28 : decode cL_sees 28 = .ok (.iconst 2, 1) := by decide +kernel
theorem dL_sees_29 : decode cL_sees 29 = .ok (.ireturn, 1) := by decide +kernel
theorem dL_sees_30 : decode cL_sees 30 = .ok (.iconst 0, 1) := by decide +kernel
theorem dL_sees_31 : decode cL_sees 31 = .ok (.ireturn, 1) := by decide +kernel
theorem dL_countSeen_0 : decode cL_countSeen 0 = .ok (.aload_n 2, 1) := by decide +kernel
theorem dL_countSeen_1 : decode cL_countSeen 1 = .ok (.iconst 0, 1) := by decide +kernel
theorem dL_countSeen_2 : decode cL_countSeen 2 = .ok (.aload_n 0, 1) := by decide +kernel
theorem dL_countSeen_3 : decode cL_countSeen 3 = .ok (.iload_n 1, 1) := by decide +kernel
theorem dL_countSeen_4 : decode cL_countSeen 4 = .ok (.invokevirtual 115, 3) := by decide +kernel
theorem dL_countSeen_7 : decode cL_countSeen 7 = .ok (.i2l, 1) := by decide +kernel
theorem dL_countSeen_8 : decode cL_countSeen 8 = .ok (.lastore, 1) := by decide +kernel
theorem dL_countSeen_9 : decode cL_countSeen 9 = .ok (.goto 6, 3) := by decide +kernel
theorem dL_countSeen_12 : decode cL_countSeen 12 = .ok (.astore_n 3, 1) := by decide +kernel
theorem dL_countSeen_13 : decode cL_countSeen 13 = .ok (.iconst 1, 1) := by decide +kernel
theorem dL_countSeen_14 : decode cL_countSeen 14 = .ok (.ireturn, 1) := by decide +kernel
theorem dL_countSeen_15 : decode cL_countSeen 15 = .ok (.iconst 0, 1) := by decide +kernel
theorem dL_countSeen_16 : decode cL_countSeen 16 = .ok (.ireturn, 1) := by decide +kernel
theorem dL_setSpeed_0 : decode cL_setSpeed 0 = .ok (.aload 4, 2) := by decide +kernel
theorem dL_setSpeed_2 : decode cL_setSpeed 2 = .ok (.iconst 0, 1) := by decide +kernel
theorem dL_setSpeed_3 : decode cL_setSpeed 3 = .ok (.aload_n 0, 1) := by decide +kernel
theorem dL_setSpeed_4 : decode cL_setSpeed 4 = .ok (.iload_n 1, 1) := by decide +kernel
theorem dL_setSpeed_5 : decode cL_setSpeed 5 = .ok (.iload_n 2, 1) := by decide +kernel
theorem dL_setSpeed_6 : decode cL_setSpeed 6 = .ok (.iload_n 3, 1) := by decide +kernel
theorem dL_setSpeed_7 : decode cL_setSpeed 7 = .ok (.invokevirtual 118, 3) := by decide +kernel
theorem dL_setSpeed_10 : decode cL_setSpeed 10 = .ok (.ifCond .eq 7, 3) := by decide +kernel
theorem dL_setSpeed_13 : decode cL_setSpeed 13 = .ok (.lconst 1, 1) := by decide +kernel
theorem dL_setSpeed_14 : decode cL_setSpeed 14 = .ok (.goto 4, 3) := by decide +kernel
theorem dL_setSpeed_17 : decode cL_setSpeed 17 = .ok (.lconst 0, 1) := by decide +kernel
theorem dL_setSpeed_18 : decode cL_setSpeed 18 = .ok (.lastore, 1) := by decide +kernel
theorem dL_setSpeed_19 : decode cL_setSpeed 19 = .ok (.goto 11, 3) := by decide +kernel
theorem dL_setSpeed_22 : decode cL_setSpeed 22 = .ok (.astore 5, 2) := by decide +kernel
theorem dL_setSpeed_24 : decode cL_setSpeed 24 = .ok (.iconst 1, 1) := by decide +kernel
theorem dL_setSpeed_25 : decode cL_setSpeed 25 = .ok (.ireturn, 1) := by decide +kernel
theorem dL_setSpeed_26 : decode cL_setSpeed 26 = .ok (.astore 5, 2) := by decide +kernel
theorem dL_setSpeed_28 : decode cL_setSpeed 28 = .ok (.iconst 2, 1) := by decide +kernel
theorem dL_setSpeed_29 : decode cL_setSpeed 29 = .ok (.ireturn, 1) := by decide +kernel
theorem dL_setSpeed_30 : decode cL_setSpeed 30 = .ok (.iconst 0, 1) := by decide +kernel
theorem dL_setSpeed_31 : decode cL_setSpeed 31 = .ok (.ireturn, 1) := by decide +kernel
theorem dL_pass_0 : decode cL_pass 0 = .ok (.aload_n 2, 1) := by decide +kernel
theorem dL_pass_1 : decode cL_pass 1 = .ok (.iconst 0, 1) := by decide +kernel
theorem dL_pass_2 : decode cL_pass 2 = .ok (.aload_n 0, 1) := by decide +kernel
theorem dL_pass_3 : decode cL_pass 3 = .ok (.iload_n 1, 1) := by decide +kernel
theorem dL_pass_4 : decode cL_pass 4 = .ok (.invokevirtual 121, 3) := by decide +kernel
theorem dL_pass_7 : decode cL_pass 7 = .ok (.i2l, 1) := by decide +kernel
theorem dL_pass_8 : decode cL_pass 8 = .ok (.lastore, 1) := by decide +kernel
theorem dL_pass_9 : decode cL_pass 9 = .ok (.goto 9, 3) := by decide +kernel
theorem dL_pass_12 : decode cL_pass 12 = .ok (.astore_n 3, 1) := by decide +kernel
theorem dL_pass_13 : decode cL_pass 13 = .ok (.iconst 1, 1) := by decide +kernel
theorem dL_pass_14 : decode cL_pass 14 = .ok (.ireturn, 1) := by decide +kernel
theorem dL_pass_15 : decode cL_pass 15 = .ok (.astore_n 3, 1) := by decide +kernel
theorem dL_pass_16 : decode cL_pass 16 = .ok (.iconst 2, 1) := by decide +kernel
theorem dL_pass_17 : decode cL_pass 17 = .ok (.ireturn, 1) := by decide +kernel
theorem dL_pass_18 : decode cL_pass 18 = .ok (.iconst 0, 1) := by decide +kernel
theorem dL_pass_19 : decode cL_pass 19 = .ok (.ireturn, 1) := by decide +kernel
theorem dL_nextNearest_0 : decode cL_nextNearest 0 = .ok (.aload_n 3, 1) := by decide +kernel
theorem dL_nextNearest_1 : decode cL_nextNearest 1 = .ok (.iconst 0, 1) := by decide +kernel
theorem dL_nextNearest_2 : decode cL_nextNearest 2 = .ok (.aload_n 0, 1) := by decide +kernel
theorem dL_nextNearest_3 : decode cL_nextNearest 3 = .ok (.iload_n 1, 1) := by decide +kernel
theorem dL_nextNearest_4 : decode cL_nextNearest 4 = .ok (.iload_n 2, 1) := by decide +kernel
theorem dL_nextNearest_5 : decode cL_nextNearest 5 = .ok (.invokevirtual 124, 3) := by decide +kernel
theorem dL_nextNearest_8 : decode cL_nextNearest 8 = .ok (.i2l, 1) := by decide +kernel
theorem dL_nextNearest_9 : decode cL_nextNearest 9 = .ok (.lastore, 1) := by decide +kernel
theorem dL_nextNearest_10 : decode cL_nextNearest 10 = .ok (.goto 11, 3) := by decide +kernel
theorem dL_nextNearest_13 : decode cL_nextNearest 13 = .ok (.astore 4, 2) := by decide +kernel
theorem dL_nextNearest_15 : decode cL_nextNearest 15 = .ok (.iconst 1, 1) := by decide +kernel
theorem dL_nextNearest_16 : decode cL_nextNearest 16 = .ok (.ireturn, 1) := by decide +kernel
theorem dL_nextNearest_17 : decode cL_nextNearest 17 = .ok (.astore 4, 2) := by decide +kernel
theorem dL_nextNearest_19 : decode cL_nextNearest 19 = .ok (.iconst 2, 1) := by decide +kernel
theorem dL_nextNearest_20 : decode cL_nextNearest 20 = .ok (.ireturn, 1) := by decide +kernel
theorem dL_nextNearest_21 : decode cL_nextNearest 21 = .ok (.iconst 0, 1) := by decide +kernel
theorem dL_nextNearest_22 : decode cL_nextNearest 22 = .ok (.ireturn, 1) := by decide +kernel
theorem dL_nextTime_0 : decode cL_nextTime 0 = .ok (.aload_n 3, 1) := by decide +kernel
theorem dL_nextTime_1 : decode cL_nextTime 1 = .ok (.iconst 0, 1) := by decide +kernel
theorem dL_nextTime_2 : decode cL_nextTime 2 = .ok (.aload_n 0, 1) := by decide +kernel
theorem dL_nextTime_3 : decode cL_nextTime 3 = .ok (.iload_n 1, 1) := by decide +kernel
theorem dL_nextTime_4 : decode cL_nextTime 4 = .ok (.iload_n 2, 1) := by decide +kernel
theorem dL_nextTime_5 : decode cL_nextTime 5 = .ok (.invokevirtual 127, 3) := by decide +kernel
theorem dL_nextTime_8 : decode cL_nextTime 8 = .ok (.i2l, 1) := by decide +kernel
theorem dL_nextTime_9 : decode cL_nextTime 9 = .ok (.lastore, 1) := by decide +kernel
theorem dL_nextTime_10 : decode cL_nextTime 10 = .ok (.goto 11, 3) := by decide +kernel
theorem dL_nextTime_13 : decode cL_nextTime 13 = .ok (.astore 4, 2) := by decide +kernel
theorem dL_nextTime_15 : decode cL_nextTime 15 = .ok (.iconst 1, 1) := by decide +kernel
theorem dL_nextTime_16 : decode cL_nextTime 16 = .ok (.ireturn, 1) := by decide +kernel
theorem dL_nextTime_17 : decode cL_nextTime 17 = .ok (.astore 4, 2) := by decide +kernel
theorem dL_nextTime_19 : decode cL_nextTime 19 = .ok (.iconst 2, 1) := by decide +kernel
theorem dL_nextTime_20 : decode cL_nextTime 20 = .ok (.ireturn, 1) := by decide +kernel
theorem dL_nextTime_21 : decode cL_nextTime 21 = .ok (.iconst 0, 1) := by decide +kernel
theorem dL_nextTime_22 : decode cL_nextTime 22 = .ok (.ireturn, 1) := by decide +kernel
theorem dL_cluster_0 : decode cL_cluster 0 = .ok (.aload 4, 2) := by decide +kernel
theorem dL_cluster_2 : decode cL_cluster 2 = .ok (.iconst 0, 1) := by decide +kernel
theorem dL_cluster_3 : decode cL_cluster 3 = .ok (.aload_n 0, 1) := by decide +kernel
theorem dL_cluster_4 : decode cL_cluster 4 = .ok (.iload_n 1, 1) := by decide +kernel
theorem dL_cluster_5 : decode cL_cluster 5 = .ok (.iload_n 2, 1) := by decide +kernel
theorem dL_cluster_6 : decode cL_cluster 6 = .ok (.iload_n 3, 1) := by decide +kernel
theorem dL_cluster_7 : decode cL_cluster 7 = .ok (.invokevirtual 130, 3) := by decide +kernel
theorem dL_cluster_10 : decode cL_cluster 10 = .ok (.i2l, 1) := by decide +kernel
theorem dL_cluster_11 : decode cL_cluster 11 = .ok (.lastore, 1) := by decide +kernel
theorem dL_cluster_12 : decode cL_cluster 12 = .ok (.goto 11, 3) := by decide +kernel
theorem dL_cluster_15 : decode cL_cluster 15 = .ok (.astore 5, 2) := by decide +kernel
theorem dL_cluster_17 : decode cL_cluster 17 = .ok (.iconst 1, 1) := by decide +kernel
theorem dL_cluster_18 : decode cL_cluster 18 = .ok (.ireturn, 1) := by decide +kernel
theorem dL_cluster_19 : decode cL_cluster 19 = .ok (.astore 5, 2) := by decide +kernel
theorem dL_cluster_21 : decode cL_cluster 21 = .ok (.iconst 2, 1) := by decide +kernel
theorem dL_cluster_22 : decode cL_cluster 22 = .ok (.ireturn, 1) := by decide +kernel
theorem dL_cluster_23 : decode cL_cluster 23 = .ok (.iconst 0, 1) := by decide +kernel
theorem dL_cluster_24 : decode cL_cluster 24 = .ok (.ireturn, 1) := by decide +kernel
theorem dL_joinedAt_0 : decode cL_joinedAt 0 = .ok (.aload_n 3, 1) := by decide +kernel
theorem dL_joinedAt_1 : decode cL_joinedAt 1 = .ok (.iconst 0, 1) := by decide +kernel
theorem dL_joinedAt_2 : decode cL_joinedAt 2 = .ok (.aload_n 0, 1) := by decide +kernel
theorem dL_joinedAt_3 : decode cL_joinedAt 3 = .ok (.iload_n 1, 1) := by decide +kernel
theorem dL_joinedAt_4 : decode cL_joinedAt 4 = .ok (.iload_n 2, 1) := by decide +kernel
theorem dL_joinedAt_5 : decode cL_joinedAt 5 = .ok (.invokevirtual 133, 3) := by decide +kernel
theorem dL_joinedAt_8 : decode cL_joinedAt 8 = .ok (.i2l, 1) := by decide +kernel
theorem dL_joinedAt_9 : decode cL_joinedAt 9 = .ok (.lastore, 1) := by decide +kernel
theorem dL_joinedAt_10 : decode cL_joinedAt 10 = .ok (.goto 7, 3) := by decide +kernel
theorem dL_joinedAt_13 : decode cL_joinedAt 13 = .ok (.astore 4, 2) := by decide +kernel
theorem dL_joinedAt_15 : decode cL_joinedAt 15 = .ok (.iconst 1, 1) := by decide +kernel
theorem dL_joinedAt_16 : decode cL_joinedAt 16 = .ok (.ireturn, 1) := by decide +kernel
theorem dL_joinedAt_17 : decode cL_joinedAt 17 = .ok (.iconst 0, 1) := by decide +kernel
theorem dL_joinedAt_18 : decode cL_joinedAt 18 = .ok (.ireturn, 1) := by decide +kernel
theorem dL_centreDistance_0 : decode cL_centreDistance 0 = .ok (.aload_n 2, 1) := by decide +kernel
theorem dL_centreDistance_1 : decode cL_centreDistance 1 = .ok (.iconst 0, 1) := by decide +kernel
theorem dL_centreDistance_2 : decode cL_centreDistance 2 = .ok (.aload_n 0, 1) := by decide +kernel
theorem dL_centreDistance_3 : decode cL_centreDistance 3 = .ok (.iload_n 1, 1) := by decide +kernel
theorem dL_centreDistance_4 : decode cL_centreDistance 4 = .ok (.invokevirtual 136, 3) := by decide +kernel
theorem dL_centreDistance_7 : decode cL_centreDistance 7 = .ok (.i2l, 1) := by decide +kernel
theorem dL_centreDistance_8 : decode cL_centreDistance 8 = .ok (.lastore, 1) := by decide +kernel
theorem dL_centreDistance_9 : decode cL_centreDistance 9 = .ok (.goto 9, 3) := by decide +kernel
theorem dL_centreDistance_12 : decode cL_centreDistance 12 = .ok (.astore_n 3, 1) := by decide +kernel
theorem dL_centreDistance_13 : decode cL_centreDistance 13 = .ok (.iconst 1, 1) := by decide +kernel
theorem dL_centreDistance_14 : decode cL_centreDistance 14 = .ok (.ireturn, 1) := by decide +kernel
theorem dL_centreDistance_15 : decode cL_centreDistance 15 = .ok (.astore_n 3, 1) := by decide +kernel
theorem dL_centreDistance_16 : decode cL_centreDistance 16 = .ok (.iconst 2, 1) := by decide +kernel
theorem dL_centreDistance_17 : decode cL_centreDistance 17 = .ok (.ireturn, 1) := by decide +kernel
theorem dL_centreDistance_18 : decode cL_centreDistance 18 = .ok (.iconst 0, 1) := by decide +kernel
theorem dL_centreDistance_19 : decode cL_centreDistance 19 = .ok (.ireturn, 1) := by decide +kernel
theorem dL_centre_0 : decode cL_centre 0 = .ok (.aload_n 3, 1) := by decide +kernel
theorem dL_centre_1 : decode cL_centre 1 = .ok (.iconst 0, 1) := by decide +kernel
theorem dL_centre_2 : decode cL_centre 2 = .ok (.aload_n 0, 1) := by decide +kernel
theorem dL_centre_3 : decode cL_centre 3 = .ok (.iload_n 1, 1) := by decide +kernel
theorem dL_centre_4 : decode cL_centre 4 = .ok (.iload_n 2, 1) := by decide +kernel
theorem dL_centre_5 : decode cL_centre 5 = .ok (.invokevirtual 139, 3) := by decide +kernel
theorem dL_centre_8 : decode cL_centre 8 = .ok (.i2l, 1) := by decide +kernel
theorem dL_centre_9 : decode cL_centre 9 = .ok (.lastore, 1) := by decide +kernel
theorem dL_centre_10 : decode cL_centre 10 = .ok (.goto 11, 3) := by decide +kernel
theorem dL_centre_13 : decode cL_centre 13 = .ok (.astore 4, 2) := by decide +kernel
theorem dL_centre_15 : decode cL_centre 15 = .ok (.iconst 1, 1) := by decide +kernel
theorem dL_centre_16 : decode cL_centre 16 = .ok (.ireturn, 1) := by decide +kernel
theorem dL_centre_17 : decode cL_centre 17 = .ok (.astore 4, 2) := by decide +kernel
theorem dL_centre_19 : decode cL_centre 19 = .ok (.iconst 2, 1) := by decide +kernel
theorem dL_centre_20 : decode cL_centre 20 = .ok (.ireturn, 1) := by decide +kernel
theorem dL_centre_21 : decode cL_centre 21 = .ok (.iconst 0, 1) := by decide +kernel
theorem dL_centre_22 : decode cL_centre 22 = .ok (.ireturn, 1) := by decide +kernel
theorem dL_countDiscs_0 : decode cL_countDiscs 0 = .ok (.aload_n 2, 1) := by decide +kernel
theorem dL_countDiscs_1 : decode cL_countDiscs 1 = .ok (.iconst 0, 1) := by decide +kernel
theorem dL_countDiscs_2 : decode cL_countDiscs 2 = .ok (.aload_n 0, 1) := by decide +kernel
theorem dL_countDiscs_3 : decode cL_countDiscs 3 = .ok (.iload_n 1, 1) := by decide +kernel
theorem dL_countDiscs_4 : decode cL_countDiscs 4 = .ok (.invokevirtual 142, 3) := by decide +kernel
theorem dL_countDiscs_7 : decode cL_countDiscs 7 = .ok (.i2l, 1) := by decide +kernel
theorem dL_countDiscs_8 : decode cL_countDiscs 8 = .ok (.lastore, 1) := by decide +kernel
theorem dL_countDiscs_9 : decode cL_countDiscs 9 = .ok (.goto 6, 3) := by decide +kernel
theorem dL_countDiscs_12 : decode cL_countDiscs 12 = .ok (.astore_n 3, 1) := by decide +kernel
theorem dL_countDiscs_13 : decode cL_countDiscs 13 = .ok (.iconst 1, 1) := by decide +kernel
theorem dL_countDiscs_14 : decode cL_countDiscs 14 = .ok (.ireturn, 1) := by decide +kernel
theorem dL_countDiscs_15 : decode cL_countDiscs 15 = .ok (.iconst 0, 1) := by decide +kernel
theorem dL_countDiscs_16 : decode cL_countDiscs 16 = .ok (.ireturn, 1) := by decide +kernel
theorem dL_getHullShare_0 : decode cL_getHullShare 0 = .ok (.aload_n 1, 1) := by decide +kernel
theorem dL_getHullShare_1 : decode cL_getHullShare 1 = .ok (.iconst 0, 1) := by decide +kernel
theorem dL_getHullShare_2 : decode cL_getHullShare 2 = .ok (.aload_n 0, 1) := by decide +kernel
theorem dL_getHullShare_3 : decode cL_getHullShare 3 = .ok (.invokevirtual 145, 3) := by decide +kernel
theorem dL_getHullShare_6 : decode cL_getHullShare 6 = .ok (.f2d, 1) := by decide +kernel
theorem dL_getHullShare_7 : decode cL_getHullShare 7 = .ok (.dastore, 1) := by decide +kernel
theorem dL_getHullShare_8 : decode cL_getHullShare 8 = .ok (.goto 6, 3) := by decide +kernel
theorem dL_getHullShare_11 : decode cL_getHullShare 11 = .ok (.astore_n 2, 1) := by decide +kernel
theorem dL_getHullShare_12 : decode cL_getHullShare 12 = .ok (.iconst 1, 1) := by decide +kernel
theorem dL_getHullShare_13 : decode cL_getHullShare 13 = .ok (.ireturn, 1) := by decide +kernel
theorem dL_getHullShare_14 : decode cL_getHullShare 14 = .ok (.iconst 0, 1) := by decide +kernel
theorem dL_getHullShare_15 : decode cL_getHullShare 15 = .ok (.ireturn, 1) := by decide +kernel
theorem dL_getMeanNeighbours_0 : decode cL_getMeanNeighbours 0 = .ok (.aload_n 1, 1) := by decide +kernel
theorem dL_getMeanNeighbours_1 : decode cL_getMeanNeighbours 1 = .ok (.iconst 0, 1) := by decide +kernel
theorem dL_getMeanNeighbours_2 : decode cL_getMeanNeighbours 2 = .ok (.aload_n 0, 1) := by decide +kernel
theorem dL_getMeanNeighbours_3 : decode cL_getMeanNeighbours 3 = .ok (.invokevirtual 151, 3) := by decide +kernel
theorem dL_getMeanNeighbours_6 : decode cL_getMeanNeighbours 6 = .ok (.dastore, 1) := by decide +kernel
theorem dL_getMeanNeighbours_7 : decode cL_getMeanNeighbours 7 = .ok (.goto 6, 3) := by decide +kernel
theorem dL_getMeanNeighbours_10 : decode cL_getMeanNeighbours 10 = .ok (.astore_n 2, 1) := by decide +kernel
theorem dL_getMeanNeighbours_11 : decode cL_getMeanNeighbours 11 = .ok (.iconst 1, 1) := by decide +kernel
theorem dL_getMeanNeighbours_12 : decode cL_getMeanNeighbours 12 = .ok (.ireturn, 1) := by decide +kernel
theorem dL_getMeanNeighbours_13 : decode cL_getMeanNeighbours 13 = .ok (.iconst 0, 1) := by decide +kernel
theorem dL_getMeanNeighbours_14 : decode cL_getMeanNeighbours 14 = .ok (.ireturn, 1) := by decide +kernel

theorem dMO_interest_128 : decode bMO_interest 128 = .ok (.lmul, 1) := by decide +kernel
theorem dMO_interest_129 : decode bMO_interest 129 = .ok (.lstore 7, 2) := by decide +kernel
theorem dMO_interest_131 : decode bMO_interest 131 = .ok (.ldc2_w 123, 3) := by decide +kernel
theorem dMO_interest_134 : decode bMO_interest 134 = .ok (.aload_n 0, 1) := by decide +kernel
theorem dMO_interest_135 : decode bMO_interest 135 = .ok (.getfield 7, 3) := by decide +kernel
theorem dMO_interest_138 : decode bMO_interest 138 = .ok (.bipush 6, 2) := by decide +kernel
theorem dMO_interest_140 : decode bMO_interest 140 = .ok (.laload, 1) := by decide +kernel
theorem dMO_interest_141 : decode bMO_interest 141 = .ok (.lmul, 1) := by decide +kernel
theorem dMO_interest_142 : decode bMO_interest 142 = .ok (.lstore 9, 2) := by decide +kernel
theorem dMO_interest_144 : decode bMO_interest 144 = .ok (.iload 4, 2) := by decide +kernel
theorem dMO_interest_146 : decode bMO_interest 146 = .ok (.iconst 2, 1) := by decide +kernel
theorem dMO_interest_147 : decode bMO_interest 147 = .ok (.if_icmp .ge 15, 3) := by decide +kernel
theorem dMO_interest_150 : decode bMO_interest 150 = .ok (.lload 7, 2) := by decide +kernel
theorem dMO_interest_152 : decode bMO_interest 152 = .ok (.lload 9, 2) := by decide +kernel
theorem dMO_interest_154 : decode bMO_interest 154 = .ok (.iload 4, 2) := by decide +kernel
theorem dMO_interest_156 : decode bMO_interest 156 = .ok (.invokestatic 107, 3) := by decide +kernel
theorem dMO_interest_159 : decode bMO_interest 159 = .ok (.goto 19, 3) := by decide +kernel
theorem dMO_interest_162 : decode bMO_interest 162 = .ok (.ldc2_w 125, 3) := by decide +kernel
theorem dMO_interest_165 : decode bMO_interest 165 = .ok (.lload 7, 2) := by decide +kernel
theorem dMO_interest_167 : decode bMO_interest 167 = .ok (.lmul, 1) := by decide +kernel
theorem dMO_interest_168 : decode bMO_interest 168 = .ok (.lload 9, 2) := by decide +kernel
theorem dMO_interest_170 : decode bMO_interest 170 = .ok (.ladd, 1) := by decide +kernel
theorem dMO_interest_171 : decode bMO_interest 171 = .ok (.ldc2_w 125, 3) := by decide +kernel
theorem dMO_interest_174 : decode bMO_interest 174 = .ok (.lload 9, 2) := by decide +kernel
theorem dMO_interest_176 : decode bMO_interest 176 = .ok (.lmul, 1) := by decide +kernel
theorem dMO_interest_177 : decode bMO_interest 177 = .ok (.ldiv, 1) := by decide +kernel
theorem dMO_interest_178 : decode bMO_interest 178 = .ok (.lreturn, 1) := by decide +kernel
theorem dMO_isAccount_0 : decode bMO_isAccount 0 = .ok (.iload_n 1, 1) := by decide +kernel
theorem dMO_isAccount_1 : decode bMO_isAccount 1 = .ok (.ifCond .lt 19, 3) := by decide +kernel
theorem dMO_isAccount_4 : decode bMO_isAccount 4 = .ok (.iload_n 1, 1) := by decide +kernel
theorem dMO_isAccount_5 : decode bMO_isAccount 5 = .ok (.i2l, 1) := by decide +kernel
theorem dMO_isAccount_6 : decode bMO_isAccount 6 = .ok (.aload_n 0, 1) := by decide +kernel
theorem dMO_isAccount_7 : decode bMO_isAccount 7 = .ok (.getfield 7, 3) := by decide +kernel
theorem dMO_isAccount_10 : decode bMO_isAccount 10 = .ok (.iconst 0, 1) := by decide +kernel
theorem dMO_isAccount_11 : decode bMO_isAccount 11 = .ok (.laload, 1) := by decide +kernel
theorem dMO_isAccount_12 : decode bMO_isAccount 12 = .ok (.lcmp, 1) := by decide +kernel
theorem dMO_isAccount_13 : decode bMO_isAccount 13 = .ok (.ifCond .ge 7, 3) := by decide +kernel
theorem dMO_isAccount_16 : decode bMO_isAccount 16 = .ok (.iconst 1, 1) := by decide +kernel
theorem dMO_isAccount_17 : decode bMO_isAccount 17 = .ok (.goto 4, 3) := by decide +kernel
theorem dMO_isAccount_20 : decode bMO_isAccount 20 = .ok (.iconst 0, 1) := by decide +kernel
theorem dMO_isAccount_21 : decode bMO_isAccount 21 = .ok (.ireturn, 1) := by decide +kernel
theorem dMO_isBefore_0 : decode bMO_isBefore 0 = .ok (.aload_n 0, 1) := by decide +kernel
theorem dMO_isBefore_1 : decode bMO_isBefore 1 = .ok (.getfield 7, 3) := by decide +kernel
theorem dMO_isBefore_4 : decode bMO_isBefore 4 = .ok (.bipush 100, 2) := by decide +kernel
theorem dMO_isBefore_6 : decode bMO_isBefore 6 = .ok (.iload_n 1, 1) := by decide +kernel
theorem dMO_isBefore_7 : decode bMO_isBefore 7 = .ok (.bipush 6, 2) := by decide +kernel
theorem dMO_isBefore_9 : decode bMO_isBefore 9 = .ok (.idiv, 1) := by decide +kernel
theorem dMO_isBefore_10 : decode bMO_isBefore 10 = .ok (.iadd, 1) := by decide +kernel
theorem dMO_isBefore_11 : decode bMO_isBefore 11 = .ok (.laload, 1) := by decide +kernel
theorem dMO_isBefore_12 : decode bMO_isBefore 12 = .ok (.lstore_n 3, 1) := by decide +kernel
theorem dMO_isBefore_13 : decode bMO_isBefore 13 = .ok (.aload_n 0, 1) := by decide +kernel
theorem dMO_isBefore_14 : decode bMO_isBefore 14 = .ok (.getfield 7, 3) := by decide +kernel
theorem dMO_isBefore_17 : decode bMO_isBefore 17 = .ok (.bipush 100, 2) := by decide +kernel
theorem dMO_isBefore_19 : decode bMO_isBefore 19 = .ok (.iload_n 2, 1) := by decide +kernel
theorem dMO_isBefore_20 : decode bMO_isBefore 20 = .ok (.bipush 6, 2) := by decide +kernel
theorem dMO_isBefore_22 : decode bMO_isBefore 22 = .ok (.idiv, 1) := by decide +kernel
theorem dMO_isBefore_23 : decode bMO_isBefore 23 = .ok (.iadd, 1) := by decide +kernel
theorem dMO_isBefore_24 : decode bMO_isBefore 24 = .ok (.laload, 1) := by decide +kernel
theorem dMO_isBefore_25 : decode bMO_isBefore 25 = .ok (.lstore 5, 2) := by decide +kernel
theorem dMO_isBefore_27 : decode bMO_isBefore 27 = .ok (.lload_n 3, 1) := by decide +kernel
theorem dMO_isBefore_28 : decode bMO_isBefore 28 = .ok (.lload 5, 2) := by decide +kernel
theorem dMO_isBefore_30 : decode bMO_isBefore 30 = .ok (.lcmp, 1) := by decide +kernel
theorem dMO_isBefore_31 : decode bMO_isBefore 31 = .ok (.ifCond .eq 18, 3) := by decide +kernel
theorem dMO_isBefore_34 : decode bMO_isBefore 34 = .ok (.lload_n 3, 1) := by decide +kernel
theorem dMO_isBefore_35 : decode bMO_isBefore 35 = .ok (.lload 5, 2) := by decide +kernel
theorem dMO_isBefore_37 : decode bMO_isBefore 37 = .ok (.lcmp, 1) := by decide +kernel
theorem dMO_isBefore_38 : decode bMO_isBefore 38 = .ok (.ifCond .ge 7, 3) := by decide +kernel
theorem dMO_isBefore_41 : decode bMO_isBefore 41 = .ok (.iconst 1, 1) := by decide +kernel
theorem dMO_isBefore_42 : decode bMO_isBefore 42 = .ok (.goto 17, 3) := by decide +kernel
theorem dMO_isBefore_45 : decode bMO_isBefore 45 = .ok (.iconst 0, 1) := by decide +kernel
theorem dMO_isBefore_46 : decode bMO_isBefore 46 = .ok (.goto 13, 3) := by decide +kernel
theorem dMO_isBefore_49 : decode bMO_isBefore 49 = .ok (.iload_n 1, 1) := by decide +kernel
theorem dMO_isBefore_50 : decode bMO_isBefore 50 = .ok (.iload_n 2, 1) := by decide +kernel
theorem dMO_isBefore_51 : decode bMO_isBefore 51 = .ok (.if_icmp .ge 7, 3) := by decide +kernel
theorem dMO_isBefore_54 : decode bMO_isBefore 54 = .ok (.iconst 1, 1) := by decide +kernel
theorem dMO_isBefore_55 : decode bMO_isBefore 55 = .ok (.goto 4, 3) := by decide +kernel
theorem dMO_isBefore_58 : decode bMO_isBefore 58 = .ok (.iconst 0, 1) := by decide +kernel
theorem dMO_isBefore_59 : decode bMO_isBefore 59 = .ok (.ireturn, 1) := by decide +kernel
theorem dMO_isDay_0 : decode bMO_isDay 0 = .ok (.lload_n 0, 1) := by decide +kernel
theorem dMO_isDay_1 : decode bMO_isDay 1 = .ok (.lconst 0, 1) := by decide +kernel
theorem dMO_isDay_2 : decode bMO_isDay 2 = .ok (.ldc2_w 24, 3) := by decide +kernel
theorem dMO_isDay_5 : decode bMO_isDay 5 = .ok (.invokestatic 26, 3) := by decide +kernel
theorem dMO_isDay_8 : decode bMO_isDay 8 = .ok (.ireturn, 1) := by decide +kernel
theorem dMO_isEntry_0 : decode bMO_isEntry 0 = .ok (.iload_n 1, 1) := by decide +kernel
theorem dMO_isEntry_1 : decode bMO_isEntry 1 = .ok (.ifCond .lt 19, 3) := by decide +kernel
theorem dMO_isEntry_4 : decode bMO_isEntry 4 = .ok (.iload_n 1, 1) := by decide +kernel
theorem dMO_isEntry_5 : decode bMO_isEntry 5 = .ok (.i2l, 1) := by decide +kernel
theorem dMO_isEntry_6 : decode bMO_isEntry 6 = .ok (.aload_n 0, 1) := by decide +kernel
theorem dMO_isEntry_7 : decode bMO_isEntry 7 = .ok (.getfield 7, 3) := by decide +kernel
theorem dMO_isEntry_10 : decode bMO_isEntry 10 = .ok (.iconst 1, 1) := by decide +kernel
theorem dMO_isEntry_11 : decode bMO_isEntry 11 = .ok (.laload, 1) := by decide +kernel
theorem dMO_isEntry_12 : decode bMO_isEntry 12 = .ok (.lcmp, 1) := by decide +kernel
theorem dMO_isEntry_13 : decode bMO_isEntry 13 = .ok (.ifCond .ge 7, 3) := by decide +kernel
theorem dMO_isEntry_16 : decode bMO_isEntry 16 = .ok (.iconst 1, 1) := by decide +kernel
theorem dMO_isEntry_17 : decode bMO_isEntry 17 = .ok (.goto 4, 3) := by decide +kernel
theorem dMO_isEntry_20 : decode bMO_isEntry 20 = .ok (.iconst 0, 1) := by decide +kernel
theorem dMO_isEntry_21 : decode bMO_isEntry 21 = .ok (.ireturn, 1) := by decide +kernel
theorem dMO_isHousehold_0 : decode bMO_isHousehold 0 = .ok (.aload_n 0, 1) := by decide +kernel
theorem dMO_isHousehold_1 : decode bMO_isHousehold 1 = .ok (.iload_n 1, 1) := by decide +kernel
theorem dMO_isHousehold_2 : decode bMO_isHousehold 2 = .ok (.invokevirtual 20, 3) := by decide +kernel
theorem dMO_isHousehold_5 : decode bMO_isHousehold 5 = .ok (.ifCond .eq 21, 3) := by decide +kernel
theorem dMO_isHousehold_8 : decode bMO_isHousehold 8 = .ok (.aload_n 0, 1) := by decide +kernel
theorem dMO_isHousehold_9 : decode bMO_isHousehold 9 = .ok (.getfield 7, 3) := by decide +kernel
theorem dMO_isHousehold_12 : decode bMO_isHousehold 12 = .ok (.bipush 10, 2) := by decide +kernel
theorem dMO_isHousehold_14 : decode bMO_isHousehold 14 = .ok (.iload_n 1, 1) := by decide +kernel
theorem dMO_isHousehold_15 : decode bMO_isHousehold 15 = .ok (.iadd, 1) := by decide +kernel
theorem dMO_isHousehold_16 : decode bMO_isHousehold 16 = .ok (.laload, 1) := by decide +kernel
theorem dMO_isHousehold_17 : decode bMO_isHousehold 17 = .ok (.lconst 1, 1) := by decide +kernel
theorem dMO_isHousehold_18 : decode bMO_isHousehold 18 = .ok (.lcmp, 1) := by decide +kernel
theorem dMO_isHousehold_19 : decode bMO_isHousehold 19 = .ok (.ifCond .ne 7, 3) := by decide +kernel
theorem dMO_isHousehold_22 : decode bMO_isHousehold 22 = .ok (.iconst 1, 1) := by decide +kernel
theorem dMO_isHousehold_23 : decode bMO_isHousehold 23 = .ok (.goto 4, 3) := by decide +kernel
theorem dMO_isHousehold_26 : decode bMO_isHousehold 26 = .ok (.iconst 0, 1) := by decide +kernel
theorem dMO_isHousehold_27 : decode bMO_isHousehold 27 = .ok (.ireturn, 1) := by decide +kernel
theorem dMO_isIn_0 : decode bMO_isIn 0 = .ok (.lload_n 0, 1) := by decide +kernel
theorem dMO_isIn_1 : decode bMO_isIn 1 = .ok (.lload_n 2, 1) := by decide +kernel
theorem dMO_isIn_2 : decode bMO_isIn 2 = .ok (.lcmp, 1) := by decide +kernel
theorem dMO_isIn_3 : decode bMO_isIn 3 = .ok (.ifCond .lt 14, 3) := by decide +kernel
theorem dMO_isIn_6 : decode bMO_isIn 6 = .ok (.lload_n 0, 1) := by decide +kernel
theorem dMO_isIn_7 : decode bMO_isIn 7 = .ok (.lload 4, 2) := by decide +kernel
theorem dMO_isIn_9 : decode bMO_isIn 9 = .ok (.lcmp, 1) := by decide +kernel
theorem dMO_isIn_10 : decode bMO_isIn 10 = .ok (.ifCond .gt 7, 3) := by decide +kernel
theorem dMO_isIn_13 : decode bMO_isIn 13 = .ok (.iconst 1, 1) := by decide +kernel
theorem dMO_isIn_14 : decode bMO_isIn 14 = .ok (.goto 4, 3) := by decide +kernel
theorem dMO_isIn_17 : decode bMO_isIn 17 = .ok (.iconst 0, 1) := by decide +kernel
theorem dMO_isIn_18 : decode bMO_isIn 18 = .ok (.ireturn, 1) := by decide +kernel
theorem dMO_isItem_0 : decode bMO_isItem 0 = .ok (.bipush 6, 2) := by decide +kernel
theorem dMO_isItem_2 : decode bMO_isItem 2 = .ok (.iload_n 1, 1) := by decide +kernel
theorem dMO_isItem_3 : decode bMO_isItem 3 = .ok (.imul, 1) := by decide +kernel
theorem dMO_isItem_4 : decode bMO_isItem 4 = .ok (.iload_n 2, 1) := by decide +kernel
theorem dMO_isItem_5 : decode bMO_isItem 5 = .ok (.iadd, 1) := by decide +kernel
theorem dMO_isItem_6 : decode bMO_isItem 6 = .ok (.istore_n 3, 1) := by decide +kernel
theorem dMO_isItem_7 : decode bMO_isItem 7 = .ok (.iload_n 2, 1) := by decide +kernel
theorem dMO_isItem_8 : decode bMO_isItem 8 = .ok (.i2l, 1) := by decide +kernel
theorem dMO_isItem_9 : decode bMO_isItem 9 = .ok (.aload_n 0, 1) := by decide +kernel
theorem dMO_isItem_10 : decode bMO_isItem 10 = .ok (.getfield 7, 3) := by decide +kernel
theorem dMO_isItem_13 : decode bMO_isItem 13 = .ok (.sipush 260, 3) := by decide +kernel
theorem dMO_isItem_16 : decode bMO_isItem 16 = .ok (.iload_n 1, 1) := by decide +kernel
theorem dMO_isItem_17 : decode bMO_isItem 17 = .ok (.iadd, 1) := by decide +kernel
theorem dMO_isItem_18 : decode bMO_isItem 18 = .ok (.laload, 1) := by decide +kernel
theorem dMO_isItem_19 : decode bMO_isItem 19 = .ok (.lcmp, 1) := by decide +kernel
theorem dMO_isItem_20 : decode bMO_isItem 20 = .ok (.ifCond .ge 76, 3) := by decide +kernel
theorem dMO_isItem_23 : decode bMO_isItem 23 = .ok (.aload_n 0, 1) := by decide +kernel
theorem dMO_isItem_24 : decode bMO_isItem 24 = .ok (.getfield 7, 3) := by decide +kernel
theorem dMO_isItem_27 : decode bMO_isItem 27 = .ok (.sipush 140, 3) := by decide +kernel
theorem dMO_isItem_30 : decode bMO_isItem 30 = .ok (.iload_n 1, 1) := by decide +kernel
theorem dMO_isItem_31 : decode bMO_isItem 31 = .ok (.iadd, 1) := by decide +kernel
theorem dMO_isItem_32 : decode bMO_isItem 32 = .ok (.laload, 1) := by decide +kernel
theorem dMO_isItem_33 : decode bMO_isItem 33 = .ok (.lconst 0, 1) := by decide +kernel
theorem dMO_isItem_34 : decode bMO_isItem 34 = .ok (.lcmp, 1) := by decide +kernel
theorem dMO_isItem_35 : decode bMO_isItem 35 = .ok (.ifCond .le 61, 3) := by decide +kernel
theorem dMO_isItem_38 : decode bMO_isItem 38 = .ok (.aload_n 0, 1) := by decide +kernel
theorem dMO_isItem_39 : decode bMO_isItem 39 = .ok (.getfield 7, 3) := by decide +kernel
theorem dMO_isItem_42 : decode bMO_isItem 42 = .ok (.sipush 180, 3) := by decide +kernel
theorem dMO_isItem_45 : decode bMO_isItem 45 = .ok (.iload_n 1, 1) := by decide +kernel
theorem dMO_isItem_46 : decode bMO_isItem 46 = .ok (.iadd, 1) := by decide +kernel
theorem dMO_isItem_47 : decode bMO_isItem 47 = .ok (.laload, 1) := by decide +kernel
theorem dMO_isItem_48 : decode bMO_isItem 48 = .ok (.lconst 0, 1) := by decide +kernel
theorem dMO_isItem_49 : decode bMO_isItem 49 = .ok (.lcmp, 1) := by decide +kernel
theorem dMO_isItem_50 : decode bMO_isItem 50 = .ok (.ifCond .ne 46, 3) := by decide +kernel
theorem dMO_isItem_53 : decode bMO_isItem 53 = .ok (.aload_n 0, 1) := by decide +kernel
theorem dMO_isItem_54 : decode bMO_isItem 54 = .ok (.getfield 7, 3) := by decide +kernel
theorem dMO_isItem_57 : decode bMO_isItem 57 = .ok (.sipush 540, 3) := by decide +kernel
theorem dMO_isItem_60 : decode bMO_isItem 60 = .ok (.iload_n 3, 1) := by decide +kernel
theorem dMO_isItem_61 : decode bMO_isItem 61 = .ok (.iadd, 1) := by decide +kernel
theorem dMO_isItem_62 : decode bMO_isItem 62 = .ok (.laload, 1) := by decide +kernel
theorem dMO_isItem_63 : decode bMO_isItem 63 = .ok (.lconst 0, 1) := by decide +kernel
theorem dMO_isItem_64 : decode bMO_isItem 64 = .ok (.lcmp, 1) := by decide +kernel
theorem dMO_isItem_65 : decode bMO_isItem 65 = .ok (.ifCond .le 31, 3) := by decide +kernel
theorem dMO_isItem_68 : decode bMO_isItem 68 = .ok (.aload_n 0, 1) := by decide +kernel
theorem dMO_isItem_69 : decode bMO_isItem 69 = .ok (.getfield 7, 3) := by decide +kernel
theorem dMO_isItem_72 : decode bMO_isItem 72 = .ok (.bipush 10, 2) := by decide +kernel
theorem dMO_isItem_74 : decode bMO_isItem 74 = .ok (.aload_n 0, 1) := by decide +kernel
theorem dMO_isItem_75 : decode bMO_isItem 75 = .ok (.getfield 7, 3) := by decide +kernel
theorem dMO_isItem_78 : decode bMO_isItem 78 = .ok (.sipush 300, 3) := by decide +kernel
theorem dMO_isItem_81 : decode bMO_isItem 81 = .ok (.iload_n 3, 1) := by decide +kernel
theorem dMO_isItem_82 : decode bMO_isItem 82 = .ok (.iadd, 1) := by decide +kernel
theorem dMO_isItem_83 : decode bMO_isItem 83 = .ok (.laload, 1) := by decide +kernel
theorem dMO_isItem_84 : decode bMO_isItem 84 = .ok (.l2i, 1) := by decide +kernel
theorem dMO_isItem_85 : decode bMO_isItem 85 = .ok (.iadd, 1) := by decide +kernel
theorem dMO_isItem_86 : decode bMO_isItem 86 = .ok (.laload, 1) := by decide +kernel
theorem dMO_isItem_87 : decode bMO_isItem 87 = .ok (.lconst 1, 1) := by decide +kernel
theorem dMO_isItem_88 : decode bMO_isItem 88 = .ok (.lcmp, 1) := by decide +kernel
theorem dMO_isItem_89 : decode bMO_isItem 89 = .ok (.ifCond .ne 7, 3) := by decide +kernel
theorem dMO_isItem_92 : decode bMO_isItem 92 = .ok (.iconst 1, 1) := by decide +kernel
theorem dMO_isItem_93 : decode bMO_isItem 93 = .ok (.goto 4, 3) := by decide +kernel
theorem dMO_isItem_96 : decode bMO_isItem 96 = .ok (.iconst 0, 1) := by decide +kernel
theorem dMO_isItem_97 : decode bMO_isItem 97 = .ok (.ireturn, 1) := by decide +kernel
theorem dMO_isItemOf_0 : decode bMO_isItemOf 0 = .ok (.aload_n 0, 1) := by decide +kernel
theorem dMO_isItemOf_1 : decode bMO_isItemOf 1 = .ok (.iload_n 1, 1) := by decide +kernel
theorem dMO_isItemOf_2 : decode bMO_isItemOf 2 = .ok (.bipush 6, 2) := by decide +kernel
theorem dMO_isItemOf_4 : decode bMO_isItemOf 4 = .ok (.idiv, 1) := by decide +kernel
theorem dMO_isItemOf_5 : decode bMO_isItemOf 5 = .ok (.iload_n 1, 1) := by decide +kernel
theorem dMO_isItemOf_6 : decode bMO_isItemOf 6 = .ok (.bipush 6, 2) := by decide +kernel
theorem dMO_isItemOf_8 : decode bMO_isItemOf 8 = .ok (.irem, 1) := by decide +kernel
theorem dMO_isItemOf_9 : decode bMO_isItemOf 9 = .ok (.invokevirtual 60, 3) := by decide +kernel
theorem dMO_isItemOf_12 : decode bMO_isItemOf 12 = .ok (.ifCond .eq 23, 3) := by decide +kernel
theorem dMO_isItemOf_15 : decode bMO_isItemOf 15 = .ok (.aload_n 0, 1) := by decide +kernel
theorem dMO_isItemOf_16 : decode bMO_isItemOf 16 = .ok (.getfield 7, 3) := by decide +kernel
theorem dMO_isItemOf_19 : decode bMO_isItemOf 19 = .ok (.sipush 300, 3) := by decide +kernel
theorem dMO_isItemOf_22 : decode bMO_isItemOf 22 = .ok (.iload_n 1, 1) := by decide +kernel
theorem dMO_isItemOf_23 : decode bMO_isItemOf 23 = .ok (.iadd, 1) := by decide +kernel
theorem dMO_isItemOf_24 : decode bMO_isItemOf 24 = .ok (.laload, 1) := by decide +kernel
theorem dMO_isItemOf_25 : decode bMO_isItemOf 25 = .ok (.iload_n 2, 1) := by decide +kernel
theorem dMO_isItemOf_26 : decode bMO_isItemOf 26 = .ok (.i2l, 1) := by decide +kernel
theorem dMO_isItemOf_27 : decode bMO_isItemOf 27 = .ok (.lcmp, 1) := by decide +kernel
theorem dMO_isItemOf_28 : decode bMO_isItemOf 28 = .ok (.ifCond .ne 7, 3) := by decide +kernel
theorem dMO_isItemOf_31 : decode bMO_isItemOf 31 = .ok (.iconst 1, 1) := by decide +kernel
theorem dMO_isItemOf_32 : decode bMO_isItemOf 32 = .ok (.goto 4, 3) := by decide +kernel
theorem dMO_isItemOf_35 : decode bMO_isItemOf 35 = .ok (.iconst 0, 1) := by decide +kernel
theorem dMO_isItemOf_36 : decode bMO_isItemOf 36 = .ok (.ireturn, 1) := by decide +kernel
theorem dMO_isLate_0 : decode bMO_isLate 0 = .ok (.lload_n 1, 1) := by decide +kernel
theorem dMO_isLate_1 : decode bMO_isLate 1 = .ok (.ldc2_w 30, 3) := by decide +kernel
theorem dMO_isLate_4 : decode bMO_isLate 4 = .ok (.ldiv, 1) := by decide +kernel
theorem dMO_isLate_5 : decode bMO_isLate 5 = .ok (.aload_n 0, 1) := by decide +kernel
theorem dMO_isLate_6 : decode bMO_isLate 6 = .ok (.getfield 7, 3) := by decide +kernel
theorem dMO_isLate_9 : decode bMO_isLate 9 = .ok (.iconst 2, 1) := by decide +kernel
theorem dMO_isLate_10 : decode bMO_isLate 10 = .ok (.laload, 1) := by decide +kernel
theorem dMO_isLate_11 : decode bMO_isLate 11 = .ok (.lcmp, 1) := by decide +kernel
theorem dMO_isLate_12 : decode bMO_isLate 12 = .ok (.ifCond .ge 7, 3) := by decide +kernel
theorem dMO_isLate_15 : decode bMO_isLate 15 = .ok (.iconst 1, 1) := by decide +kernel
theorem dMO_isLate_16 : decode bMO_isLate 16 = .ok (.goto 4, 3) := by decide +kernel
theorem dMO_isLate_19 : decode bMO_isLate 19 = .ok (.iconst 0, 1) := by decide +kernel
theorem dMO_isLate_20 : decode bMO_isLate 20 = .ok (.ireturn, 1) := by decide +kernel
theorem dMO_isPaid_0 : decode bMO_isPaid 0 = .ok (.iconst 0, 1) := by decide +kernel
theorem dMO_isPaid_1 : decode bMO_isPaid 1 = .ok (.istore_n 2, 1) := by decide +kernel
theorem dMO_isPaid_2 : decode bMO_isPaid 2 = .ok (.iconst 0, 1) := by decide +kernel
theorem dMO_isPaid_3 : decode bMO_isPaid 3 = .ok (.istore_n 3, 1) := by decide +kernel
theorem dMO_isPaid_4 : decode bMO_isPaid 4 = .ok (.iload_n 3, 1) := by decide +kernel
theorem dMO_isPaid_5 : decode bMO_isPaid 5 = .ok (.i2l, 1) := by decide +kernel
theorem dMO_isPaid_6 : decode bMO_isPaid 6 = .ok (.aload_n 0, 1) := by decide +kernel
theorem dMO_isPaid_7 : decode bMO_isPaid 7 = .ok (.getfield 7, 3) := by decide +kernel
theorem dMO_isPaid_10 : decode bMO_isPaid 10 = .ok (.sipush 260, 3) := by decide +kernel
theorem dMO_isPaid_13 : decode bMO_isPaid 13 = .ok (.iload_n 1, 1) := by decide +kernel
theorem dMO_isPaid_14 : decode bMO_isPaid 14 = .ok (.iadd, 1) := by decide +kernel
theorem dMO_isPaid_15 : decode bMO_isPaid 15 = .ok (.laload, 1) := by decide +kernel
theorem dMO_isPaid_16 : decode bMO_isPaid 16 = .ok (.lcmp, 1) := by decide +kernel
theorem dMO_isPaid_17 : decode bMO_isPaid 17 = .ok (.ifCond .ge 62, 3) := by decide +kernel
theorem dMO_isPaid_20 : decode bMO_isPaid 20 = .ok (.iload_n 2, 1) := by decide +kernel
theorem dMO_isPaid_21 : decode bMO_isPaid 21 = .ok (.ifCond .ne 46, 3) := by decide +kernel
theorem dMO_isPaid_24 : decode bMO_isPaid 24 = .ok (.aload_n 0, 1) := by decide +kernel
theorem dMO_isPaid_25 : decode bMO_isPaid 25 = .ok (.iload_n 1, 1) := by decide +kernel
theorem dMO_isPaid_26 : decode bMO_isPaid 26 = .ok (.iload_n 3, 1) := by decide +kernel
theorem dMO_isPaid_27 : decode bMO_isPaid 27 = .ok (.invokevirtual 60, 3) := by decide +kernel
theorem dMO_isPaid_30 : decode bMO_isPaid 30 = .ok (.ifCond .eq 41, 3) := by decide +kernel
theorem dMO_isPaid_33 : decode bMO_isPaid 33 = .ok (.aload_n 0, 1) := by decide +kernel
theorem dMO_isPaid_34 : decode bMO_isPaid 34 = .ok (.getfield 7, 3) := by decide +kernel
theorem dMO_isPaid_37 : decode bMO_isPaid 37 = .ok (.sipush 780, 3) := by decide +kernel
theorem dMO_isPaid_40 : decode bMO_isPaid 40 = .ok (.bipush 6, 2) := by decide +kernel
theorem dMO_isPaid_42 : decode bMO_isPaid 42 = .ok (.iload_n 1, 1) := by decide +kernel
theorem dMO_isPaid_43 : decode bMO_isPaid 43 = .ok (.imul, 1) := by decide +kernel
theorem dMO_isPaid_44 : decode bMO_isPaid 44 = .ok (.iadd, 1) := by decide +kernel
theorem dMO_isPaid_45 : decode bMO_isPaid 45 = .ok (.iload_n 3, 1) := by decide +kernel
theorem dMO_isPaid_46 : decode bMO_isPaid 46 = .ok (.iadd, 1) := by decide +kernel
theorem dMO_isPaid_47 : decode bMO_isPaid 47 = .ok (.laload, 1) := by decide +kernel
theorem dMO_isPaid_48 : decode bMO_isPaid 48 = .ok (.aload_n 0, 1) := by decide +kernel
theorem dMO_isPaid_49 : decode bMO_isPaid 49 = .ok (.getfield 7, 3) := by decide +kernel
theorem dMO_isPaid_52 : decode bMO_isPaid 52 = .ok (.sipush 540, 3) := by decide +kernel
theorem dMO_isPaid_55 : decode bMO_isPaid 55 = .ok (.bipush 6, 2) := by decide +kernel
theorem dMO_isPaid_57 : decode bMO_isPaid 57 = .ok (.iload_n 1, 1) := by decide +kernel
theorem dMO_isPaid_58 : decode bMO_isPaid 58 = .ok (.imul, 1) := by decide +kernel
theorem dMO_isPaid_59 : decode bMO_isPaid 59 = .ok (.iadd, 1) := by decide +kernel
theorem dMO_isPaid_60 : decode bMO_isPaid 60 = .ok (.iload_n 3, 1) := by decide +kernel
theorem dMO_isPaid_61 : decode bMO_isPaid 61 = .ok (.iadd, 1) := by decide +kernel
theorem dMO_isPaid_62 : decode bMO_isPaid 62 = .ok (.laload, 1) := by decide +kernel
theorem dMO_isPaid_63 : decode bMO_isPaid 63 = .ok (.lcmp, 1) := by decide +kernel
theorem dMO_isPaid_64 : decode bMO_isPaid 64 = .ok (.ifCond .ge 7, 3) := by decide +kernel
theorem dMO_isPaid_67 : decode bMO_isPaid 67 = .ok (.iconst 1, 1) := by decide +kernel
theorem dMO_isPaid_68 : decode bMO_isPaid 68 = .ok (.goto 4, 3) := by decide +kernel
theorem dMO_isPaid_71 : decode bMO_isPaid 71 = .ok (.iconst 0, 1) := by decide +kernel
theorem dMO_isPaid_72 : decode bMO_isPaid 72 = .ok (.istore_n 2, 1) := by decide +kernel
theorem dMO_isPaid_73 : decode bMO_isPaid 73 = .ok (.iinc 3 1, 3) := by decide +kernel
theorem dMO_isPaid_76 : decode bMO_isPaid 76 = .ok (.goto (-72), 3) := by decide +kernel
theorem dMO_isPaid_79 : decode bMO_isPaid 79 = .ok (.iload_n 2, 1) := by decide +kernel
theorem dMO_isPaid_80 : decode bMO_isPaid 80 = .ok (.ireturn, 1) := by decide +kernel
theorem dMO_item_0 : decode bMO_item 0 = .ok (.aload_n 0, 1) := by decide +kernel
theorem dMO_item_1 : decode bMO_item 1 = .ok (.iconst 0, 1) := by decide +kernel
theorem dMO_item_2 : decode bMO_item 2 = .ok (.putfield 16, 3) := by decide +kernel
theorem dMO_item_5 : decode bMO_item 5 = .ok (.aload_n 0, 1) := by decide +kernel
theorem dMO_item_6 : decode bMO_item 6 = .ok (.iload_n 1, 1) := by decide +kernel
theorem dMO_item_7 : decode bMO_item 7 = .ok (.invokevirtual 70, 3) := by decide +kernel
theorem dMO_item_10 : decode bMO_item 10 = .ok (.ifCond .eq 16, 3) := by decide +kernel
theorem dMO_item_13 : decode bMO_item 13 = .ok (.iload_n 2, 1) := by decide +kernel
theorem dMO_item_14 : decode bMO_item 14 = .ok (.ifCond .lt 12, 3) := by decide +kernel
theorem dMO_item_17 : decode bMO_item 17 = .ok (.aload_n 0, 1) := by decide +kernel
theorem dMO_item_18 : decode bMO_item 18 = .ok (.iload_n 1, 1) := by decide +kernel
theorem dMO_item_19 : decode bMO_item 19 = .ok (.iload_n 2, 1) := by decide +kernel
theorem dMO_item_20 : decode bMO_item 20 = .ok (.invokevirtual 75, 3) := by decide +kernel
theorem dMO_item_23 : decode bMO_item 23 = .ok (.goto 4, 3) := by decide +kernel
theorem dMO_item_26 : decode bMO_item 26 = .ok (.iconst (-1), 1) := by decide +kernel
theorem dMO_item_27 : decode bMO_item 27 = .ok (.istore_n 3, 1) := by decide +kernel
theorem dMO_item_28 : decode bMO_item 28 = .ok (.iload_n 3, 1) := by decide +kernel
theorem dMO_item_29 : decode bMO_item 29 = .ok (.ifCond .ge 9, 3) := by decide +kernel
theorem dMO_item_32 : decode bMO_item 32 = .ok (.ldc2_w 79, 3) := by decide +kernel
theorem dMO_item_35 : decode bMO_item 35 = .ok (.goto 13, 3) := by decide +kernel
theorem dMO_item_38 : decode bMO_item 38 = .ok (.aload_n 0, 1) := by decide +kernel
theorem dMO_item_39 : decode bMO_item 39 = .ok (.getfield 7, 3) := by decide +kernel
theorem dMO_item_42 : decode bMO_item 42 = .ok (.sipush 780, 3) := by decide +kernel
theorem dMO_item_45 : decode bMO_item 45 = .ok (.iload_n 3, 1) := by decide +kernel
theorem dMO_item_46 : decode bMO_item 46 = .ok (.iadd, 1) := by decide +kernel
theorem dMO_item_47 : decode bMO_item 47 = .ok (.laload, 1) := by decide +kernel
theorem dMO_item_48 : decode bMO_item 48 = .ok (.lreturn, 1) := by decide +kernel
theorem dMO_itemAt_0 : decode bMO_itemAt 0 = .ok (.iconst 0, 1) := by decide +kernel
theorem dMO_itemAt_1 : decode bMO_itemAt 1 = .ok (.istore_n 3, 1) := by decide +kernel
theorem dMO_itemAt_2 : decode bMO_itemAt 2 = .ok (.iload_n 3, 1) := by decide +kernel
theorem dMO_itemAt_3 : decode bMO_itemAt 3 = .ok (.sipush 240, 3) := by decide +kernel
theorem dMO_itemAt_6 : decode bMO_itemAt 6 = .ok (.if_icmp .ge 76, 3) := by decide +kernel
theorem dMO_itemAt_9 : decode bMO_itemAt 9 = .ok (.aload_n 0, 1) := by decide +kernel
theorem dMO_itemAt_10 : decode bMO_itemAt 10 = .ok (.iload_n 3, 1) := by decide +kernel
theorem dMO_itemAt_11 : decode bMO_itemAt 11 = .ok (.iload_n 1, 1) := by decide +kernel
theorem dMO_itemAt_12 : decode bMO_itemAt 12 = .ok (.invokevirtual 64, 3) := by decide +kernel
theorem dMO_itemAt_15 : decode bMO_itemAt 15 = .ok (.ifCond .eq 61, 3) := by decide +kernel
theorem dMO_itemAt_18 : decode bMO_itemAt 18 = .ok (.iconst 0, 1) := by decide +kernel
theorem dMO_itemAt_19 : decode bMO_itemAt 19 = .ok (.istore 4, 2) := by decide +kernel
theorem dMO_itemAt_21 : decode bMO_itemAt 21 = .ok (.iconst 0, 1) := by decide +kernel
theorem dMO_itemAt_22 : decode bMO_itemAt 22 = .ok (.istore 5, 2) := by decide +kernel
theorem dMO_itemAt_24 : decode bMO_itemAt 24 = .ok (.iload 5, 2) := by decide +kernel
theorem dMO_itemAt_26 : decode bMO_itemAt 26 = .ok (.sipush 240, 3) := by decide +kernel
theorem dMO_itemAt_29 : decode bMO_itemAt 29 = .ok (.if_icmp .ge 39, 3) := by decide +kernel
theorem dMO_itemAt_32 : decode bMO_itemAt 32 = .ok (.iload 4, 2) := by decide +kernel
theorem dMO_itemAt_34 : decode bMO_itemAt 34 = .ok (.aload_n 0, 1) := by decide +kernel
theorem dMO_itemAt_35 : decode bMO_itemAt 35 = .ok (.iload 5, 2) := by decide +kernel
theorem dMO_itemAt_37 : decode bMO_itemAt 37 = .ok (.iload_n 1, 1) := by decide +kernel
theorem dMO_itemAt_38 : decode bMO_itemAt 38 = .ok (.invokevirtual 64, 3) := by decide +kernel
theorem dMO_itemAt_41 : decode bMO_itemAt 41 = .ok (.ifCond .eq 17, 3) := by decide +kernel
theorem dMO_itemAt_44 : decode bMO_itemAt 44 = .ok (.aload_n 0, 1) := by decide +kernel
theorem dMO_itemAt_45 : decode bMO_itemAt 45 = .ok (.iload 5, 2) := by decide +kernel
theorem dMO_itemAt_47 : decode bMO_itemAt 47 = .ok (.iload_n 3, 1) := by decide +kernel
theorem dMO_itemAt_48 : decode bMO_itemAt 48 = .ok (.invokevirtual 67, 3) := by decide +kernel
theorem dMO_itemAt_51 : decode bMO_itemAt 51 = .ok (.ifCond .eq 7, 3) := by decide +kernel
theorem dMO_itemAt_54 : decode bMO_itemAt 54 = .ok (.iconst 1, 1) := by decide +kernel
theorem dMO_itemAt_55 : decode bMO_itemAt 55 = .ok (.goto 4, 3) := by decide +kernel
theorem dMO_itemAt_58 : decode bMO_itemAt 58 = .ok (.iconst 0, 1) := by decide +kernel
theorem dMO_itemAt_59 : decode bMO_itemAt 59 = .ok (.iadd, 1) := by decide +kernel
theorem dMO_itemAt_60 : decode bMO_itemAt 60 = .ok (.istore 4, 2) := by decide +kernel
theorem dMO_itemAt_62 : decode bMO_itemAt 62 = .ok (.iinc 5 1, 3) := by decide +kernel
theorem dMO_itemAt_65 : decode bMO_itemAt 65 = .ok (.goto (-41), 3) := by decide +kernel
theorem dMO_itemAt_68 : decode bMO_itemAt 68 = .ok (.iload 4, 2) := by decide +kernel
theorem dMO_itemAt_70 : decode bMO_itemAt 70 = .ok (.iload_n 2, 1) := by decide +kernel
theorem dMO_itemAt_71 : decode bMO_itemAt 71 = .ok (.if_icmp .ne 5, 3) := by decide +kernel
theorem dMO_itemAt_74 : decode bMO_itemAt 74 = .ok (.iload_n 3, 1) := by decide +kernel
theorem dMO_itemAt_75 : decode bMO_itemAt 75 = .ok (.ireturn, 1) := by decide +kernel
theorem dMO_itemAt_76 : decode bMO_itemAt 76 = .ok (.iinc 3 1, 3) := by decide +kernel
theorem dMO_itemAt_79 : decode bMO_itemAt 79 = .ok (.goto (-77), 3) := by decide +kernel
theorem dMO_itemAt_82 : decode bMO_itemAt 82 = .ok (.iconst (-1), 1) := by decide +kernel
theorem dMO_itemAt_83 : decode bMO_itemAt 83 = .ok (.ireturn, 1) := by decide +kernel
theorem dMO_move_0 : decode bMO_move 0 = .ok (.aload_n 0, 1) := by decide +kernel
theorem dMO_move_1 : decode bMO_move 1 = .ok (.iconst 0, 1) := by decide +kernel
theorem dMO_move_2 : decode bMO_move 2 = .ok (.putfield 16, 3) := by decide +kernel
theorem dMO_move_5 : decode bMO_move 5 = .ok (.aload_n 0, 1) := by decide +kernel
theorem dMO_move_6 : decode bMO_move 6 = .ok (.iload_n 1, 1) := by decide +kernel
theorem dMO_move_7 : decode bMO_move 7 = .ok (.invokevirtual 70, 3) := by decide +kernel
theorem dMO_move_10 : decode bMO_move 10 = .ok (.ifCond .eq 39, 3) := by decide +kernel
theorem dMO_move_13 : decode bMO_move 13 = .ok (.aload_n 0, 1) := by decide +kernel
theorem dMO_move_14 : decode bMO_move 14 = .ok (.iload_n 2, 1) := by decide +kernel
theorem dMO_move_15 : decode bMO_move 15 = .ok (.invokevirtual 70, 3) := by decide +kernel
theorem dMO_move_18 : decode bMO_move 18 = .ok (.ifCond .eq 31, 3) := by decide +kernel
theorem dMO_move_21 : decode bMO_move 21 = .ok (.iload_n 1, 1) := by decide +kernel
theorem dMO_move_22 : decode bMO_move 22 = .ok (.iload_n 2, 1) := by decide +kernel
theorem dMO_move_23 : decode bMO_move 23 = .ok (.if_icmp .eq 26, 3) := by decide +kernel
theorem dMO_move_26 : decode bMO_move 26 = .ok (.lload_n 3, 1) := by decide +kernel
theorem dMO_move_27 : decode bMO_move 27 = .ok (.invokestatic 36, 3) := by decide +kernel
theorem dMO_move_30 : decode bMO_move 30 = .ok (.ifCond .eq 19, 3) := by decide +kernel
theorem dMO_move_33 : decode bMO_move 33 = .ok (.aload_n 0, 1) := by decide +kernel
theorem dMO_move_34 : decode bMO_move 34 = .ok (.iload_n 1, 1) := by decide +kernel
theorem dMO_move_35 : decode bMO_move 35 = .ok (.invokevirtual 100, 3) := by decide +kernel
theorem dMO_move_38 : decode bMO_move 38 = .ok (.ifCond .ne 11, 3) := by decide +kernel
theorem dMO_move_41 : decode bMO_move 41 = .ok (.aload_n 0, 1) := by decide +kernel
theorem dMO_move_42 : decode bMO_move 42 = .ok (.iload_n 2, 1) := by decide +kernel
theorem dMO_move_43 : decode bMO_move 43 = .ok (.invokevirtual 100, 3) := by decide +kernel
theorem dMO_move_46 : decode bMO_move 46 = .ok (.ifCond .eq 5, 3) := by decide +kernel
theorem dMO_move_49 : decode bMO_move 49 = .ok (.iconst 0, 1) := by decide +kernel
theorem dMO_move_50 : decode bMO_move 50 = .ok (.ireturn, 1) := by decide +kernel
theorem dMO_move_51 : decode bMO_move 51 = .ok (.aload_n 0, 1) := by decide +kernel
theorem dMO_move_52 : decode bMO_move 52 = .ok (.getfield 7, 3) := by decide +kernel
theorem dMO_move_55 : decode bMO_move 55 = .ok (.bipush 70, 2) := by decide +kernel
theorem dMO_move_57 : decode bMO_move 57 = .ok (.iload_n 1, 1) := by decide +kernel
theorem dMO_move_58 : decode bMO_move 58 = .ok (.iadd, 1) := by decide +kernel
theorem dMO_move_59 : decode bMO_move 59 = .ok (.lload_n 3, 1) := by decide +kernel
theorem dMO_move_60 : decode bMO_move 60 = .ok (.lconst 1, 1) := by decide +kernel
theorem dMO_move_61 : decode bMO_move 61 = .ok (.ladd, 1) := by decide +kernel
theorem dMO_move_62 : decode bMO_move 62 = .ok (.lastore, 1) := by decide +kernel
theorem dMO_move_63 : decode bMO_move 63 = .ok (.aload_n 0, 1) := by decide +kernel
theorem dMO_move_64 : decode bMO_move 64 = .ok (.getfield 7, 3) := by decide +kernel
theorem dMO_move_67 : decode bMO_move 67 = .ok (.bipush 80, 2) := by decide +kernel
theorem dMO_move_69 : decode bMO_move 69 = .ok (.iload_n 2, 1) := by decide +kernel
theorem dMO_move_70 : decode bMO_move 70 = .ok (.iadd, 1) := by decide +kernel
theorem dMO_move_71 : decode bMO_move 71 = .ok (.lload_n 3, 1) := by decide +kernel
theorem dMO_move_72 : decode bMO_move 72 = .ok (.lconst 1, 1) := by decide +kernel
theorem dMO_move_73 : decode bMO_move 73 = .ok (.ladd, 1) := by decide +kernel
theorem dMO_move_74 : decode bMO_move 74 = .ok (.lastore, 1) := by decide +kernel
theorem dMO_move_75 : decode bMO_move 75 = .ok (.iconst 1, 1) := by decide +kernel
theorem dMO_move_76 : decode bMO_move 76 = .ok (.ireturn, 1) := by decide +kernel
theorem dMO_opened_0 : decode bMO_opened 0 = .ok (.aload_n 0, 1) := by decide +kernel
theorem dMO_opened_1 : decode bMO_opened 1 = .ok (.iconst 0, 1) := by decide +kernel
theorem dMO_opened_2 : decode bMO_opened 2 = .ok (.putfield 16, 3) := by decide +kernel
theorem dMO_opened_5 : decode bMO_opened 5 = .ok (.iconst 0, 1) := by decide +kernel
theorem dMO_opened_6 : decode bMO_opened 6 = .ok (.istore_n 3, 1) := by decide +kernel
theorem dMO_opened_7 : decode bMO_opened 7 = .ok (.iload_n 3, 1) := by decide +kernel
theorem dMO_opened_8 : decode bMO_opened 8 = .ok (.sipush 240, 3) := by decide +kernel
theorem dMO_opened_11 : decode bMO_opened 11 = .ok (.if_icmp .ge 95, 3) := by decide +kernel
theorem dMO_opened_14 : decode bMO_opened 14 = .ok (.aload_n 0, 1) := by decide +kernel
theorem dMO_opened_15 : decode bMO_opened 15 = .ok (.iload_n 1, 1) := by decide +kernel
theorem dMO_opened_16 : decode bMO_opened 16 = .ok (.invokevirtual 47, 3) := by decide +kernel
theorem dMO_opened_19 : decode bMO_opened 19 = .ok (.ifCond .eq 87, 3) := by decide +kernel
theorem dMO_opened_22 : decode bMO_opened 22 = .ok (.aload_n 0, 1) := by decide +kernel
theorem dMO_opened_23 : decode bMO_opened 23 = .ok (.iload_n 1, 1) := by decide +kernel
theorem dMO_opened_24 : decode bMO_opened 24 = .ok (.iload_n 3, 1) := by decide +kernel
theorem dMO_opened_25 : decode bMO_opened 25 = .ok (.invokevirtual 81, 3) := by decide +kernel
theorem dMO_opened_28 : decode bMO_opened 28 = .ok (.ifCond .eq 72, 3) := by decide +kernel
theorem dMO_opened_31 : decode bMO_opened 31 = .ok (.iconst 0, 1) := by decide +kernel
theorem dMO_opened_32 : decode bMO_opened 32 = .ok (.istore 4, 2) := by decide +kernel
theorem dMO_opened_34 : decode bMO_opened 34 = .ok (.iconst 0, 1) := by decide +kernel
theorem dMO_opened_35 : decode bMO_opened 35 = .ok (.istore 5, 2) := by decide +kernel
theorem dMO_opened_37 : decode bMO_opened 37 = .ok (.iload 5, 2) := by decide +kernel
theorem dMO_opened_39 : decode bMO_opened 39 = .ok (.sipush 240, 3) := by decide +kernel
theorem dMO_opened_42 : decode bMO_opened 42 = .ok (.if_icmp .ge 39, 3) := by decide +kernel
theorem dMO_opened_45 : decode bMO_opened 45 = .ok (.iload 4, 2) := by decide +kernel
theorem dMO_opened_47 : decode bMO_opened 47 = .ok (.aload_n 0, 1) := by decide +kernel
theorem dMO_opened_48 : decode bMO_opened 48 = .ok (.iload_n 1, 1) := by decide +kernel
theorem dMO_opened_49 : decode bMO_opened 49 = .ok (.iload 5, 2) := by decide +kernel
theorem dMO_opened_51 : decode bMO_opened 51 = .ok (.invokevirtual 81, 3) := by decide +kernel
theorem dMO_opened_54 : decode bMO_opened 54 = .ok (.ifCond .eq 17, 3) := by decide +kernel
theorem dMO_opened_57 : decode bMO_opened 57 = .ok (.aload_n 0, 1) := by decide +kernel
theorem dMO_opened_58 : decode bMO_opened 58 = .ok (.iload 5, 2) := by decide +kernel
theorem dMO_opened_60 : decode bMO_opened 60 = .ok (.iload_n 3, 1) := by decide +kernel
theorem dMO_opened_61 : decode bMO_opened 61 = .ok (.invokevirtual 67, 3) := by decide +kernel
theorem dMO_opened_64 : decode bMO_opened 64 = .ok (.ifCond .eq 7, 3) := by decide +kernel
theorem dMO_opened_67 : decode bMO_opened 67 = .ok (.iconst 1, 1) := by decide +kernel
theorem dMO_opened_68 : decode bMO_opened 68 = .ok (.goto 4, 3) := by decide +kernel
theorem dMO_opened_71 : decode bMO_opened 71 = .ok (.iconst 0, 1) := by decide +kernel
theorem dMO_opened_72 : decode bMO_opened 72 = .ok (.iadd, 1) := by decide +kernel
theorem dMO_opened_73 : decode bMO_opened 73 = .ok (.istore 4, 2) := by decide +kernel
theorem dMO_opened_75 : decode bMO_opened 75 = .ok (.iinc 5 1, 3) := by decide +kernel
theorem dMO_opened_78 : decode bMO_opened 78 = .ok (.goto (-41), 3) := by decide +kernel
theorem dMO_opened_81 : decode bMO_opened 81 = .ok (.iload 4, 2) := by decide +kernel
theorem dMO_opened_83 : decode bMO_opened 83 = .ok (.iload_n 2, 1) := by decide +kernel
theorem dMO_opened_84 : decode bMO_opened 84 = .ok (.if_icmp .ne 16, 3) := by decide +kernel
theorem dMO_opened_87 : decode bMO_opened 87 = .ok (.bipush 10, 2) := by decide +kernel
theorem dMO_opened_89 : decode bMO_opened 89 = .ok (.iload_n 3, 1) := by decide +kernel
theorem dMO_opened_90 : decode bMO_opened 90 = .ok (.bipush 6, 2) := by decide +kernel
theorem dMO_opened_92 : decode bMO_opened 92 = .ok (.idiv, 1) := by decide +kernel
theorem dMO_opened_93 : decode bMO_opened 93 = .ok (.imul, 1) := by decide +kernel
theorem dMO_opened_94 : decode bMO_opened 94 = .ok (.iload_n 3, 1) := by decide +kernel
theorem dMO_opened_95 : decode bMO_opened 95 = .ok (.bipush 6, 2) := by decide +kernel
theorem dMO_opened_97 : decode bMO_opened 97 = .ok (.irem, 1) := by decide +kernel
theorem dMO_opened_98 : decode bMO_opened 98 = .ok (.iadd, 1) := by decide +kernel
theorem dMO_opened_99 : decode bMO_opened 99 = .ok (.ireturn, 1) := by decide +kernel
theorem dMO_opened_100 : decode bMO_opened 100 = .ok (.iinc 3 1, 3) := by decide +kernel
theorem dMO_opened_103 : decode bMO_opened 103 = .ok (.goto (-96), 3) := by decide +kernel
theorem dMO_opened_106 : decode bMO_opened 106 = .ok (.iconst (-1), 1) := by decide +kernel
theorem dMO_opened_107 : decode bMO_opened 107 = .ok (.ireturn, 1) := by decide +kernel
theorem dMO_part_0 : decode bMO_part 0 = .ok (.lload_n 0, 1) := by decide +kernel
theorem dMO_part_1 : decode bMO_part 1 = .ok (.lload_n 2, 1) := by decide +kernel
theorem dMO_part_2 : decode bMO_part 2 = .ok (.invokestatic 103, 3) := by decide +kernel
theorem dMO_part_5 : decode bMO_part 5 = .ok (.lstore 5, 2) := by decide +kernel
theorem dMO_part_7 : decode bMO_part 7 = .ok (.iload 4, 2) := by decide +kernel
theorem dMO_part_9 : decode bMO_part 9 = .ok (.ifCond .ne 10, 3) := by decide +kernel
theorem dMO_part_12 : decode bMO_part 12 = .ok (.lload_n 0, 1) := by decide +kernel
theorem dMO_part_13 : decode bMO_part 13 = .ok (.lload 5, 2) := by decide +kernel
theorem dMO_part_15 : decode bMO_part 15 = .ok (.ldiv, 1) := by decide +kernel
theorem dMO_part_16 : decode bMO_part 16 = .ok (.goto 7, 3) := by decide +kernel
theorem dMO_part_19 : decode bMO_part 19 = .ok (.lload_n 2, 1) := by decide +kernel
theorem dMO_part_20 : decode bMO_part 20 = .ok (.lload 5, 2) := by decide +kernel
theorem dMO_part_22 : decode bMO_part 22 = .ok (.ldiv, 1) := by decide +kernel
theorem dMO_part_23 : decode bMO_part 23 = .ok (.lreturn, 1) := by decide +kernel
theorem dMO_payment_0 : decode bMO_payment 0 = .ok (.aload_n 0, 1) := by decide +kernel
theorem dMO_payment_1 : decode bMO_payment 1 = .ok (.iconst 0, 1) := by decide +kernel
theorem dMO_payment_2 : decode bMO_payment 2 = .ok (.putfield 16, 3) := by decide +kernel
theorem dMO_payment_5 : decode bMO_payment 5 = .ok (.iconst 0, 1) := by decide +kernel
theorem dMO_payment_6 : decode bMO_payment 6 = .ok (.istore 6, 2) := by decide +kernel
theorem dMO_payment_8 : decode bMO_payment 8 = .ok (.aload_n 0, 1) := by decide +kernel
theorem dMO_payment_9 : decode bMO_payment 9 = .ok (.iload 6, 2) := by decide +kernel
theorem dMO_payment_11 : decode bMO_payment 11 = .ok (.invokevirtual 20, 3) := by decide +kernel
theorem dMO_payment_14 : decode bMO_payment 14 = .ok (.ifCond .eq 24, 3) := by decide +kernel
theorem dMO_payment_17 : decode bMO_payment 17 = .ok (.aload_n 0, 1) := by decide +kernel
theorem dMO_payment_18 : decode bMO_payment 18 = .ok (.getfield 7, 3) := by decide +kernel
theorem dMO_payment_21 : decode bMO_payment 21 = .ok (.bipush 10, 2) := by decide +kernel
theorem dMO_payment_23 : decode bMO_payment 23 = .ok (.iload 6, 2) := by decide +kernel
theorem dMO_payment_25 : decode bMO_payment 25 = .ok (.iadd, 1) := by decide +kernel
theorem dMO_payment_26 : decode bMO_payment 26 = .ok (.laload, 1) := by decide +kernel
theorem dMO_payment_27 : decode bMO_payment 27 = .ok (.lconst 0, 1) := by decide +kernel
theorem dMO_payment_28 : decode bMO_payment 28 = .ok (.lcmp, 1) := by decide +kernel
theorem dMO_payment_29 : decode bMO_payment 29 = .ok (.ifCond .eq 9, 3) := by decide +kernel
theorem dMO_payment_32 : decode bMO_payment 32 = .ok (.iinc 6 1, 3) := by decide +kernel
theorem dMO_payment_35 : decode bMO_payment 35 = .ok (.goto (-27), 3) := by decide +kernel
theorem dMO_payment_38 : decode bMO_payment 38 = .ok (.lload_n 2, 1) := by decide +kernel
theorem dMO_payment_39 : decode bMO_payment 39 = .ok (.lconst 1, 1) := by decide +kernel
theorem dMO_payment_40 : decode bMO_payment 40 = .ok (.ldc2_w 54, 3) := by decide +kernel
theorem dMO_payment_43 : decode bMO_payment 43 = .ok (.invokestatic 26, 3) := by decide +kernel
theorem dMO_payment_46 : decode bMO_payment 46 = .ok (.ifCond .eq 42, 3) := by decide +kernel
theorem dMO_payment_49 : decode bMO_payment 49 = .ok (.lload 4, 2) := by decide +kernel
theorem dMO_payment_51 : decode bMO_payment 51 = .ok (.invokestatic 36, 3) := by decide +kernel
theorem dMO_payment_54 : decode bMO_payment 54 = .ok (.ifCond .eq 34, 3) := by decide +kernel
theorem dMO_payment_57 : decode bMO_payment 57 = .ok (.aload_n 0, 1) := by decide +kernel
theorem dMO_payment_58 : decode bMO_payment 58 = .ok (.lload 4, 2) := by decide +kernel
theorem dMO_payment_60 : decode bMO_payment 60 = .ok (.invokevirtual 40, 3) := by decide +kernel
theorem dMO_payment_63 : decode bMO_payment 63 = .ok (.ifCond .ne 25, 3) := by decide +kernel
theorem dMO_payment_66 : decode bMO_payment 66 = .ok (.aload_n 0, 1) := by decide +kernel
theorem dMO_payment_67 : decode bMO_payment 67 = .ok (.iload 6, 2) := by decide +kernel

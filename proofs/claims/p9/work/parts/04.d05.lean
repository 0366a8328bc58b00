theorem dMO_due_10 : decode bMO_due 10 = .ok (.i2l, 1) := by decide +kernel
theorem dMO_due_11 : decode bMO_due 11 = .ok (.aload_n 0, 1) := by decide +kernel
theorem dMO_due_12 : decode bMO_due 12 = .ok (.getfield 7, 3) := by decide +kernel
theorem dMO_due_15 : decode bMO_due 15 = .ok (.iconst 3, 1) := by decide +kernel
theorem dMO_due_16 : decode bMO_due 16 = .ok (.laload, 1) := by decide +kernel
theorem dMO_due_17 : decode bMO_due 17 = .ok (.lcmp, 1) := by decide +kernel
theorem dMO_due_18 : decode bMO_due 18 = .ok (.ifCond .ge 23, 3) := by decide +kernel
theorem dMO_due_21 : decode bMO_due 21 = .ok (.iload_n 2, 1) := by decide +kernel
theorem dMO_due_22 : decode bMO_due 22 = .ok (.ifCond .lt 19, 3) := by decide +kernel
theorem dMO_due_25 : decode bMO_due 25 = .ok (.iload_n 2, 1) := by decide +kernel
theorem dMO_due_26 : decode bMO_due 26 = .ok (.i2l, 1) := by decide +kernel
theorem dMO_due_27 : decode bMO_due 27 = .ok (.aload_n 0, 1) := by decide +kernel
theorem dMO_due_28 : decode bMO_due 28 = .ok (.getfield 7, 3) := by decide +kernel
theorem dMO_due_31 : decode bMO_due 31 = .ok (.sipush 1190, 3) := by decide +kernel
theorem dMO_due_34 : decode bMO_due 34 = .ok (.iload_n 1, 1) := by decide +kernel
theorem dMO_due_35 : decode bMO_due 35 = .ok (.iadd, 1) := by decide +kernel
theorem dMO_due_36 : decode bMO_due 36 = .ok (.laload, 1) := by decide +kernel
theorem dMO_due_37 : decode bMO_due 37 = .ok (.lcmp, 1) := by decide +kernel
theorem dMO_due_38 : decode bMO_due 38 = .ok (.ifCond .lt 7, 3) := by decide +kernel
theorem dMO_due_41 : decode bMO_due 41 = .ok (.ldc2_w 79, 3) := by decide +kernel
theorem dMO_due_44 : decode bMO_due 44 = .ok (.lreturn, 1) := by decide +kernel
theorem dMO_due_45 : decode bMO_due 45 = .ok (.aload_n 0, 1) := by decide +kernel
theorem dMO_due_46 : decode bMO_due 46 = .ok (.getfield 7, 3) := by decide +kernel
theorem dMO_due_49 : decode bMO_due 49 = .ok (.sipush 1190, 3) := by decide +kernel
theorem dMO_due_52 : decode bMO_due 52 = .ok (.iload_n 1, 1) := by decide +kernel
theorem dMO_due_53 : decode bMO_due 53 = .ok (.iadd, 1) := by decide +kernel
theorem dMO_due_54 : decode bMO_due 54 = .ok (.laload, 1) := by decide +kernel
theorem dMO_due_55 : decode bMO_due 55 = .ok (.lstore_n 3, 1) := by decide +kernel
theorem dMO_due_56 : decode bMO_due 56 = .ok (.aload_n 0, 1) := by decide +kernel
theorem dMO_due_57 : decode bMO_due 57 = .ok (.getfield 7, 3) := by decide +kernel
theorem dMO_due_60 : decode bMO_due 60 = .ok (.sipush 1180, 3) := by decide +kernel
theorem dMO_due_63 : decode bMO_due 63 = .ok (.iload_n 1, 1) := by decide +kernel
theorem dMO_due_64 : decode bMO_due 64 = .ok (.iadd, 1) := by decide +kernel
theorem dMO_due_65 : decode bMO_due 65 = .ok (.laload, 1) := by decide +kernel
theorem dMO_due_66 : decode bMO_due 66 = .ok (.lload_n 3, 1) := by decide +kernel
theorem dMO_due_67 : decode bMO_due 67 = .ok (.ldiv, 1) := by decide +kernel
theorem dMO_due_68 : decode bMO_due 68 = .ok (.iload_n 2, 1) := by decide +kernel
theorem dMO_due_69 : decode bMO_due 69 = .ok (.i2l, 1) := by decide +kernel
theorem dMO_due_70 : decode bMO_due 70 = .ok (.aload_n 0, 1) := by decide +kernel
theorem dMO_due_71 : decode bMO_due 71 = .ok (.getfield 7, 3) := by decide +kernel
theorem dMO_due_74 : decode bMO_due 74 = .ok (.sipush 1180, 3) := by decide +kernel
theorem dMO_due_77 : decode bMO_due 77 = .ok (.iload_n 1, 1) := by decide +kernel
theorem dMO_due_78 : decode bMO_due 78 = .ok (.iadd, 1) := by decide +kernel
theorem dMO_due_79 : decode bMO_due 79 = .ok (.laload, 1) := by decide +kernel
theorem dMO_due_80 : decode bMO_due 80 = .ok (.lload_n 3, 1) := by decide +kernel
theorem dMO_due_81 : decode bMO_due 81 = .ok (.lrem, 1) := by decide +kernel
theorem dMO_due_82 : decode bMO_due 82 = .ok (.lcmp, 1) := by decide +kernel
theorem dMO_due_83 : decode bMO_due 83 = .ok (.ifCond .ge 7, 3) := by decide +kernel
theorem dMO_due_86 : decode bMO_due 86 = .ok (.lconst 1, 1) := by decide +kernel
theorem dMO_due_87 : decode bMO_due 87 = .ok (.goto 4, 3) := by decide +kernel
theorem dMO_due_90 : decode bMO_due 90 = .ok (.lconst 0, 1) := by decide +kernel
theorem dMO_due_91 : decode bMO_due 91 = .ok (.ladd, 1) := by decide +kernel
theorem dMO_due_92 : decode bMO_due 92 = .ok (.lreturn, 1) := by decide +kernel
theorem dMO_dun_0 : decode bMO_dun 0 = .ok (.aload_n 0, 1) := by decide +kernel
theorem dMO_dun_1 : decode bMO_dun 1 = .ok (.iconst 0, 1) := by decide +kernel
theorem dMO_dun_2 : decode bMO_dun 2 = .ok (.putfield 16, 3) := by decide +kernel
theorem dMO_dun_5 : decode bMO_dun 5 = .ok (.aload_n 0, 1) := by decide +kernel
theorem dMO_dun_6 : decode bMO_dun 6 = .ok (.iload_n 1, 1) := by decide +kernel
theorem dMO_dun_7 : decode bMO_dun 7 = .ok (.invokevirtual 70, 3) := by decide +kernel
theorem dMO_dun_10 : decode bMO_dun 10 = .ok (.ifCond .eq 10, 3) := by decide +kernel
theorem dMO_dun_13 : decode bMO_dun 13 = .ok (.lload_n 2, 1) := by decide +kernel
theorem dMO_dun_14 : decode bMO_dun 14 = .ok (.invokestatic 36, 3) := by decide +kernel
theorem dMO_dun_17 : decode bMO_dun 17 = .ok (.ifCond .ne 5, 3) := by decide +kernel
theorem dMO_dun_20 : decode bMO_dun 20 = .ok (.iconst (-1), 1) := by decide +kernel
theorem dMO_dun_21 : decode bMO_dun 21 = .ok (.ireturn, 1) := by decide +kernel
theorem dMO_dun_22 : decode bMO_dun 22 = .ok (.aload_n 0, 1) := by decide +kernel
theorem dMO_dun_23 : decode bMO_dun 23 = .ok (.getfield 7, 3) := by decide +kernel
theorem dMO_dun_26 : decode bMO_dun 26 = .ok (.bipush 40, 2) := by decide +kernel
theorem dMO_dun_28 : decode bMO_dun 28 = .ok (.iload_n 1, 1) := by decide +kernel
theorem dMO_dun_29 : decode bMO_dun 29 = .ok (.iadd, 1) := by decide +kernel
theorem dMO_dun_30 : decode bMO_dun 30 = .ok (.laload, 1) := by decide +kernel
theorem dMO_dun_31 : decode bMO_dun 31 = .ok (.lconst 0, 1) := by decide +kernel
theorem dMO_dun_32 : decode bMO_dun 32 = .ok (.lcmp, 1) := by decide +kernel
theorem dMO_dun_33 : decode bMO_dun 33 = .ok (.ifCond .le 32, 3) := by decide +kernel
theorem dMO_dun_36 : decode bMO_dun 36 = .ok (.lload_n 2, 1) := by decide +kernel
theorem dMO_dun_37 : decode bMO_dun 37 = .ok (.aload_n 0, 1) := by decide +kernel
theorem dMO_dun_38 : decode bMO_dun 38 = .ok (.getfield 7, 3) := by decide +kernel
theorem dMO_dun_41 : decode bMO_dun 41 = .ok (.bipush 50, 2) := by decide +kernel
theorem dMO_dun_43 : decode bMO_dun 43 = .ok (.iload_n 1, 1) := by decide +kernel
theorem dMO_dun_44 : decode bMO_dun 44 = .ok (.iadd, 1) := by decide +kernel
theorem dMO_dun_45 : decode bMO_dun 45 = .ok (.laload, 1) := by decide +kernel
theorem dMO_dun_46 : decode bMO_dun 46 = .ok (.aload_n 0, 1) := by decide +kernel
theorem dMO_dun_47 : decode bMO_dun 47 = .ok (.getfield 7, 3) := by decide +kernel
theorem dMO_dun_50 : decode bMO_dun 50 = .ok (.bipush 60, 2) := by decide +kernel
theorem dMO_dun_52 : decode bMO_dun 52 = .ok (.iload_n 1, 1) := by decide +kernel
theorem dMO_dun_53 : decode bMO_dun 53 = .ok (.iadd, 1) := by decide +kernel
theorem dMO_dun_54 : decode bMO_dun 54 = .ok (.laload, 1) := by decide +kernel
theorem dMO_dun_55 : decode bMO_dun 55 = .ok (.invokestatic 26, 3) := by decide +kernel
theorem dMO_dun_58 : decode bMO_dun 58 = .ok (.ifCond .eq 7, 3) := by decide +kernel
theorem dMO_dun_61 : decode bMO_dun 61 = .ok (.iconst 1, 1) := by decide +kernel
theorem dMO_dun_62 : decode bMO_dun 62 = .ok (.goto 4, 3) := by decide +kernel
theorem dMO_dun_65 : decode bMO_dun 65 = .ok (.iconst 0, 1) := by decide +kernel
theorem dMO_dun_66 : decode bMO_dun 66 = .ok (.istore 4, 2) := by decide +kernel
theorem dMO_dun_68 : decode bMO_dun 68 = .ok (.aload_n 0, 1) := by decide +kernel
theorem dMO_dun_69 : decode bMO_dun 69 = .ok (.iload_n 1, 1) := by decide +kernel
theorem dMO_dun_70 : decode bMO_dun 70 = .ok (.lload_n 2, 1) := by decide +kernel
theorem dMO_dun_71 : decode bMO_dun 71 = .ok (.invokevirtual 86, 3) := by decide +kernel
theorem dMO_dun_74 : decode bMO_dun 74 = .ok (.ifCond .ne 16, 3) := by decide +kernel
theorem dMO_dun_77 : decode bMO_dun 77 = .ok (.aload_n 0, 1) := by decide +kernel
theorem dMO_dun_78 : decode bMO_dun 78 = .ok (.getfield 7, 3) := by decide +kernel
theorem dMO_dun_81 : decode bMO_dun 81 = .ok (.bipush 20, 2) := by decide +kernel
theorem dMO_dun_83 : decode bMO_dun 83 = .ok (.iload_n 1, 1) := by decide +kernel
theorem dMO_dun_84 : decode bMO_dun 84 = .ok (.iadd, 1) := by decide +kernel
theorem dMO_dun_85 : decode bMO_dun 85 = .ok (.lconst 0, 1) := by decide +kernel
theorem dMO_dun_86 : decode bMO_dun 86 = .ok (.lastore, 1) := by decide +kernel
theorem dMO_dun_87 : decode bMO_dun 87 = .ok (.goto 92, 3) := by decide +kernel
theorem dMO_dun_90 : decode bMO_dun 90 = .ok (.iload 4, 2) := by decide +kernel
theorem dMO_dun_92 : decode bMO_dun 92 = .ok (.ifCond .ne 87, 3) := by decide +kernel
theorem dMO_dun_95 : decode bMO_dun 95 = .ok (.aload_n 0, 1) := by decide +kernel
theorem dMO_dun_96 : decode bMO_dun 96 = .ok (.getfield 7, 3) := by decide +kernel
theorem dMO_dun_99 : decode bMO_dun 99 = .ok (.bipush 20, 2) := by decide +kernel
theorem dMO_dun_101 : decode bMO_dun 101 = .ok (.iload_n 1, 1) := by decide +kernel
theorem dMO_dun_102 : decode bMO_dun 102 = .ok (.iadd, 1) := by decide +kernel
theorem dMO_dun_103 : decode bMO_dun 103 = .ok (.laload, 1) := by decide +kernel
theorem dMO_dun_104 : decode bMO_dun 104 = .ok (.lconst 0, 1) := by decide +kernel
theorem dMO_dun_105 : decode bMO_dun 105 = .ok (.lcmp, 1) := by decide +kernel
theorem dMO_dun_106 : decode bMO_dun 106 = .ok (.ifCond .eq 21, 3) := by decide +kernel
theorem dMO_dun_109 : decode bMO_dun 109 = .ok (.lload_n 2, 1) := by decide +kernel
theorem dMO_dun_110 : decode bMO_dun 110 = .ok (.aload_n 0, 1) := by decide +kernel
theorem dMO_dun_111 : decode bMO_dun 111 = .ok (.getfield 7, 3) := by decide +kernel
theorem dMO_dun_114 : decode bMO_dun 114 = .ok (.bipush 30, 2) := by decide +kernel
theorem dMO_dun_116 : decode bMO_dun 116 = .ok (.iload_n 1, 1) := by decide +kernel
theorem dMO_dun_117 : decode bMO_dun 117 = .ok (.iadd, 1) := by decide +kernel
theorem dMO_dun_118 : decode bMO_dun 118 = .ok (.laload, 1) := by decide +kernel
theorem dMO_dun_119 : decode bMO_dun 119 = .ok (.lsub, 1) := by decide +kernel
theorem dMO_dun_120 : decode bMO_dun 120 = .ok (.ldc2_w 90, 3) := by decide +kernel
theorem dMO_dun_123 : decode bMO_dun 123 = .ok (.lcmp, 1) := by decide +kernel
theorem dMO_dun_124 : decode bMO_dun 124 = .ok (.ifCond .lt 55, 3) := by decide +kernel
theorem dMO_dun_127 : decode bMO_dun 127 = .ok (.aload_n 0, 1) := by decide +kernel
theorem dMO_dun_128 : decode bMO_dun 128 = .ok (.getfield 7, 3) := by decide +kernel
theorem dMO_dun_131 : decode bMO_dun 131 = .ok (.bipush 20, 2) := by decide +kernel
theorem dMO_dun_133 : decode bMO_dun 133 = .ok (.iload_n 1, 1) := by decide +kernel
theorem dMO_dun_134 : decode bMO_dun 134 = .ok (.iadd, 1) := by decide +kernel
theorem dMO_dun_135 : decode bMO_dun 135 = .ok (.aload_n 0, 1) := by decide +kernel
theorem dMO_dun_136 : decode bMO_dun 136 = .ok (.getfield 7, 3) := by decide +kernel
theorem dMO_dun_139 : decode bMO_dun 139 = .ok (.bipush 20, 2) := by decide +kernel
theorem dMO_dun_141 : decode bMO_dun 141 = .ok (.iload_n 1, 1) := by decide +kernel
theorem dMO_dun_142 : decode bMO_dun 142 = .ok (.iadd, 1) := by decide +kernel
theorem dMO_dun_143 : decode bMO_dun 143 = .ok (.laload, 1) := by decide +kernel
theorem dMO_dun_144 : decode bMO_dun 144 = .ok (.ldc2_w 92, 3) := by decide +kernel
theorem dMO_dun_147 : decode bMO_dun 147 = .ok (.lcmp, 1) := by decide +kernel
theorem dMO_dun_148 : decode bMO_dun 148 = .ok (.ifCond .ne 9, 3) := by decide +kernel
theorem dMO_dun_151 : decode bMO_dun 151 = .ok (.ldc2_w 92, 3) := by decide +kernel
theorem dMO_dun_154 : decode bMO_dun 154 = .ok (.goto 14, 3) := by decide +kernel
theorem dMO_dun_157 : decode bMO_dun 157 = .ok (.aload_n 0, 1) := by decide +kernel
theorem dMO_dun_158 : decode bMO_dun 158 = .ok (.getfield 7, 3) := by decide +kernel
theorem dMO_dun_161 : decode bMO_dun 161 = .ok (.bipush 20, 2) := by decide +kernel
theorem dMO_dun_163 : decode bMO_dun 163 = .ok (.iload_n 1, 1) := by decide +kernel
theorem dMO_dun_164 : decode bMO_dun 164 = .ok (.iadd, 1) := by decide +kernel
theorem dMO_dun_165 : decode bMO_dun 165 = .ok (.laload, 1) := by decide +kernel
theorem dMO_dun_166 : decode bMO_dun 166 = .ok (.lconst 1, 1) := by decide +kernel
theorem dMO_dun_167 : decode bMO_dun 167 = .ok (.ladd, 1) := by decide +kernel
theorem dMO_dun_168 : decode bMO_dun 168 = .ok (.lastore, 1) := by decide +kernel
theorem dMO_dun_169 : decode bMO_dun 169 = .ok (.aload_n 0, 1) := by decide +kernel
theorem dMO_dun_170 : decode bMO_dun 170 = .ok (.getfield 7, 3) := by decide +kernel
theorem dMO_dun_173 : decode bMO_dun 173 = .ok (.bipush 30, 2) := by decide +kernel
theorem dMO_dun_175 : decode bMO_dun 175 = .ok (.iload_n 1, 1) := by decide +kernel
theorem dMO_dun_176 : decode bMO_dun 176 = .ok (.iadd, 1) := by decide +kernel
theorem dMO_dun_177 : decode bMO_dun 177 = .ok (.lload_n 2, 1) := by decide +kernel
theorem dMO_dun_178 : decode bMO_dun 178 = .ok (.lastore, 1) := by decide +kernel
theorem dMO_dun_179 : decode bMO_dun 179 = .ok (.aload_n 0, 1) := by decide +kernel
theorem dMO_dun_180 : decode bMO_dun 180 = .ok (.getfield 7, 3) := by decide +kernel
theorem dMO_dun_183 : decode bMO_dun 183 = .ok (.bipush 20, 2) := by decide +kernel
theorem dMO_dun_185 : decode bMO_dun 185 = .ok (.iload_n 1, 1) := by decide +kernel
theorem dMO_dun_186 : decode bMO_dun 186 = .ok (.iadd, 1) := by decide +kernel
theorem dMO_dun_187 : decode bMO_dun 187 = .ok (.laload, 1) := by decide +kernel
theorem dMO_dun_188 : decode bMO_dun 188 = .ok (.l2i, 1) := by decide +kernel
theorem dMO_dun_189 : decode bMO_dun 189 = .ok (.ireturn, 1) := by decide +kernel
theorem dMO_endBatch_0 : decode bMO_endBatch 0 = .ok (.aload_n 0, 1) := by decide +kernel
theorem dMO_endBatch_1 : decode bMO_endBatch 1 = .ok (.iconst 0, 1) := by decide +kernel
theorem dMO_endBatch_2 : decode bMO_endBatch 2 = .ok (.putfield 16, 3) := by decide +kernel
theorem dMO_endBatch_5 : decode bMO_endBatch 5 = .ok (.aload_n 0, 1) := by decide +kernel
theorem dMO_endBatch_6 : decode bMO_endBatch 6 = .ok (.getfield 111, 3) := by decide +kernel
theorem dMO_endBatch_9 : decode bMO_endBatch 9 = .ok (.ifCond .ne 5, 3) := by decide +kernel
theorem dMO_endBatch_12 : decode bMO_endBatch 12 = .ok (.iconst 0, 1) := by decide +kernel
theorem dMO_endBatch_13 : decode bMO_endBatch 13 = .ok (.ireturn, 1) := by decide +kernel
theorem dMO_endBatch_14 : decode bMO_endBatch 14 = .ok (.aload_n 0, 1) := by decide +kernel
theorem dMO_endBatch_15 : decode bMO_endBatch 15 = .ok (.iconst 0, 1) := by decide +kernel
theorem dMO_endBatch_16 : decode bMO_endBatch 16 = .ok (.putfield 111, 3) := by decide +kernel
theorem dMO_endBatch_19 : decode bMO_endBatch 19 = .ok (.iconst 0, 1) := by decide +kernel
theorem dMO_endBatch_20 : decode bMO_endBatch 20 = .ok (.istore_n 2, 1) := by decide +kernel
theorem dMO_endBatch_21 : decode bMO_endBatch 21 = .ok (.iload_n 2, 1) := by decide +kernel
theorem dMO_endBatch_22 : decode bMO_endBatch 22 = .ok (.sipush 1220, 3) := by decide +kernel
theorem dMO_endBatch_25 : decode bMO_endBatch 25 = .ok (.if_icmp .ge 25, 3) := by decide +kernel
theorem dMO_endBatch_28 : decode bMO_endBatch 28 = .ok (.iload_n 1, 1) := by decide +kernel
theorem dMO_endBatch_29 : decode bMO_endBatch 29 = .ok (.ifCond .ne 21, 3) := by decide +kernel
theorem dMO_endBatch_32 : decode bMO_endBatch 32 = .ok (.aload_n 0, 1) := by decide +kernel
theorem dMO_endBatch_33 : decode bMO_endBatch 33 = .ok (.getfield 7, 3) := by decide +kernel
theorem dMO_endBatch_36 : decode bMO_endBatch 36 = .ok (.iload_n 2, 1) := by decide +kernel
theorem dMO_endBatch_37 : decode bMO_endBatch 37 = .ok (.aload_n 0, 1) := by decide +kernel
theorem dMO_endBatch_38 : decode bMO_endBatch 38 = .ok (.getfield 13, 3) := by decide +kernel
theorem dMO_endBatch_41 : decode bMO_endBatch 41 = .ok (.iload_n 2, 1) := by decide +kernel
theorem dMO_endBatch_42 : decode bMO_endBatch 42 = .ok (.laload, 1) := by decide +kernel
theorem dMO_endBatch_43 : decode bMO_endBatch 43 = .ok (.lastore, 1) := by decide +kernel
theorem dMO_endBatch_44 : decode bMO_endBatch 44 = .ok (.iinc 2 1, 3) := by decide +kernel
theorem dMO_endBatch_47 : decode bMO_endBatch 47 = .ok (.goto (-26), 3) := by decide +kernel
theorem dMO_endBatch_50 : decode bMO_endBatch 50 = .ok (.iconst 1, 1) := by decide +kernel
theorem dMO_endBatch_51 : decode bMO_endBatch 51 = .ok (.ireturn, 1) := by decide +kernel
theorem dMO_entry_0 : decode bMO_entry 0 = .ok (.aload_n 0, 1) := by decide +kernel
theorem dMO_entry_1 : decode bMO_entry 1 = .ok (.iconst 0, 1) := by decide +kernel
theorem dMO_entry_2 : decode bMO_entry 2 = .ok (.putfield 16, 3) := by decide +kernel
theorem dMO_entry_5 : decode bMO_entry 5 = .ok (.aload_n 0, 1) := by decide +kernel
theorem dMO_entry_6 : decode bMO_entry 6 = .ok (.getfield 7, 3) := by decide +kernel
theorem dMO_entry_9 : decode bMO_entry 9 = .ok (.iconst 1, 1) := by decide +kernel
theorem dMO_entry_10 : decode bMO_entry 10 = .ok (.laload, 1) := by decide +kernel
theorem dMO_entry_11 : decode bMO_entry 11 = .ok (.ldc2_w 34, 3) := by decide +kernel
theorem dMO_entry_14 : decode bMO_entry 14 = .ok (.lcmp, 1) := by decide +kernel
theorem dMO_entry_15 : decode bMO_entry 15 = .ok (.ifCond .eq 18, 3) := by decide +kernel
theorem dMO_entry_18 : decode bMO_entry 18 = .ok (.lload_n 1, 1) := by decide +kernel
theorem dMO_entry_19 : decode bMO_entry 19 = .ok (.invokestatic 36, 3) := by decide +kernel
theorem dMO_entry_22 : decode bMO_entry 22 = .ok (.ifCond .eq 11, 3) := by decide +kernel
theorem dMO_entry_25 : decode bMO_entry 25 = .ok (.aload_n 0, 1) := by decide +kernel
theorem dMO_entry_26 : decode bMO_entry 26 = .ok (.lload_n 1, 1) := by decide +kernel
theorem dMO_entry_27 : decode bMO_entry 27 = .ok (.invokevirtual 40, 3) := by decide +kernel
theorem dMO_entry_30 : decode bMO_entry 30 = .ok (.ifCond .eq 7, 3) := by decide +kernel
theorem dMO_entry_33 : decode bMO_entry 33 = .ok (.iconst (-1), 1) := by decide +kernel
theorem dMO_entry_34 : decode bMO_entry 34 = .ok (.goto 9, 3) := by decide +kernel
theorem dMO_entry_37 : decode bMO_entry 37 = .ok (.aload_n 0, 1) := by decide +kernel
theorem dMO_entry_38 : decode bMO_entry 38 = .ok (.lload_n 1, 1) := by decide +kernel
theorem dMO_entry_39 : decode bMO_entry 39 = .ok (.iconst 0, 1) := by decide +kernel
theorem dMO_entry_40 : decode bMO_entry 40 = .ok (.invokevirtual 43, 3) := by decide +kernel
theorem dMO_entry_43 : decode bMO_entry 43 = .ok (.ireturn, 1) := by decide +kernel
theorem dMO_found_0 : decode bMO_found 0 = .ok (.aload_n 0, 1) := by decide +kernel
theorem dMO_found_1 : decode bMO_found 1 = .ok (.iconst 0, 1) := by decide +kernel
theorem dMO_found_2 : decode bMO_found 2 = .ok (.putfield 16, 3) := by decide +kernel
theorem dMO_found_5 : decode bMO_found 5 = .ok (.iload_n 1, 1) := by decide +kernel
theorem dMO_found_6 : decode bMO_found 6 = .ok (.ifCond .lt 28, 3) := by decide +kernel
theorem dMO_found_9 : decode bMO_found 9 = .ok (.iload_n 1, 1) := by decide +kernel
theorem dMO_found_10 : decode bMO_found 10 = .ok (.i2l, 1) := by decide +kernel
theorem dMO_found_11 : decode bMO_found 11 = .ok (.aload_n 0, 1) := by decide +kernel
theorem dMO_found_12 : decode bMO_found 12 = .ok (.getfield 7, 3) := by decide +kernel
theorem dMO_found_15 : decode bMO_found 15 = .ok (.iconst 4, 1) := by decide +kernel
theorem dMO_found_16 : decode bMO_found 16 = .ok (.laload, 1) := by decide +kernel
theorem dMO_found_17 : decode bMO_found 17 = .ok (.lcmp, 1) := by decide +kernel
theorem dMO_found_18 : decode bMO_found 18 = .ok (.ifCond .ge 16, 3) := by decide +kernel
theorem dMO_found_21 : decode bMO_found 21 = .ok (.aload_n 0, 1) := by decide +kernel
theorem dMO_found_22 : decode bMO_found 22 = .ok (.getfield 7, 3) := by decide +kernel
theorem dMO_found_25 : decode bMO_found 25 = .ok (.sipush 1200, 3) := by decide +kernel
theorem dMO_found_28 : decode bMO_found 28 = .ok (.iload_n 1, 1) := by decide +kernel
theorem dMO_found_29 : decode bMO_found 29 = .ok (.iadd, 1) := by decide +kernel
theorem dMO_found_30 : decode bMO_found 30 = .ok (.laload, 1) := by decide +kernel
theorem dMO_found_31 : decode bMO_found 31 = .ok (.goto 6, 3) := by decide +kernel
theorem dMO_found_34 : decode bMO_found 34 = .ok (.ldc2_w 79, 3) := by decide +kernel
theorem dMO_found_37 : decode bMO_found 37 = .ok (.lreturn, 1) := by decide +kernel
theorem dMO_gave_0 : decode bMO_gave 0 = .ok (.aload_n 0, 1) := by decide +kernel
theorem dMO_gave_1 : decode bMO_gave 1 = .ok (.getfield 7, 3) := by decide +kernel
theorem dMO_gave_4 : decode bMO_gave 4 = .ok (.sipush 1020, 3) := by decide +kernel
theorem dMO_gave_7 : decode bMO_gave 7 = .ok (.iconst 4, 1) := by decide +kernel
theorem dMO_gave_8 : decode bMO_gave 8 = .ok (.iload_n 1, 1) := by decide +kernel
theorem dMO_gave_9 : decode bMO_gave 9 = .ok (.imul, 1) := by decide +kernel
theorem dMO_gave_10 : decode bMO_gave 10 = .ok (.iadd, 1) := by decide +kernel
theorem dMO_gave_11 : decode bMO_gave 11 = .ok (.iload_n 2, 1) := by decide +kernel
theorem dMO_gave_12 : decode bMO_gave 12 = .ok (.bipush 60, 2) := by decide +kernel
theorem dMO_gave_14 : decode bMO_gave 14 = .ok (.idiv, 1) := by decide +kernel
theorem dMO_gave_15 : decode bMO_gave 15 = .ok (.iadd, 1) := by decide +kernel
theorem dMO_gave_16 : decode bMO_gave 16 = .ok (.laload, 1) := by decide +kernel
theorem dMO_gave_17 : decode bMO_gave 17 = .ok (.iload_n 2, 1) := by decide +kernel
theorem dMO_gave_18 : decode bMO_gave 18 = .ok (.bipush 60, 2) := by decide +kernel
theorem dMO_gave_20 : decode bMO_gave 20 = .ok (.irem, 1) := by decide +kernel
theorem dMO_gave_21 : decode bMO_gave 21 = .ok (.lshr, 1) := by decide +kernel
theorem dMO_gave_22 : decode bMO_gave 22 = .ok (.lconst 1, 1) := by decide +kernel
theorem dMO_gave_23 : decode bMO_gave 23 = .ok (.land, 1) := by decide +kernel
theorem dMO_gave_24 : decode bMO_gave 24 = .ok (.lconst 1, 1) := by decide +kernel
theorem dMO_gave_25 : decode bMO_gave 25 = .ok (.lcmp, 1) := by decide +kernel
theorem dMO_gave_26 : decode bMO_gave 26 = .ok (.ifCond .ne 7, 3) := by decide +kernel
theorem dMO_gave_29 : decode bMO_gave 29 = .ok (.iconst 1, 1) := by decide +kernel
theorem dMO_gave_30 : decode bMO_gave 30 = .ok (.goto 4, 3) := by decide +kernel
theorem dMO_gave_33 : decode bMO_gave 33 = .ok (.iconst 0, 1) := by decide +kernel
theorem dMO_gave_34 : decode bMO_gave 34 = .ok (.ireturn, 1) := by decide +kernel
theorem dMO_hardship_0 : decode bMO_hardship 0 = .ok (.aload_n 0, 1) := by decide +kernel
theorem dMO_hardship_1 : decode bMO_hardship 1 = .ok (.iconst 0, 1) := by decide +kernel
theorem dMO_hardship_2 : decode bMO_hardship 2 = .ok (.putfield 16, 3) := by decide +kernel
theorem dMO_hardship_5 : decode bMO_hardship 5 = .ok (.aload_n 0, 1) := by decide +kernel
theorem dMO_hardship_6 : decode bMO_hardship 6 = .ok (.iload_n 1, 1) := by decide +kernel
theorem dMO_hardship_7 : decode bMO_hardship 7 = .ok (.invokevirtual 70, 3) := by decide +kernel
theorem dMO_hardship_10 : decode bMO_hardship 10 = .ok (.ifCond .eq 10, 3) := by decide +kernel
theorem dMO_hardship_13 : decode bMO_hardship 13 = .ok (.lload_n 2, 1) := by decide +kernel
theorem dMO_hardship_14 : decode bMO_hardship 14 = .ok (.lload 4, 2) := by decide +kernel
theorem dMO_hardship_16 : decode bMO_hardship 16 = .ok (.lcmp, 1) := by decide +kernel
theorem dMO_hardship_17 : decode bMO_hardship 17 = .ok (.ifCond .le 5, 3) := by decide +kernel
theorem dMO_hardship_20 : decode bMO_hardship 20 = .ok (.iconst 0, 1) := by decide +kernel
theorem dMO_hardship_21 : decode bMO_hardship 21 = .ok (.ireturn, 1) := by decide +kernel
theorem dMO_hardship_22 : decode bMO_hardship 22 = .ok (.aload_n 0, 1) := by decide +kernel
theorem dMO_hardship_23 : decode bMO_hardship 23 = .ok (.getfield 7, 3) := by decide +kernel
theorem dMO_hardship_26 : decode bMO_hardship 26 = .ok (.bipush 40, 2) := by decide +kernel
theorem dMO_hardship_28 : decode bMO_hardship 28 = .ok (.iload_n 1, 1) := by decide +kernel
theorem dMO_hardship_29 : decode bMO_hardship 29 = .ok (.iadd, 1) := by decide +kernel
theorem dMO_hardship_30 : decode bMO_hardship 30 = .ok (.lconst 1, 1) := by decide +kernel
theorem dMO_hardship_31 : decode bMO_hardship 31 = .ok (.lastore, 1) := by decide +kernel
theorem dMO_hardship_32 : decode bMO_hardship 32 = .ok (.aload_n 0, 1) := by decide +kernel
theorem dMO_hardship_33 : decode bMO_hardship 33 = .ok (.getfield 7, 3) := by decide +kernel
theorem dMO_hardship_36 : decode bMO_hardship 36 = .ok (.bipush 50, 2) := by decide +kernel
theorem dMO_hardship_38 : decode bMO_hardship 38 = .ok (.iload_n 1, 1) := by decide +kernel
theorem dMO_hardship_39 : decode bMO_hardship 39 = .ok (.iadd, 1) := by decide +kernel
theorem dMO_hardship_40 : decode bMO_hardship 40 = .ok (.lload_n 2, 1) := by decide +kernel
theorem dMO_hardship_41 : decode bMO_hardship 41 = .ok (.lastore, 1) := by decide +kernel
theorem dMO_hardship_42 : decode bMO_hardship 42 = .ok (.aload_n 0, 1) := by decide +kernel
theorem dMO_hardship_43 : decode bMO_hardship 43 = .ok (.getfield 7, 3) := by decide +kernel
theorem dMO_hardship_46 : decode bMO_hardship 46 = .ok (.bipush 60, 2) := by decide +kernel
theorem dMO_hardship_48 : decode bMO_hardship 48 = .ok (.iload_n 1, 1) := by decide +kernel
theorem dMO_hardship_49 : decode bMO_hardship 49 = .ok (.iadd, 1) := by decide +kernel
theorem dMO_hardship_50 : decode bMO_hardship 50 = .ok (.lload 4, 2) := by decide +kernel
theorem dMO_hardship_52 : decode bMO_hardship 52 = .ok (.lastore, 1) := by decide +kernel
theorem dMO_hardship_53 : decode bMO_hardship 53 = .ok (.iconst 1, 1) := by decide +kernel
theorem dMO_hardship_54 : decode bMO_hardship 54 = .ok (.ireturn, 1) := by decide +kernel
theorem dMO_hasMoved_0 : decode bMO_hasMoved 0 = .ok (.aload_n 0, 1) := by decide +kernel
theorem dMO_hasMoved_1 : decode bMO_hasMoved 1 = .ok (.getfield 7, 3) := by decide +kernel
theorem dMO_hasMoved_4 : decode bMO_hasMoved 4 = .ok (.bipush 70, 2) := by decide +kernel
theorem dMO_hasMoved_6 : decode bMO_hasMoved 6 = .ok (.iload_n 1, 1) := by decide +kernel
theorem dMO_hasMoved_7 : decode bMO_hasMoved 7 = .ok (.iadd, 1) := by decide +kernel
theorem dMO_hasMoved_8 : decode bMO_hasMoved 8 = .ok (.laload, 1) := by decide +kernel
theorem dMO_hasMoved_9 : decode bMO_hasMoved 9 = .ok (.lconst 0, 1) := by decide +kernel
theorem dMO_hasMoved_10 : decode bMO_hasMoved 10 = .ok (.lcmp, 1) := by decide +kernel
theorem dMO_hasMoved_11 : decode bMO_hasMoved 11 = .ok (.ifCond .gt 17, 3) := by decide +kernel
theorem dMO_hasMoved_14 : decode bMO_hasMoved 14 = .ok (.aload_n 0, 1) := by decide +kernel
theorem dMO_hasMoved_15 : decode bMO_hasMoved 15 = .ok (.getfield 7, 3) := by decide +kernel
theorem dMO_hasMoved_18 : decode bMO_hasMoved 18 = .ok (.bipush 80, 2) := by decide +kernel
theorem dMO_hasMoved_20 : decode bMO_hasMoved 20 = .ok (.iload_n 1, 1) := by decide +kernel
theorem dMO_hasMoved_21 : decode bMO_hasMoved 21 = .ok (.iadd, 1) := by decide +kernel
theorem dMO_hasMoved_22 : decode bMO_hasMoved 22 = .ok (.laload, 1) := by decide +kernel
theorem dMO_hasMoved_23 : decode bMO_hasMoved 23 = .ok (.lconst 0, 1) := by decide +kernel
theorem dMO_hasMoved_24 : decode bMO_hasMoved 24 = .ok (.lcmp, 1) := by decide +kernel
theorem dMO_hasMoved_25 : decode bMO_hasMoved 25 = .ok (.ifCond .le 7, 3) := by decide +kernel
theorem dMO_hasMoved_28 : decode bMO_hasMoved 28 = .ok (.iconst 1, 1) := by decide +kernel
theorem dMO_hasMoved_29 : decode bMO_hasMoved 29 = .ok (.goto 4, 3) := by decide +kernel
theorem dMO_hasMoved_32 : decode bMO_hasMoved 32 = .ok (.iconst 0, 1) := by decide +kernel
theorem dMO_hasMoved_33 : decode bMO_hasMoved 33 = .ok (.ireturn, 1) := by decide +kernel
theorem dMO_hasOld_0 : decode bMO_hasOld 0 = .ok (.iconst 0, 1) := by decide +kernel
theorem dMO_hasOld_1 : decode bMO_hasOld 1 = .ok (.istore 4, 2) := by decide +kernel
theorem dMO_hasOld_3 : decode bMO_hasOld 3 = .ok (.iconst 0, 1) := by decide +kernel
theorem dMO_hasOld_4 : decode bMO_hasOld 4 = .ok (.istore 5, 2) := by decide +kernel
theorem dMO_hasOld_6 : decode bMO_hasOld 6 = .ok (.iload 5, 2) := by decide +kernel
theorem dMO_hasOld_8 : decode bMO_hasOld 8 = .ok (.sipush 240, 3) := by decide +kernel
theorem dMO_hasOld_11 : decode bMO_hasOld 11 = .ok (.if_icmp .ge 69, 3) := by decide +kernel
theorem dMO_hasOld_14 : decode bMO_hasOld 14 = .ok (.iload 4, 2) := by decide +kernel
theorem dMO_hasOld_16 : decode bMO_hasOld 16 = .ok (.ifCond .ne 51, 3) := by decide +kernel
theorem dMO_hasOld_19 : decode bMO_hasOld 19 = .ok (.aload_n 0, 1) := by decide +kernel
theorem dMO_hasOld_20 : decode bMO_hasOld 20 = .ok (.iload 5, 2) := by decide +kernel
theorem dMO_hasOld_22 : decode bMO_hasOld 22 = .ok (.iload_n 1, 1) := by decide +kernel
theorem dMO_hasOld_23 : decode bMO_hasOld 23 = .ok (.invokevirtual 64, 3) := by decide +kernel
theorem dMO_hasOld_26 : decode bMO_hasOld 26 = .ok (.ifCond .eq 45, 3) := by decide +kernel
theorem dMO_hasOld_29 : decode bMO_hasOld 29 = .ok (.aload_n 0, 1) := by decide +kernel
theorem dMO_hasOld_30 : decode bMO_hasOld 30 = .ok (.getfield 7, 3) := by decide +kernel
theorem dMO_hasOld_33 : decode bMO_hasOld 33 = .ok (.bipush 100, 2) := by decide +kernel
theorem dMO_hasOld_35 : decode bMO_hasOld 35 = .ok (.iload 5, 2) := by decide +kernel
theorem dMO_hasOld_37 : decode bMO_hasOld 37 = .ok (.bipush 6, 2) := by decide +kernel
theorem dMO_hasOld_39 : decode bMO_hasOld 39 = .ok (.idiv, 1) := by decide +kernel
theorem dMO_hasOld_40 : decode bMO_hasOld 40 = .ok (.iadd, 1) := by decide +kernel
theorem dMO_hasOld_41 : decode bMO_hasOld 41 = .ok (.laload, 1) := by decide +kernel
theorem dMO_hasOld_42 : decode bMO_hasOld 42 = .ok (.ldc2_w 84, 3) := by decide +kernel
theorem dMO_hasOld_45 : decode bMO_hasOld 45 = .ok (.ladd, 1) := by decide +kernel
theorem dMO_hasOld_46 : decode bMO_hasOld 46 = .ok (.lload_n 2, 1) := by decide +kernel
theorem dMO_hasOld_47 : decode bMO_hasOld 47 = .ok (.lcmp, 1) := by decide +kernel
theorem dMO_hasOld_48 : decode bMO_hasOld 48 = .ok (.ifCond .gt 23, 3) := by decide +kernel
theorem dMO_hasOld_51 : decode bMO_hasOld 51 = .ok (.aload_n 0, 1) := by decide +kernel
theorem dMO_hasOld_52 : decode bMO_hasOld 52 = .ok (.getfield 7, 3) := by decide +kernel
theorem dMO_hasOld_55 : decode bMO_hasOld 55 = .ok (.sipush 780, 3) := by decide +kernel
theorem dMO_hasOld_58 : decode bMO_hasOld 58 = .ok (.iload 5, 2) := by decide +kernel
theorem dMO_hasOld_60 : decode bMO_hasOld 60 = .ok (.iadd, 1) := by decide +kernel
theorem dMO_hasOld_61 : decode bMO_hasOld 61 = .ok (.laload, 1) := by decide +kernel
theorem dMO_hasOld_62 : decode bMO_hasOld 62 = .ok (.lconst 0, 1) := by decide +kernel
theorem dMO_hasOld_63 : decode bMO_hasOld 63 = .ok (.lcmp, 1) := by decide +kernel
theorem dMO_hasOld_64 : decode bMO_hasOld 64 = .ok (.ifCond .le 7, 3) := by decide +kernel
theorem dMO_hasOld_67 : decode bMO_hasOld 67 = .ok (.iconst 1, 1) := by decide +kernel
theorem dMO_hasOld_68 : decode bMO_hasOld 68 = .ok (.goto 4, 3) := by decide +kernel
theorem dMO_hasOld_71 : decode bMO_hasOld 71 = .ok (.iconst 0, 1) := by decide +kernel
theorem dMO_hasOld_72 : decode bMO_hasOld 72 = .ok (.istore 4, 2) := by decide +kernel
theorem dMO_hasOld_74 : decode bMO_hasOld 74 = .ok (.iinc 5 1, 3) := by decide +kernel
theorem dMO_hasOld_77 : decode bMO_hasOld 77 = .ok (.goto (-71), 3) := by decide +kernel
theorem dMO_hasOld_80 : decode bMO_hasOld 80 = .ok (.iload 4, 2) := by decide +kernel
theorem dMO_hasOld_82 : decode bMO_hasOld 82 = .ok (.ireturn, 1) := by decide +kernel
theorem dMO_instal_0 : decode bMO_instal 0 = .ok (.aload_n 0, 1) := by decide +kernel
theorem dMO_instal_1 : decode bMO_instal 1 = .ok (.iconst 0, 1) := by decide +kernel
theorem dMO_instal_2 : decode bMO_instal 2 = .ok (.putfield 16, 3) := by decide +kernel
theorem dMO_instal_5 : decode bMO_instal 5 = .ok (.aload_n 0, 1) := by decide +kernel
theorem dMO_instal_6 : decode bMO_instal 6 = .ok (.iload_n 1, 1) := by decide +kernel
theorem dMO_instal_7 : decode bMO_instal 7 = .ok (.invokevirtual 70, 3) := by decide +kernel
theorem dMO_instal_10 : decode bMO_instal 10 = .ok (.ifCond .eq 37, 3) := by decide +kernel
theorem dMO_instal_13 : decode bMO_instal 13 = .ok (.iload_n 2, 1) := by decide +kernel
theorem dMO_instal_14 : decode bMO_instal 14 = .ok (.iconst 1, 1) := by decide +kernel
theorem dMO_instal_15 : decode bMO_instal 15 = .ok (.if_icmp .lt 32, 3) := by decide +kernel
theorem dMO_instal_18 : decode bMO_instal 18 = .ok (.iload_n 2, 1) := by decide +kernel
theorem dMO_instal_19 : decode bMO_instal 19 = .ok (.bipush 24, 2) := by decide +kernel
theorem dMO_instal_21 : decode bMO_instal 21 = .ok (.if_icmp .gt 26, 3) := by decide +kernel
theorem dMO_instal_24 : decode bMO_instal 24 = .ok (.aload_n 0, 1) := by decide +kernel
theorem dMO_instal_25 : decode bMO_instal 25 = .ok (.getfield 7, 3) := by decide +kernel
theorem dMO_instal_28 : decode bMO_instal 28 = .ok (.iconst 3, 1) := by decide +kernel
theorem dMO_instal_29 : decode bMO_instal 29 = .ok (.laload, 1) := by decide +kernel
theorem dMO_instal_30 : decode bMO_instal 30 = .ok (.ldc2_w 94, 3) := by decide +kernel
theorem dMO_instal_33 : decode bMO_instal 33 = .ok (.lcmp, 1) := by decide +kernel
theorem dMO_instal_34 : decode bMO_instal 34 = .ok (.ifCond .eq 13, 3) := by decide +kernel
theorem dMO_instal_37 : decode bMO_instal 37 = .ok (.aload_n 0, 1) := by decide +kernel
theorem dMO_instal_38 : decode bMO_instal 38 = .ok (.iload_n 1, 1) := by decide +kernel
theorem dMO_instal_39 : decode bMO_instal 39 = .ok (.invokevirtual 96, 3) := by decide +kernel
theorem dMO_instal_42 : decode bMO_instal 42 = .ok (.lconst 0, 1) := by decide +kernel
theorem dMO_instal_43 : decode bMO_instal 43 = .ok (.lcmp, 1) := by decide +kernel
theorem dMO_instal_44 : decode bMO_instal 44 = .ok (.ifCond .ne 5, 3) := by decide +kernel
theorem dMO_instal_47 : decode bMO_instal 47 = .ok (.iconst (-1), 1) := by decide +kernel
theorem dMO_instal_48 : decode bMO_instal 48 = .ok (.ireturn, 1) := by decide +kernel
theorem dMO_instal_49 : decode bMO_instal 49 = .ok (.aload_n 0, 1) := by decide +kernel
theorem dMO_instal_50 : decode bMO_instal 50 = .ok (.getfield 7, 3) := by decide +kernel
theorem dMO_instal_53 : decode bMO_instal 53 = .ok (.iconst 3, 1) := by decide +kernel
theorem dMO_instal_54 : decode bMO_instal 54 = .ok (.laload, 1) := by decide +kernel
theorem dMO_instal_55 : decode bMO_instal 55 = .ok (.l2i, 1) := by decide +kernel
theorem dMO_instal_56 : decode bMO_instal 56 = .ok (.istore_n 3, 1) := by decide +kernel
theorem dMO_instal_57 : decode bMO_instal 57 = .ok (.aload_n 0, 1) := by decide +kernel
theorem dMO_instal_58 : decode bMO_instal 58 = .ok (.getfield 7, 3) := by decide +kernel
theorem dMO_instal_61 : decode bMO_instal 61 = .ok (.sipush 1180, 3) := by decide +kernel
theorem dMO_instal_64 : decode bMO_instal 64 = .ok (.iload_n 3, 1) := by decide +kernel
theorem dMO_instal_65 : decode bMO_instal 65 = .ok (.iadd, 1) := by decide +kernel
theorem dMO_instal_66 : decode bMO_instal 66 = .ok (.aload_n 0, 1) := by decide +kernel
theorem dMO_instal_67 : decode bMO_instal 67 = .ok (.iload_n 1, 1) := by decide +kernel
theorem dMO_instal_68 : decode bMO_instal 68 = .ok (.invokevirtual 96, 3) := by decide +kernel
theorem dMO_instal_71 : decode bMO_instal 71 = .ok (.lastore, 1) := by decide +kernel
theorem dMO_instal_72 : decode bMO_instal 72 = .ok (.aload_n 0, 1) := by decide +kernel
theorem dMO_instal_73 : decode bMO_instal 73 = .ok (.getfield 7, 3) := by decide +kernel
theorem dMO_instal_76 : decode bMO_instal 76 = .ok (.sipush 1190, 3) := by decide +kernel
theorem dMO_instal_79 : decode bMO_instal 79 = .ok (.iload_n 3, 1) := by decide +kernel
theorem dMO_instal_80 : decode bMO_instal 80 = .ok (.iadd, 1) := by decide +kernel
theorem dMO_instal_81 : decode bMO_instal 81 = .ok (.iload_n 2, 1) := by decide +kernel
theorem dMO_instal_82 : decode bMO_instal 82 = .ok (.i2l, 1) := by decide +kernel
theorem dMO_instal_83 : decode bMO_instal 83 = .ok (.lastore, 1) := by decide +kernel
theorem dMO_instal_84 : decode bMO_instal 84 = .ok (.aload_n 0, 1) := by decide +kernel
theorem dMO_instal_85 : decode bMO_instal 85 = .ok (.getfield 7, 3) := by decide +kernel
theorem dMO_instal_88 : decode bMO_instal 88 = .ok (.iconst 3, 1) := by decide +kernel
theorem dMO_instal_89 : decode bMO_instal 89 = .ok (.dup2, 1) := by decide +kernel
theorem dMO_instal_90 : decode bMO_instal 90 = .ok (.laload, 1) := by decide +kernel
theorem dMO_instal_91 : decode bMO_instal 91 = .ok (.lconst 1, 1) := by decide +kernel
theorem dMO_instal_92 : decode bMO_instal 92 = .ok (.ladd, 1) := by decide +kernel
theorem dMO_instal_93 : decode bMO_instal 93 = .ok (.lastore, 1) := by decide +kernel
theorem dMO_instal_94 : decode bMO_instal 94 = .ok (.iload_n 3, 1) := by decide +kernel
theorem dMO_instal_95 : decode bMO_instal 95 = .ok (.ireturn, 1) := by decide +kernel
theorem dMO_interest_0 : decode bMO_interest 0 = .ok (.aload_n 0, 1) := by decide +kernel
theorem dMO_interest_1 : decode bMO_interest 1 = .ok (.iconst 0, 1) := by decide +kernel
theorem dMO_interest_2 : decode bMO_interest 2 = .ok (.putfield 16, 3) := by decide +kernel
theorem dMO_interest_5 : decode bMO_interest 5 = .ok (.aload_n 0, 1) := by decide +kernel
theorem dMO_interest_6 : decode bMO_interest 6 = .ok (.iload_n 1, 1) := by decide +kernel
theorem dMO_interest_7 : decode bMO_interest 7 = .ok (.invokevirtual 70, 3) := by decide +kernel
theorem dMO_interest_10 : decode bMO_interest 10 = .ok (.ifCond .eq 21, 3) := by decide +kernel
theorem dMO_interest_13 : decode bMO_interest 13 = .ok (.lload_n 2, 1) := by decide +kernel
theorem dMO_interest_14 : decode bMO_interest 14 = .ok (.invokestatic 36, 3) := by decide +kernel
theorem dMO_interest_17 : decode bMO_interest 17 = .ok (.ifCond .eq 14, 3) := by decide +kernel
theorem dMO_interest_20 : decode bMO_interest 20 = .ok (.iload 4, 2) := by decide +kernel
theorem dMO_interest_22 : decode bMO_interest 22 = .ok (.ifCond .lt 9, 3) := by decide +kernel
theorem dMO_interest_25 : decode bMO_interest 25 = .ok (.iload 4, 2) := by decide +kernel
theorem dMO_interest_27 : decode bMO_interest 27 = .ok (.iconst 2, 1) := by decide +kernel
theorem dMO_interest_28 : decode bMO_interest 28 = .ok (.if_icmp .le 7, 3) := by decide +kernel
theorem dMO_interest_31 : decode bMO_interest 31 = .ok (.ldc2_w 79, 3) := by decide +kernel
theorem dMO_interest_34 : decode bMO_interest 34 = .ok (.lreturn, 1) := by decide +kernel
theorem dMO_interest_35 : decode bMO_interest 35 = .ok (.lconst 0, 1) := by decide +kernel
theorem dMO_interest_36 : decode bMO_interest 36 = .ok (.lstore 5, 2) := by decide +kernel
theorem dMO_interest_38 : decode bMO_interest 38 = .ok (.iconst 0, 1) := by decide +kernel
theorem dMO_interest_39 : decode bMO_interest 39 = .ok (.istore 7, 2) := by decide +kernel
theorem dMO_interest_41 : decode bMO_interest 41 = .ok (.iload 7, 2) := by decide +kernel
theorem dMO_interest_43 : decode bMO_interest 43 = .ok (.sipush 240, 3) := by decide +kernel
theorem dMO_interest_46 : decode bMO_interest 46 = .ok (.if_icmp .ge 74, 3) := by decide +kernel
theorem dMO_interest_49 : decode bMO_interest 49 = .ok (.aload_n 0, 1) := by decide +kernel
theorem dMO_interest_50 : decode bMO_interest 50 = .ok (.iload 7, 2) := by decide +kernel
theorem dMO_interest_52 : decode bMO_interest 52 = .ok (.iload_n 1, 1) := by decide +kernel
theorem dMO_interest_53 : decode bMO_interest 53 = .ok (.invokevirtual 64, 3) := by decide +kernel
theorem dMO_interest_56 : decode bMO_interest 56 = .ok (.ifCond .eq 25, 3) := by decide +kernel
theorem dMO_interest_59 : decode bMO_interest 59 = .ok (.lload_n 2, 1) := by decide +kernel
theorem dMO_interest_60 : decode bMO_interest 60 = .ok (.aload_n 0, 1) := by decide +kernel
theorem dMO_interest_61 : decode bMO_interest 61 = .ok (.getfield 7, 3) := by decide +kernel
theorem dMO_interest_64 : decode bMO_interest 64 = .ok (.bipush 100, 2) := by decide +kernel
theorem dMO_interest_66 : decode bMO_interest 66 = .ok (.iload 7, 2) := by decide +kernel
theorem dMO_interest_68 : decode bMO_interest 68 = .ok (.bipush 6, 2) := by decide +kernel
theorem dMO_interest_70 : decode bMO_interest 70 = .ok (.idiv, 1) := by decide +kernel
theorem dMO_interest_71 : decode bMO_interest 71 = .ok (.iadd, 1) := by decide +kernel
theorem dMO_interest_72 : decode bMO_interest 72 = .ok (.laload, 1) := by decide +kernel
theorem dMO_interest_73 : decode bMO_interest 73 = .ok (.lsub, 1) := by decide +kernel
theorem dMO_interest_74 : decode bMO_interest 74 = .ok (.ldc2_w 30, 3) := by decide +kernel
theorem dMO_interest_77 : decode bMO_interest 77 = .ok (.lsub, 1) := by decide +kernel
theorem dMO_interest_78 : decode bMO_interest 78 = .ok (.goto 4, 3) := by decide +kernel
theorem dMO_interest_81 : decode bMO_interest 81 = .ok (.lconst 0, 1) := by decide +kernel
theorem dMO_interest_82 : decode bMO_interest 82 = .ok (.lstore 8, 2) := by decide +kernel
theorem dMO_interest_84 : decode bMO_interest 84 = .ok (.lload 5, 2) := by decide +kernel
theorem dMO_interest_86 : decode bMO_interest 86 = .ok (.lload 8, 2) := by decide +kernel
theorem dMO_interest_88 : decode bMO_interest 88 = .ok (.lconst 0, 1) := by decide +kernel
theorem dMO_interest_89 : decode bMO_interest 89 = .ok (.lcmp, 1) := by decide +kernel
theorem dMO_interest_90 : decode bMO_interest 90 = .ok (.ifCond .le 20, 3) := by decide +kernel
theorem dMO_interest_93 : decode bMO_interest 93 = .ok (.lload 8, 2) := by decide +kernel
theorem dMO_interest_95 : decode bMO_interest 95 = .ok (.aload_n 0, 1) := by decide +kernel
theorem dMO_interest_96 : decode bMO_interest 96 = .ok (.getfield 7, 3) := by decide +kernel
theorem dMO_interest_99 : decode bMO_interest 99 = .ok (.sipush 780, 3) := by decide +kernel
theorem dMO_interest_102 : decode bMO_interest 102 = .ok (.iload 7, 2) := by decide +kernel
theorem dMO_interest_104 : decode bMO_interest 104 = .ok (.iadd, 1) := by decide +kernel
theorem dMO_interest_105 : decode bMO_interest 105 = .ok (.laload, 1) := by decide +kernel
theorem dMO_interest_106 : decode bMO_interest 106 = .ok (.lmul, 1) := by decide +kernel
theorem dMO_interest_107 : decode bMO_interest 107 = .ok (.goto 4, 3) := by decide +kernel
theorem dMO_interest_110 : decode bMO_interest 110 = .ok (.lconst 0, 1) := by decide +kernel
theorem dMO_interest_111 : decode bMO_interest 111 = .ok (.ladd, 1) := by decide +kernel
theorem dMO_interest_112 : decode bMO_interest 112 = .ok (.lstore 5, 2) := by decide +kernel
theorem dMO_interest_114 : decode bMO_interest 114 = .ok (.iinc 7 1, 3) := by decide +kernel
theorem dMO_interest_117 : decode bMO_interest 117 = .ok (.goto (-76), 3) := by decide +kernel
theorem dMO_interest_120 : decode bMO_interest 120 = .ok (.lload 5, 2) := by decide +kernel
theorem dMO_interest_122 : decode bMO_interest 122 = .ok (.aload_n 0, 1) := by decide +kernel
theorem dMO_interest_123 : decode bMO_interest 123 = .ok (.getfield 7, 3) := by decide +kernel
theorem dMO_interest_126 : decode bMO_interest 126 = .ok (.iconst 5, 1) := by decide +kernel
theorem dMO_interest_127 : decode bMO_interest 127 = .ok (.laload, 1) := by decide +kernel

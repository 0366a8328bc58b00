theorem dMO_reverse_37 : decode bMO_reverse 37 = .ok (.laload, 1) := by decide +kernel
theorem dMO_reverse_38 : decode bMO_reverse 38 = .ok (.lconst 0, 1) := by decide +kernel
theorem dMO_reverse_39 : decode bMO_reverse 39 = .ok (.lcmp, 1) := by decide +kernel
theorem dMO_reverse_40 : decode bMO_reverse 40 = .ok (.ifCond .gt 46, 3) := by decide +kernel
theorem dMO_reverse_43 : decode bMO_reverse 43 = .ok (.aload_n 0, 1) := by decide +kernel
theorem dMO_reverse_44 : decode bMO_reverse 44 = .ok (.getfield 7, 3) := by decide +kernel
theorem dMO_reverse_47 : decode bMO_reverse 47 = .ok (.sipush 180, 3) := by decide +kernel
theorem dMO_reverse_50 : decode bMO_reverse 50 = .ok (.iload_n 1, 1) := by decide +kernel
theorem dMO_reverse_51 : decode bMO_reverse 51 = .ok (.iadd, 1) := by decide +kernel
theorem dMO_reverse_52 : decode bMO_reverse 52 = .ok (.laload, 1) := by decide +kernel
theorem dMO_reverse_53 : decode bMO_reverse 53 = .ok (.lconst 0, 1) := by decide +kernel
theorem dMO_reverse_54 : decode bMO_reverse 54 = .ok (.lcmp, 1) := by decide +kernel
theorem dMO_reverse_55 : decode bMO_reverse 55 = .ok (.ifCond .gt 31, 3) := by decide +kernel
theorem dMO_reverse_58 : decode bMO_reverse 58 = .ok (.aload_n 0, 1) := by decide +kernel
theorem dMO_reverse_59 : decode bMO_reverse 59 = .ok (.iload_n 1, 1) := by decide +kernel
theorem dMO_reverse_60 : decode bMO_reverse 60 = .ok (.invokevirtual 120, 3) := by decide +kernel
theorem dMO_reverse_63 : decode bMO_reverse 63 = .ok (.ifCond .ne 23, 3) := by decide +kernel
theorem dMO_reverse_66 : decode bMO_reverse 66 = .ok (.lload_n 2, 1) := by decide +kernel
theorem dMO_reverse_67 : decode bMO_reverse 67 = .ok (.invokestatic 36, 3) := by decide +kernel
theorem dMO_reverse_70 : decode bMO_reverse 70 = .ok (.ifCond .eq 16, 3) := by decide +kernel
theorem dMO_reverse_73 : decode bMO_reverse 73 = .ok (.aload_n 0, 1) := by decide +kernel
theorem dMO_reverse_74 : decode bMO_reverse 74 = .ok (.getfield 7, 3) := by decide +kernel
theorem dMO_reverse_77 : decode bMO_reverse 77 = .ok (.iconst 1, 1) := by decide +kernel
theorem dMO_reverse_78 : decode bMO_reverse 78 = .ok (.laload, 1) := by decide +kernel
theorem dMO_reverse_79 : decode bMO_reverse 79 = .ok (.ldc2_w 34, 3) := by decide +kernel
theorem dMO_reverse_82 : decode bMO_reverse 82 = .ok (.lcmp, 1) := by decide +kernel
theorem dMO_reverse_83 : decode bMO_reverse 83 = .ok (.ifCond .ne 5, 3) := by decide +kernel
theorem dMO_reverse_86 : decode bMO_reverse 86 = .ok (.iconst (-1), 1) := by decide +kernel
theorem dMO_reverse_87 : decode bMO_reverse 87 = .ok (.ireturn, 1) := by decide +kernel
theorem dMO_reverse_88 : decode bMO_reverse 88 = .ok (.aload_n 0, 1) := by decide +kernel
theorem dMO_reverse_89 : decode bMO_reverse 89 = .ok (.lload_n 2, 1) := by decide +kernel
theorem dMO_reverse_90 : decode bMO_reverse 90 = .ok (.iconst 2, 1) := by decide +kernel
theorem dMO_reverse_91 : decode bMO_reverse 91 = .ok (.invokevirtual 43, 3) := by decide +kernel
theorem dMO_reverse_94 : decode bMO_reverse 94 = .ok (.istore 4, 2) := by decide +kernel
theorem dMO_reverse_96 : decode bMO_reverse 96 = .ok (.iconst 0, 1) := by decide +kernel
theorem dMO_reverse_97 : decode bMO_reverse 97 = .ok (.istore 5, 2) := by decide +kernel
theorem dMO_reverse_99 : decode bMO_reverse 99 = .ok (.iload 5, 2) := by decide +kernel
theorem dMO_reverse_101 : decode bMO_reverse 101 = .ok (.i2l, 1) := by decide +kernel
theorem dMO_reverse_102 : decode bMO_reverse 102 = .ok (.aload_n 0, 1) := by decide +kernel
theorem dMO_reverse_103 : decode bMO_reverse 103 = .ok (.getfield 7, 3) := by decide +kernel
theorem dMO_reverse_106 : decode bMO_reverse 106 = .ok (.sipush 260, 3) := by decide +kernel
theorem dMO_reverse_109 : decode bMO_reverse 109 = .ok (.iload_n 1, 1) := by decide +kernel
theorem dMO_reverse_110 : decode bMO_reverse 110 = .ok (.iadd, 1) := by decide +kernel
theorem dMO_reverse_111 : decode bMO_reverse 111 = .ok (.laload, 1) := by decide +kernel
theorem dMO_reverse_112 : decode bMO_reverse 112 = .ok (.lcmp, 1) := by decide +kernel
theorem dMO_reverse_113 : decode bMO_reverse 113 = .ok (.ifCond .ge 66, 3) := by decide +kernel
theorem dMO_reverse_116 : decode bMO_reverse 116 = .ok (.aload_n 0, 1) := by decide +kernel
theorem dMO_reverse_117 : decode bMO_reverse 117 = .ok (.iload 4, 2) := by decide +kernel
theorem dMO_reverse_119 : decode bMO_reverse 119 = .ok (.aload_n 0, 1) := by decide +kernel
theorem dMO_reverse_120 : decode bMO_reverse 120 = .ok (.getfield 7, 3) := by decide +kernel
theorem dMO_reverse_123 : decode bMO_reverse 123 = .ok (.sipush 300, 3) := by decide +kernel
theorem dMO_reverse_126 : decode bMO_reverse 126 = .ok (.bipush 6, 2) := by decide +kernel
theorem dMO_reverse_128 : decode bMO_reverse 128 = .ok (.iload_n 1, 1) := by decide +kernel
theorem dMO_reverse_129 : decode bMO_reverse 129 = .ok (.imul, 1) := by decide +kernel
theorem dMO_reverse_130 : decode bMO_reverse 130 = .ok (.iadd, 1) := by decide +kernel
theorem dMO_reverse_131 : decode bMO_reverse 131 = .ok (.iload 5, 2) := by decide +kernel
theorem dMO_reverse_133 : decode bMO_reverse 133 = .ok (.iadd, 1) := by decide +kernel
theorem dMO_reverse_134 : decode bMO_reverse 134 = .ok (.laload, 1) := by decide +kernel
theorem dMO_reverse_135 : decode bMO_reverse 135 = .ok (.l2i, 1) := by decide +kernel
theorem dMO_reverse_136 : decode bMO_reverse 136 = .ok (.aload_n 0, 1) := by decide +kernel
theorem dMO_reverse_137 : decode bMO_reverse 137 = .ok (.getfield 7, 3) := by decide +kernel
theorem dMO_reverse_140 : decode bMO_reverse 140 = .ok (.sipush 540, 3) := by decide +kernel
theorem dMO_reverse_143 : decode bMO_reverse 143 = .ok (.bipush 6, 2) := by decide +kernel
theorem dMO_reverse_145 : decode bMO_reverse 145 = .ok (.iload_n 1, 1) := by decide +kernel
theorem dMO_reverse_146 : decode bMO_reverse 146 = .ok (.imul, 1) := by decide +kernel
theorem dMO_reverse_147 : decode bMO_reverse 147 = .ok (.iadd, 1) := by decide +kernel
theorem dMO_reverse_148 : decode bMO_reverse 148 = .ok (.iload 5, 2) := by decide +kernel
theorem dMO_reverse_150 : decode bMO_reverse 150 = .ok (.iadd, 1) := by decide +kernel
theorem dMO_reverse_151 : decode bMO_reverse 151 = .ok (.laload, 1) := by decide +kernel
theorem dMO_reverse_152 : decode bMO_reverse 152 = .ok (.lneg, 1) := by decide +kernel
theorem dMO_reverse_153 : decode bMO_reverse 153 = .ok (.invokevirtual 56, 3) := by decide +kernel
theorem dMO_reverse_156 : decode bMO_reverse 156 = .ok (.aload_n 0, 1) := by decide +kernel
theorem dMO_reverse_157 : decode bMO_reverse 157 = .ok (.getfield 7, 3) := by decide +kernel
theorem dMO_reverse_160 : decode bMO_reverse 160 = .ok (.sipush 780, 3) := by decide +kernel
theorem dMO_reverse_163 : decode bMO_reverse 163 = .ok (.bipush 6, 2) := by decide +kernel
theorem dMO_reverse_165 : decode bMO_reverse 165 = .ok (.iload_n 1, 1) := by decide +kernel
theorem dMO_reverse_166 : decode bMO_reverse 166 = .ok (.imul, 1) := by decide +kernel
theorem dMO_reverse_167 : decode bMO_reverse 167 = .ok (.iadd, 1) := by decide +kernel
theorem dMO_reverse_168 : decode bMO_reverse 168 = .ok (.iload 5, 2) := by decide +kernel
theorem dMO_reverse_170 : decode bMO_reverse 170 = .ok (.iadd, 1) := by decide +kernel
theorem dMO_reverse_171 : decode bMO_reverse 171 = .ok (.lconst 0, 1) := by decide +kernel
theorem dMO_reverse_172 : decode bMO_reverse 172 = .ok (.lastore, 1) := by decide +kernel
theorem dMO_reverse_173 : decode bMO_reverse 173 = .ok (.iinc 5 1, 3) := by decide +kernel
theorem dMO_reverse_176 : decode bMO_reverse 176 = .ok (.goto (-77), 3) := by decide +kernel
theorem dMO_reverse_179 : decode bMO_reverse 179 = .ok (.aload_n 0, 1) := by decide +kernel
theorem dMO_reverse_180 : decode bMO_reverse 180 = .ok (.getfield 7, 3) := by decide +kernel
theorem dMO_reverse_183 : decode bMO_reverse 183 = .ok (.sipush 140, 3) := by decide +kernel
theorem dMO_reverse_186 : decode bMO_reverse 186 = .ok (.iload 4, 2) := by decide +kernel
theorem dMO_reverse_188 : decode bMO_reverse 188 = .ok (.iadd, 1) := by decide +kernel
theorem dMO_reverse_189 : decode bMO_reverse 189 = .ok (.lconst 1, 1) := by decide +kernel
theorem dMO_reverse_190 : decode bMO_reverse 190 = .ok (.lastore, 1) := by decide +kernel
theorem dMO_reverse_191 : decode bMO_reverse 191 = .ok (.aload_n 0, 1) := by decide +kernel
theorem dMO_reverse_192 : decode bMO_reverse 192 = .ok (.getfield 7, 3) := by decide +kernel
theorem dMO_reverse_195 : decode bMO_reverse 195 = .ok (.sipush 220, 3) := by decide +kernel
theorem dMO_reverse_198 : decode bMO_reverse 198 = .ok (.iload_n 1, 1) := by decide +kernel
theorem dMO_reverse_199 : decode bMO_reverse 199 = .ok (.iadd, 1) := by decide +kernel
theorem dMO_reverse_200 : decode bMO_reverse 200 = .ok (.lconst 1, 1) := by decide +kernel
theorem dMO_reverse_201 : decode bMO_reverse 201 = .ok (.lastore, 1) := by decide +kernel
theorem dMO_reverse_202 : decode bMO_reverse 202 = .ok (.iload 4, 2) := by decide +kernel
theorem dMO_reverse_204 : decode bMO_reverse 204 = .ok (.ireturn, 1) := by decide +kernel
theorem dMO_row_0 : decode bMO_row 0 = .ok (.aload_n 0, 1) := by decide +kernel
theorem dMO_row_1 : decode bMO_row 1 = .ok (.iconst 0, 1) := by decide +kernel
theorem dMO_row_2 : decode bMO_row 2 = .ok (.putfield 16, 3) := by decide +kernel
theorem dMO_row_5 : decode bMO_row 5 = .ok (.aload_n 0, 1) := by decide +kernel
theorem dMO_row_6 : decode bMO_row 6 = .ok (.iload_n 1, 1) := by decide +kernel
theorem dMO_row_7 : decode bMO_row 7 = .ok (.invokevirtual 47, 3) := by decide +kernel
theorem dMO_row_10 : decode bMO_row 10 = .ok (.ifCond .eq 62, 3) := by decide +kernel
theorem dMO_row_13 : decode bMO_row 13 = .ok (.aload_n 0, 1) := by decide +kernel
theorem dMO_row_14 : decode bMO_row 14 = .ok (.iload_n 2, 1) := by decide +kernel
theorem dMO_row_15 : decode bMO_row 15 = .ok (.invokevirtual 20, 3) := by decide +kernel
theorem dMO_row_18 : decode bMO_row 18 = .ok (.ifCond .eq 54, 3) := by decide +kernel
theorem dMO_row_21 : decode bMO_row 21 = .ok (.aload_n 0, 1) := by decide +kernel
theorem dMO_row_22 : decode bMO_row 22 = .ok (.getfield 7, 3) := by decide +kernel
theorem dMO_row_25 : decode bMO_row 25 = .ok (.sipush 140, 3) := by decide +kernel
theorem dMO_row_28 : decode bMO_row 28 = .ok (.iload_n 1, 1) := by decide +kernel
theorem dMO_row_29 : decode bMO_row 29 = .ok (.iadd, 1) := by decide +kernel
theorem dMO_row_30 : decode bMO_row 30 = .ok (.laload, 1) := by decide +kernel
theorem dMO_row_31 : decode bMO_row 31 = .ok (.lconst 0, 1) := by decide +kernel
theorem dMO_row_32 : decode bMO_row 32 = .ok (.lcmp, 1) := by decide +kernel
theorem dMO_row_33 : decode bMO_row 33 = .ok (.ifCond .gt 39, 3) := by decide +kernel
theorem dMO_row_36 : decode bMO_row 36 = .ok (.aload_n 0, 1) := by decide +kernel
theorem dMO_row_37 : decode bMO_row 37 = .ok (.getfield 7, 3) := by decide +kernel
theorem dMO_row_40 : decode bMO_row 40 = .ok (.sipush 260, 3) := by decide +kernel
theorem dMO_row_43 : decode bMO_row 43 = .ok (.iload_n 1, 1) := by decide +kernel
theorem dMO_row_44 : decode bMO_row 44 = .ok (.iadd, 1) := by decide +kernel
theorem dMO_row_45 : decode bMO_row 45 = .ok (.laload, 1) := by decide +kernel
theorem dMO_row_46 : decode bMO_row 46 = .ok (.ldc2_w 50, 3) := by decide +kernel
theorem dMO_row_49 : decode bMO_row 49 = .ok (.lcmp, 1) := by decide +kernel
theorem dMO_row_50 : decode bMO_row 50 = .ok (.ifCond .eq 22, 3) := by decide +kernel
theorem dMO_row_53 : decode bMO_row 53 = .ok (.lload_n 3, 1) := by decide +kernel
theorem dMO_row_54 : decode bMO_row 54 = .ok (.lconst 0, 1) := by decide +kernel
theorem dMO_row_55 : decode bMO_row 55 = .ok (.lcmp, 1) := by decide +kernel
theorem dMO_row_56 : decode bMO_row 56 = .ok (.ifCond .eq 16, 3) := by decide +kernel
theorem dMO_row_59 : decode bMO_row 59 = .ok (.lload_n 3, 1) := by decide +kernel
theorem dMO_row_60 : decode bMO_row 60 = .ok (.ldc2_w 52, 3) := by decide +kernel
theorem dMO_row_63 : decode bMO_row 63 = .ok (.ldc2_w 54, 3) := by decide +kernel
theorem dMO_row_66 : decode bMO_row 66 = .ok (.invokestatic 26, 3) := by decide +kernel
theorem dMO_row_69 : decode bMO_row 69 = .ok (.ifCond .ne 5, 3) := by decide +kernel
theorem dMO_row_72 : decode bMO_row 72 = .ok (.iconst 0, 1) := by decide +kernel
theorem dMO_row_73 : decode bMO_row 73 = .ok (.ireturn, 1) := by decide +kernel
theorem dMO_row_74 : decode bMO_row 74 = .ok (.aload_n 0, 1) := by decide +kernel
theorem dMO_row_75 : decode bMO_row 75 = .ok (.iload_n 1, 1) := by decide +kernel
theorem dMO_row_76 : decode bMO_row 76 = .ok (.iload_n 2, 1) := by decide +kernel
theorem dMO_row_77 : decode bMO_row 77 = .ok (.lload_n 3, 1) := by decide +kernel
theorem dMO_row_78 : decode bMO_row 78 = .ok (.invokevirtual 56, 3) := by decide +kernel
theorem dMO_row_81 : decode bMO_row 81 = .ok (.iconst 1, 1) := by decide +kernel
theorem dMO_row_82 : decode bMO_row 82 = .ok (.ireturn, 1) := by decide +kernel
theorem dMO_share_0 : decode bMO_share 0 = .ok (.aload_n 0, 1) := by decide +kernel
theorem dMO_share_1 : decode bMO_share 1 = .ok (.iconst 0, 1) := by decide +kernel
theorem dMO_share_2 : decode bMO_share 2 = .ok (.putfield 16, 3) := by decide +kernel
theorem dMO_share_5 : decode bMO_share 5 = .ok (.aload_n 0, 1) := by decide +kernel
theorem dMO_share_6 : decode bMO_share 6 = .ok (.iload_n 1, 1) := by decide +kernel
theorem dMO_share_7 : decode bMO_share 7 = .ok (.invokevirtual 70, 3) := by decide +kernel
theorem dMO_share_10 : decode bMO_share 10 = .ok (.ifCond .eq 22, 3) := by decide +kernel
theorem dMO_share_13 : decode bMO_share 13 = .ok (.iload_n 2, 1) := by decide +kernel
theorem dMO_share_14 : decode bMO_share 14 = .ok (.ifCond .lt 18, 3) := by decide +kernel
theorem dMO_share_17 : decode bMO_share 17 = .ok (.iload_n 2, 1) := by decide +kernel
theorem dMO_share_18 : decode bMO_share 18 = .ok (.bipush 120, 2) := by decide +kernel
theorem dMO_share_20 : decode bMO_share 20 = .ok (.if_icmp .ge 12, 3) := by decide +kernel
theorem dMO_share_23 : decode bMO_share 23 = .ok (.iload_n 3, 1) := by decide +kernel
theorem dMO_share_24 : decode bMO_share 24 = .ok (.ifCond .lt 8, 3) := by decide +kernel
theorem dMO_share_27 : decode bMO_share 27 = .ok (.iload_n 3, 1) := by decide +kernel
theorem dMO_share_28 : decode bMO_share 28 = .ok (.iconst 1, 1) := by decide +kernel
theorem dMO_share_29 : decode bMO_share 29 = .ok (.if_icmp .le 7, 3) := by decide +kernel
theorem dMO_share_32 : decode bMO_share 32 = .ok (.ldc2_w 79, 3) := by decide +kernel
theorem dMO_share_35 : decode bMO_share 35 = .ok (.lreturn, 1) := by decide +kernel
theorem dMO_share_36 : decode bMO_share 36 = .ok (.iconst 0, 1) := by decide +kernel
theorem dMO_share_37 : decode bMO_share 37 = .ok (.istore 4, 2) := by decide +kernel
theorem dMO_share_39 : decode bMO_share 39 = .ok (.bipush 30, 2) := by decide +kernel
theorem dMO_share_41 : decode bMO_share 41 = .ok (.iload_n 2, 1) := by decide +kernel
theorem dMO_share_42 : decode bMO_share 42 = .ok (.imul, 1) := by decide +kernel
theorem dMO_share_43 : decode bMO_share 43 = .ok (.istore 5, 2) := by decide +kernel
theorem dMO_share_45 : decode bMO_share 45 = .ok (.iload 5, 2) := by decide +kernel
theorem dMO_share_47 : decode bMO_share 47 = .ok (.bipush 30, 2) := by decide +kernel
theorem dMO_share_49 : decode bMO_share 49 = .ok (.iload_n 2, 1) := by decide +kernel
theorem dMO_share_50 : decode bMO_share 50 = .ok (.imul, 1) := by decide +kernel
theorem dMO_share_51 : decode bMO_share 51 = .ok (.bipush 30, 2) := by decide +kernel
theorem dMO_share_53 : decode bMO_share 53 = .ok (.iadd, 1) := by decide +kernel
theorem dMO_share_54 : decode bMO_share 54 = .ok (.if_icmp .ge 107, 3) := by decide +kernel
theorem dMO_share_57 : decode bMO_share 57 = .ok (.aload_n 0, 1) := by decide +kernel
theorem dMO_share_58 : decode bMO_share 58 = .ok (.getfield 7, 3) := by decide +kernel
theorem dMO_share_61 : decode bMO_share 61 = .ok (.bipush 70, 2) := by decide +kernel
theorem dMO_share_63 : decode bMO_share 63 = .ok (.iload_n 1, 1) := by decide +kernel
theorem dMO_share_64 : decode bMO_share 64 = .ok (.iadd, 1) := by decide +kernel
theorem dMO_share_65 : decode bMO_share 65 = .ok (.laload, 1) := by decide +kernel
theorem dMO_share_66 : decode bMO_share 66 = .ok (.lconst 0, 1) := by decide +kernel
theorem dMO_share_67 : decode bMO_share 67 = .ok (.lcmp, 1) := by decide +kernel
theorem dMO_share_68 : decode bMO_share 68 = .ok (.ifCond .le 25, 3) := by decide +kernel
theorem dMO_share_71 : decode bMO_share 71 = .ok (.iload 5, 2) := by decide +kernel
theorem dMO_share_73 : decode bMO_share 73 = .ok (.i2l, 1) := by decide +kernel
theorem dMO_share_74 : decode bMO_share 74 = .ok (.aload_n 0, 1) := by decide +kernel
theorem dMO_share_75 : decode bMO_share 75 = .ok (.getfield 7, 3) := by decide +kernel
theorem dMO_share_78 : decode bMO_share 78 = .ok (.bipush 70, 2) := by decide +kernel
theorem dMO_share_80 : decode bMO_share 80 = .ok (.iload_n 1, 1) := by decide +kernel
theorem dMO_share_81 : decode bMO_share 81 = .ok (.iadd, 1) := by decide +kernel
theorem dMO_share_82 : decode bMO_share 82 = .ok (.laload, 1) := by decide +kernel
theorem dMO_share_83 : decode bMO_share 83 = .ok (.lconst 1, 1) := by decide +kernel
theorem dMO_share_84 : decode bMO_share 84 = .ok (.lsub, 1) := by decide +kernel
theorem dMO_share_85 : decode bMO_share 85 = .ok (.lcmp, 1) := by decide +kernel
theorem dMO_share_86 : decode bMO_share 86 = .ok (.ifCond .lt 7, 3) := by decide +kernel
theorem dMO_share_89 : decode bMO_share 89 = .ok (.iconst 1, 1) := by decide +kernel
theorem dMO_share_90 : decode bMO_share 90 = .ok (.goto 4, 3) := by decide +kernel
theorem dMO_share_93 : decode bMO_share 93 = .ok (.iconst 0, 1) := by decide +kernel
theorem dMO_share_94 : decode bMO_share 94 = .ok (.istore 6, 2) := by decide +kernel
theorem dMO_share_96 : decode bMO_share 96 = .ok (.aload_n 0, 1) := by decide +kernel
theorem dMO_share_97 : decode bMO_share 97 = .ok (.getfield 7, 3) := by decide +kernel
theorem dMO_share_100 : decode bMO_share 100 = .ok (.bipush 80, 2) := by decide +kernel
theorem dMO_share_102 : decode bMO_share 102 = .ok (.iload_n 1, 1) := by decide +kernel
theorem dMO_share_103 : decode bMO_share 103 = .ok (.iadd, 1) := by decide +kernel
theorem dMO_share_104 : decode bMO_share 104 = .ok (.laload, 1) := by decide +kernel
theorem dMO_share_105 : decode bMO_share 105 = .ok (.lconst 0, 1) := by decide +kernel
theorem dMO_share_106 : decode bMO_share 106 = .ok (.lcmp, 1) := by decide +kernel
theorem dMO_share_107 : decode bMO_share 107 = .ok (.ifCond .le 25, 3) := by decide +kernel
theorem dMO_share_110 : decode bMO_share 110 = .ok (.iload 5, 2) := by decide +kernel
theorem dMO_share_112 : decode bMO_share 112 = .ok (.i2l, 1) := by decide +kernel
theorem dMO_share_113 : decode bMO_share 113 = .ok (.aload_n 0, 1) := by decide +kernel
theorem dMO_share_114 : decode bMO_share 114 = .ok (.getfield 7, 3) := by decide +kernel
theorem dMO_share_117 : decode bMO_share 117 = .ok (.bipush 80, 2) := by decide +kernel
theorem dMO_share_119 : decode bMO_share 119 = .ok (.iload_n 1, 1) := by decide +kernel
theorem dMO_share_120 : decode bMO_share 120 = .ok (.iadd, 1) := by decide +kernel
theorem dMO_share_121 : decode bMO_share 121 = .ok (.laload, 1) := by decide +kernel
theorem dMO_share_122 : decode bMO_share 122 = .ok (.lconst 1, 1) := by decide +kernel
theorem dMO_share_123 : decode bMO_share 123 = .ok (.lsub, 1) := by decide +kernel
theorem dMO_share_124 : decode bMO_share 124 = .ok (.lcmp, 1) := by decide +kernel
theorem dMO_share_125 : decode bMO_share 125 = .ok (.ifCond .ge 7, 3) := by decide +kernel
theorem dMO_share_128 : decode bMO_share 128 = .ok (.iconst 1, 1) := by decide +kernel
theorem dMO_share_129 : decode bMO_share 129 = .ok (.goto 4, 3) := by decide +kernel
theorem dMO_share_132 : decode bMO_share 132 = .ok (.iconst 0, 1) := by decide +kernel
theorem dMO_share_133 : decode bMO_share 133 = .ok (.istore 7, 2) := by decide +kernel
theorem dMO_share_135 : decode bMO_share 135 = .ok (.iload 4, 2) := by decide +kernel
theorem dMO_share_137 : decode bMO_share 137 = .ok (.iload 6, 2) := by decide +kernel
theorem dMO_share_139 : decode bMO_share 139 = .ok (.ifCond .ne 8, 3) := by decide +kernel
theorem dMO_share_142 : decode bMO_share 142 = .ok (.iload 7, 2) := by decide +kernel
theorem dMO_share_144 : decode bMO_share 144 = .ok (.ifCond .eq 7, 3) := by decide +kernel
theorem dMO_share_147 : decode bMO_share 147 = .ok (.iconst 0, 1) := by decide +kernel
theorem dMO_share_148 : decode bMO_share 148 = .ok (.goto 4, 3) := by decide +kernel
theorem dMO_share_151 : decode bMO_share 151 = .ok (.iconst 1, 1) := by decide +kernel
theorem dMO_share_152 : decode bMO_share 152 = .ok (.iadd, 1) := by decide +kernel
theorem dMO_share_153 : decode bMO_share 153 = .ok (.istore 4, 2) := by decide +kernel
theorem dMO_share_155 : decode bMO_share 155 = .ok (.iinc 5 1, 3) := by decide +kernel
theorem dMO_share_158 : decode bMO_share 158 = .ok (.goto (-113), 3) := by decide +kernel
theorem dMO_share_161 : decode bMO_share 161 = .ok (.iload 4, 2) := by decide +kernel
theorem dMO_share_163 : decode bMO_share 163 = .ok (.i2l, 1) := by decide +kernel
theorem dMO_share_164 : decode bMO_share 164 = .ok (.ldc2_w 30, 3) := by decide +kernel
theorem dMO_share_167 : decode bMO_share 167 = .ok (.iload_n 3, 1) := by decide +kernel
theorem dMO_share_168 : decode bMO_share 168 = .ok (.invokestatic 107, 3) := by decide +kernel
theorem dMO_share_171 : decode bMO_share 171 = .ok (.lreturn, 1) := by decide +kernel
theorem dMO_statement_0 : decode bMO_statement 0 = .ok (.aload_n 0, 1) := by decide +kernel
theorem dMO_statement_1 : decode bMO_statement 1 = .ok (.iconst 0, 1) := by decide +kernel
theorem dMO_statement_2 : decode bMO_statement 2 = .ok (.putfield 16, 3) := by decide +kernel
theorem dMO_statement_5 : decode bMO_statement 5 = .ok (.iconst 0, 1) := by decide +kernel
theorem dMO_statement_6 : decode bMO_statement 6 = .ok (.istore 4, 2) := by decide +kernel
theorem dMO_statement_8 : decode bMO_statement 8 = .ok (.iconst 0, 1) := by decide +kernel
theorem dMO_statement_9 : decode bMO_statement 9 = .ok (.istore 5, 2) := by decide +kernel
theorem dMO_statement_11 : decode bMO_statement 11 = .ok (.iload 5, 2) := by decide +kernel
theorem dMO_statement_13 : decode bMO_statement 13 = .ok (.i2l, 1) := by decide +kernel
theorem dMO_statement_14 : decode bMO_statement 14 = .ok (.aload_n 0, 1) := by decide +kernel
theorem dMO_statement_15 : decode bMO_statement 15 = .ok (.getfield 7, 3) := by decide +kernel
theorem dMO_statement_18 : decode bMO_statement 18 = .ok (.iconst 1, 1) := by decide +kernel
theorem dMO_statement_19 : decode bMO_statement 19 = .ok (.laload, 1) := by decide +kernel
theorem dMO_statement_20 : decode bMO_statement 20 = .ok (.lcmp, 1) := by decide +kernel
theorem dMO_statement_21 : decode bMO_statement 21 = .ok (.ifCond .ge 145, 3) := by decide +kernel
theorem dMO_statement_24 : decode bMO_statement 24 = .ok (.iconst 0, 1) := by decide +kernel
theorem dMO_statement_25 : decode bMO_statement 25 = .ok (.istore 6, 2) := by decide +kernel
theorem dMO_statement_27 : decode bMO_statement 27 = .ok (.iload 6, 2) := by decide +kernel
theorem dMO_statement_29 : decode bMO_statement 29 = .ok (.i2l, 1) := by decide +kernel
theorem dMO_statement_30 : decode bMO_statement 30 = .ok (.aload_n 0, 1) := by decide +kernel
theorem dMO_statement_31 : decode bMO_statement 31 = .ok (.getfield 7, 3) := by decide +kernel
theorem dMO_statement_34 : decode bMO_statement 34 = .ok (.sipush 260, 3) := by decide +kernel
theorem dMO_statement_37 : decode bMO_statement 37 = .ok (.iload 5, 2) := by decide +kernel
theorem dMO_statement_39 : decode bMO_statement 39 = .ok (.iadd, 1) := by decide +kernel
theorem dMO_statement_40 : decode bMO_statement 40 = .ok (.laload, 1) := by decide +kernel
theorem dMO_statement_41 : decode bMO_statement 41 = .ok (.lcmp, 1) := by decide +kernel
theorem dMO_statement_42 : decode bMO_statement 42 = .ok (.ifCond .ge 118, 3) := by decide +kernel
theorem dMO_statement_45 : decode bMO_statement 45 = .ok (.aload_n 0, 1) := by decide +kernel
theorem dMO_statement_46 : decode bMO_statement 46 = .ok (.iload_n 1, 1) := by decide +kernel
theorem dMO_statement_47 : decode bMO_statement 47 = .ok (.invokevirtual 20, 3) := by decide +kernel
theorem dMO_statement_50 : decode bMO_statement 50 = .ok (.ifCond .eq 66, 3) := by decide +kernel
theorem dMO_statement_53 : decode bMO_statement 53 = .ok (.aload_n 0, 1) := by decide +kernel
theorem dMO_statement_54 : decode bMO_statement 54 = .ok (.getfield 7, 3) := by decide +kernel
theorem dMO_statement_57 : decode bMO_statement 57 = .ok (.sipush 140, 3) := by decide +kernel
theorem dMO_statement_60 : decode bMO_statement 60 = .ok (.iload 5, 2) := by decide +kernel
theorem dMO_statement_62 : decode bMO_statement 62 = .ok (.iadd, 1) := by decide +kernel
theorem dMO_statement_63 : decode bMO_statement 63 = .ok (.laload, 1) := by decide +kernel
theorem dMO_statement_64 : decode bMO_statement 64 = .ok (.lconst 0, 1) := by decide +kernel
theorem dMO_statement_65 : decode bMO_statement 65 = .ok (.lcmp, 1) := by decide +kernel
theorem dMO_statement_66 : decode bMO_statement 66 = .ok (.ifCond .le 50, 3) := by decide +kernel
theorem dMO_statement_69 : decode bMO_statement 69 = .ok (.aload_n 0, 1) := by decide +kernel
theorem dMO_statement_70 : decode bMO_statement 70 = .ok (.getfield 7, 3) := by decide +kernel
theorem dMO_statement_73 : decode bMO_statement 73 = .ok (.bipush 100, 2) := by decide +kernel
theorem dMO_statement_75 : decode bMO_statement 75 = .ok (.iload 5, 2) := by decide +kernel
theorem dMO_statement_77 : decode bMO_statement 77 = .ok (.iadd, 1) := by decide +kernel
theorem dMO_statement_78 : decode bMO_statement 78 = .ok (.laload, 1) := by decide +kernel
theorem dMO_statement_79 : decode bMO_statement 79 = .ok (.ldc2_w 30, 3) := by decide +kernel
theorem dMO_statement_82 : decode bMO_statement 82 = .ok (.ldiv, 1) := by decide +kernel
theorem dMO_statement_83 : decode bMO_statement 83 = .ok (.iload_n 2, 1) := by decide +kernel
theorem dMO_statement_84 : decode bMO_statement 84 = .ok (.i2l, 1) := by decide +kernel
theorem dMO_statement_85 : decode bMO_statement 85 = .ok (.lcmp, 1) := by decide +kernel
theorem dMO_statement_86 : decode bMO_statement 86 = .ok (.ifCond .ne 30, 3) := by decide +kernel
theorem dMO_statement_89 : decode bMO_statement 89 = .ok (.aload_n 0, 1) := by decide +kernel
theorem dMO_statement_90 : decode bMO_statement 90 = .ok (.getfield 7, 3) := by decide +kernel
theorem dMO_statement_93 : decode bMO_statement 93 = .ok (.sipush 300, 3) := by decide +kernel
theorem dMO_statement_96 : decode bMO_statement 96 = .ok (.bipush 6, 2) := by decide +kernel
theorem dMO_statement_98 : decode bMO_statement 98 = .ok (.iload 5, 2) := by decide +kernel
theorem dMO_statement_100 : decode bMO_statement 100 = .ok (.imul, 1) := by decide +kernel
theorem dMO_statement_101 : decode bMO_statement 101 = .ok (.iadd, 1) := by decide +kernel
theorem dMO_statement_102 : decode bMO_statement 102 = .ok (.iload 6, 2) := by decide +kernel
theorem dMO_statement_104 : decode bMO_statement 104 = .ok (.iadd, 1) := by decide +kernel
theorem dMO_statement_105 : decode bMO_statement 105 = .ok (.laload, 1) := by decide +kernel
theorem dMO_statement_106 : decode bMO_statement 106 = .ok (.iload_n 1, 1) := by decide +kernel
theorem dMO_statement_107 : decode bMO_statement 107 = .ok (.i2l, 1) := by decide +kernel
theorem dMO_statement_108 : decode bMO_statement 108 = .ok (.lcmp, 1) := by decide +kernel
theorem dMO_statement_109 : decode bMO_statement 109 = .ok (.ifCond .ne 7, 3) := by decide +kernel
theorem dMO_statement_112 : decode bMO_statement 112 = .ok (.iconst 1, 1) := by decide +kernel
theorem dMO_statement_113 : decode bMO_statement 113 = .ok (.goto 4, 3) := by decide +kernel
theorem dMO_statement_116 : decode bMO_statement 116 = .ok (.iconst 0, 1) := by decide +kernel
theorem dMO_statement_117 : decode bMO_statement 117 = .ok (.istore 7, 2) := by decide +kernel
theorem dMO_statement_119 : decode bMO_statement 119 = .ok (.iload 7, 2) := by decide +kernel
theorem dMO_statement_121 : decode bMO_statement 121 = .ok (.ifCond .eq 18, 3) := by decide +kernel
theorem dMO_statement_124 : decode bMO_statement 124 = .ok (.iload 4, 2) := by decide +kernel
theorem dMO_statement_126 : decode bMO_statement 126 = .ok (.iload_n 3, 1) := by decide +kernel
theorem dMO_statement_127 : decode bMO_statement 127 = .ok (.if_icmp .ne 12, 3) := by decide +kernel
theorem dMO_statement_130 : decode bMO_statement 130 = .ok (.bipush 10, 2) := by decide +kernel
theorem dMO_statement_132 : decode bMO_statement 132 = .ok (.iload 5, 2) := by decide +kernel
theorem dMO_statement_134 : decode bMO_statement 134 = .ok (.imul, 1) := by decide +kernel
theorem dMO_statement_135 : decode bMO_statement 135 = .ok (.iload 6, 2) := by decide +kernel
theorem dMO_statement_137 : decode bMO_statement 137 = .ok (.iadd, 1) := by decide +kernel
theorem dMO_statement_138 : decode bMO_statement 138 = .ok (.ireturn, 1) := by decide +kernel
theorem dMO_statement_139 : decode bMO_statement 139 = .ok (.iload 4, 2) := by decide +kernel
theorem dMO_statement_141 : decode bMO_statement 141 = .ok (.iload 7, 2) := by decide +kernel
theorem dMO_statement_143 : decode bMO_statement 143 = .ok (.ifCond .eq 7, 3) := by decide +kernel
theorem dMO_statement_146 : decode bMO_statement 146 = .ok (.iconst 1, 1) := by decide +kernel
theorem dMO_statement_147 : decode bMO_statement 147 = .ok (.goto 4, 3) := by decide +kernel
theorem dMO_statement_150 : decode bMO_statement 150 = .ok (.iconst 0, 1) := by decide +kernel
theorem dMO_statement_151 : decode bMO_statement 151 = .ok (.iadd, 1) := by decide +kernel
theorem dMO_statement_152 : decode bMO_statement 152 = .ok (.istore 4, 2) := by decide +kernel
theorem dMO_statement_154 : decode bMO_statement 154 = .ok (.iinc 6 1, 3) := by decide +kernel
theorem dMO_statement_157 : decode bMO_statement 157 = .ok (.goto (-130), 3) := by decide +kernel
theorem dMO_statement_160 : decode bMO_statement 160 = .ok (.iinc 5 1, 3) := by decide +kernel
theorem dMO_statement_163 : decode bMO_statement 163 = .ok (.goto (-152), 3) := by decide +kernel
theorem dMO_statement_166 : decode bMO_statement 166 = .ok (.iconst (-1), 1) := by decide +kernel
theorem dMO_statement_167 : decode bMO_statement 167 = .ok (.ireturn, 1) := by decide +kernel
theorem dMO_tax_0 : decode bMO_tax 0 = .ok (.aload_n 0, 1) := by decide +kernel
theorem dMO_tax_1 : decode bMO_tax 1 = .ok (.iconst 0, 1) := by decide +kernel
theorem dMO_tax_2 : decode bMO_tax 2 = .ok (.putfield 16, 3) := by decide +kernel
theorem dMO_tax_5 : decode bMO_tax 5 = .ok (.lconst 0, 1) := by decide +kernel
theorem dMO_tax_6 : decode bMO_tax 6 = .ok (.lstore_n 2, 1) := by decide +kernel
theorem dMO_tax_7 : decode bMO_tax 7 = .ok (.iconst 0, 1) := by decide +kernel
theorem dMO_tax_8 : decode bMO_tax 8 = .ok (.istore 4, 2) := by decide +kernel
theorem dMO_tax_10 : decode bMO_tax 10 = .ok (.iload 4, 2) := by decide +kernel
theorem dMO_tax_12 : decode bMO_tax 12 = .ok (.i2l, 1) := by decide +kernel
theorem dMO_tax_13 : decode bMO_tax 13 = .ok (.aload_n 0, 1) := by decide +kernel
theorem dMO_tax_14 : decode bMO_tax 14 = .ok (.getfield 7, 3) := by decide +kernel
theorem dMO_tax_17 : decode bMO_tax 17 = .ok (.iconst 1, 1) := by decide +kernel
theorem dMO_tax_18 : decode bMO_tax 18 = .ok (.laload, 1) := by decide +kernel
theorem dMO_tax_19 : decode bMO_tax 19 = .ok (.lcmp, 1) := by decide +kernel
theorem dMO_tax_20 : decode bMO_tax 20 = .ok (.ifCond .ge 139, 3) := by decide +kernel
theorem dMO_tax_23 : decode bMO_tax 23 = .ok (.iconst 0, 1) := by decide +kernel
theorem dMO_tax_24 : decode bMO_tax 24 = .ok (.istore 5, 2) := by decide +kernel
theorem dMO_tax_26 : decode bMO_tax 26 = .ok (.iload 5, 2) := by decide +kernel
theorem dMO_tax_28 : decode bMO_tax 28 = .ok (.i2l, 1) := by decide +kernel
theorem dMO_tax_29 : decode bMO_tax 29 = .ok (.aload_n 0, 1) := by decide +kernel
theorem dMO_tax_30 : decode bMO_tax 30 = .ok (.getfield 7, 3) := by decide +kernel
theorem dMO_tax_33 : decode bMO_tax 33 = .ok (.sipush 260, 3) := by decide +kernel
theorem dMO_tax_36 : decode bMO_tax 36 = .ok (.iload 4, 2) := by decide +kernel
theorem dMO_tax_38 : decode bMO_tax 38 = .ok (.iadd, 1) := by decide +kernel
theorem dMO_tax_39 : decode bMO_tax 39 = .ok (.laload, 1) := by decide +kernel
theorem dMO_tax_40 : decode bMO_tax 40 = .ok (.lcmp, 1) := by decide +kernel
theorem dMO_tax_41 : decode bMO_tax 41 = .ok (.ifCond .ge 112, 3) := by decide +kernel
theorem dMO_tax_44 : decode bMO_tax 44 = .ok (.bipush 6, 2) := by decide +kernel
theorem dMO_tax_46 : decode bMO_tax 46 = .ok (.iload 4, 2) := by decide +kernel
theorem dMO_tax_48 : decode bMO_tax 48 = .ok (.imul, 1) := by decide +kernel
theorem dMO_tax_49 : decode bMO_tax 49 = .ok (.iload 5, 2) := by decide +kernel
theorem dMO_tax_51 : decode bMO_tax 51 = .ok (.iadd, 1) := by decide +kernel
theorem dMO_tax_52 : decode bMO_tax 52 = .ok (.istore 6, 2) := by decide +kernel
theorem dMO_tax_54 : decode bMO_tax 54 = .ok (.aload_n 0, 1) := by decide +kernel
theorem dMO_tax_55 : decode bMO_tax 55 = .ok (.getfield 7, 3) := by decide +kernel
theorem dMO_tax_58 : decode bMO_tax 58 = .ok (.sipush 140, 3) := by decide +kernel
theorem dMO_tax_61 : decode bMO_tax 61 = .ok (.iload 4, 2) := by decide +kernel
theorem dMO_tax_63 : decode bMO_tax 63 = .ok (.iadd, 1) := by decide +kernel
theorem dMO_tax_64 : decode bMO_tax 64 = .ok (.laload, 1) := by decide +kernel
theorem dMO_tax_65 : decode bMO_tax 65 = .ok (.lconst 0, 1) := by decide +kernel
theorem dMO_tax_66 : decode bMO_tax 66 = .ok (.lcmp, 1) := by decide +kernel
theorem dMO_tax_67 : decode bMO_tax 67 = .ok (.ifCond .le 54, 3) := by decide +kernel
theorem dMO_tax_70 : decode bMO_tax 70 = .ok (.aload_n 0, 1) := by decide +kernel
theorem dMO_tax_71 : decode bMO_tax 71 = .ok (.getfield 7, 3) := by decide +kernel
theorem dMO_tax_74 : decode bMO_tax 74 = .ok (.bipush 100, 2) := by decide +kernel
theorem dMO_tax_76 : decode bMO_tax 76 = .ok (.iload 4, 2) := by decide +kernel
theorem dMO_tax_78 : decode bMO_tax 78 = .ok (.iadd, 1) := by decide +kernel
theorem dMO_tax_79 : decode bMO_tax 79 = .ok (.laload, 1) := by decide +kernel
theorem dMO_tax_80 : decode bMO_tax 80 = .ok (.ldc2_w 30, 3) := by decide +kernel
theorem dMO_tax_83 : decode bMO_tax 83 = .ok (.ldiv, 1) := by decide +kernel
theorem dMO_tax_84 : decode bMO_tax 84 = .ok (.iload_n 1, 1) := by decide +kernel
theorem dMO_tax_85 : decode bMO_tax 85 = .ok (.i2l, 1) := by decide +kernel
theorem dMO_tax_86 : decode bMO_tax 86 = .ok (.lcmp, 1) := by decide +kernel
theorem dMO_tax_87 : decode bMO_tax 87 = .ok (.ifCond .ne 34, 3) := by decide +kernel
theorem dMO_tax_90 : decode bMO_tax 90 = .ok (.aload_n 0, 1) := by decide +kernel
theorem dMO_tax_91 : decode bMO_tax 91 = .ok (.getfield 7, 3) := by decide +kernel
theorem dMO_tax_94 : decode bMO_tax 94 = .ok (.bipush 10, 2) := by decide +kernel
theorem dMO_tax_96 : decode bMO_tax 96 = .ok (.aload_n 0, 1) := by decide +kernel
theorem dMO_tax_97 : decode bMO_tax 97 = .ok (.getfield 7, 3) := by decide +kernel
theorem dMO_tax_100 : decode bMO_tax 100 = .ok (.sipush 300, 3) := by decide +kernel
theorem dMO_tax_103 : decode bMO_tax 103 = .ok (.iload 6, 2) := by decide +kernel
theorem dMO_tax_105 : decode bMO_tax 105 = .ok (.iadd, 1) := by decide +kernel
theorem dMO_tax_106 : decode bMO_tax 106 = .ok (.laload, 1) := by decide +kernel
theorem dMO_tax_107 : decode bMO_tax 107 = .ok (.l2i, 1) := by decide +kernel
theorem dMO_tax_108 : decode bMO_tax 108 = .ok (.iadd, 1) := by decide +kernel
theorem dMO_tax_109 : decode bMO_tax 109 = .ok (.laload, 1) := by decide +kernel
theorem dMO_tax_110 : decode bMO_tax 110 = .ok (.ldc2_w 125, 3) := by decide +kernel
theorem dMO_tax_113 : decode bMO_tax 113 = .ok (.lcmp, 1) := by decide +kernel
theorem dMO_tax_114 : decode bMO_tax 114 = .ok (.ifCond .ne 7, 3) := by decide +kernel
theorem dMO_tax_117 : decode bMO_tax 117 = .ok (.iconst 1, 1) := by decide +kernel
theorem dMO_tax_118 : decode bMO_tax 118 = .ok (.goto 4, 3) := by decide +kernel
theorem dMO_tax_121 : decode bMO_tax 121 = .ok (.iconst 0, 1) := by decide +kernel
theorem dMO_tax_122 : decode bMO_tax 122 = .ok (.istore 7, 2) := by decide +kernel
theorem dMO_tax_124 : decode bMO_tax 124 = .ok (.lload_n 2, 1) := by decide +kernel
theorem dMO_tax_125 : decode bMO_tax 125 = .ok (.iload 7, 2) := by decide +kernel
theorem dMO_tax_127 : decode bMO_tax 127 = .ok (.ifCond .eq 17, 3) := by decide +kernel
theorem dMO_tax_130 : decode bMO_tax 130 = .ok (.aload_n 0, 1) := by decide +kernel
theorem dMO_tax_131 : decode bMO_tax 131 = .ok (.getfield 7, 3) := by decide +kernel
theorem dMO_tax_134 : decode bMO_tax 134 = .ok (.sipush 540, 3) := by decide +kernel
theorem dMO_tax_137 : decode bMO_tax 137 = .ok (.iload 6, 2) := by decide +kernel
theorem dMO_tax_139 : decode bMO_tax 139 = .ok (.iadd, 1) := by decide +kernel
theorem dMO_tax_140 : decode bMO_tax 140 = .ok (.laload, 1) := by decide +kernel
theorem dMO_tax_141 : decode bMO_tax 141 = .ok (.goto 4, 3) := by decide +kernel
theorem dMO_tax_144 : decode bMO_tax 144 = .ok (.lconst 0, 1) := by decide +kernel
theorem dMO_tax_145 : decode bMO_tax 145 = .ok (.ladd, 1) := by decide +kernel
theorem dMO_tax_146 : decode bMO_tax 146 = .ok (.lstore_n 2, 1) := by decide +kernel
theorem dMO_tax_147 : decode bMO_tax 147 = .ok (.iinc 5 1, 3) := by decide +kernel
theorem dMO_tax_150 : decode bMO_tax 150 = .ok (.goto (-124), 3) := by decide +kernel
theorem dMO_tax_153 : decode bMO_tax 153 = .ok (.iinc 4 1, 3) := by decide +kernel
theorem dMO_tax_156 : decode bMO_tax 156 = .ok (.goto (-146), 3) := by decide +kernel
theorem dMO_tax_159 : decode bMO_tax 159 = .ok (.lload_n 2, 1) := by decide +kernel
theorem dMO_tax_160 : decode bMO_tax 160 = .ok (.lconst 0, 1) := by decide +kernel
theorem dMO_tax_161 : decode bMO_tax 161 = .ok (.lcmp, 1) := by decide +kernel
theorem dMO_tax_162 : decode bMO_tax 162 = .ok (.ifCond .ge 16, 3) := by decide +kernel
theorem dMO_tax_165 : decode bMO_tax 165 = .ok (.ldc2_w 129, 3) := by decide +kernel
theorem dMO_tax_168 : decode bMO_tax 168 = .ok (.lload_n 2, 1) := by decide +kernel
theorem dMO_tax_169 : decode bMO_tax 169 = .ok (.lneg, 1) := by decide +kernel
theorem dMO_tax_170 : decode bMO_tax 170 = .ok (.lmul, 1) := by decide +kernel
theorem dMO_tax_171 : decode bMO_tax 171 = .ok (.ldc2_w 127, 3) := by decide +kernel
theorem dMO_tax_174 : decode bMO_tax 174 = .ok (.ldiv, 1) := by decide +kernel
theorem dMO_tax_175 : decode bMO_tax 175 = .ok (.goto 4, 3) := by decide +kernel
theorem dMO_tax_178 : decode bMO_tax 178 = .ok (.lconst 0, 1) := by decide +kernel
theorem dMO_tax_179 : decode bMO_tax 179 = .ok (.lreturn, 1) := by decide +kernel
theorem dPL_add_0 : decode bPL_add 0 = .ok (.aload_n 0, 1) := by decide +kernel
theorem dPL_add_1 : decode bPL_add 1 = .ok (.getfield 9, 3) := by decide +kernel
theorem dPL_add_4 : decode bPL_add 4 = .ok (.bipush 10, 2) := by decide +kernel
theorem dPL_add_6 : decode bPL_add 6 = .ok (.if_icmp .ge 8, 3) := by decide +kernel
theorem dPL_add_9 : decode bPL_add 9 = .ok (.iload_n 3, 1) := by decide +kernel
theorem dPL_add_10 : decode bPL_add 10 = .ok (.iconst 1, 1) := by decide +kernel
theorem dPL_add_11 : decode bPL_add 11 = .ok (.if_icmp .ge 5, 3) := by decide +kernel
theorem dPL_add_14 : decode bPL_add 14 = .ok (.iconst (-1), 1) := by decide +kernel
theorem dPL_add_15 : decode bPL_add 15 = .ok (.ireturn, 1) := by decide +kernel
theorem dPL_add_16 : decode bPL_add 16 = .ok (.aload_n 0, 1) := by decide +kernel
theorem dPL_add_17 : decode bPL_add 17 = .ok (.getfield 9, 3) := by decide +kernel
theorem dPL_add_20 : decode bPL_add 20 = .ok (.istore 4, 2) := by decide +kernel
theorem dPL_add_22 : decode bPL_add 22 = .ok (.aload_n 0, 1) := by decide +kernel
theorem dPL_add_23 : decode bPL_add 23 = .ok (.getfield 15, 3) := by decide +kernel
theorem dPL_add_26 : decode bPL_add 26 = .ok (.iload 4, 2) := by decide +kernel
theorem dPL_add_28 : decode bPL_add 28 = .ok (.iload_n 3, 1) := by decide +kernel
theorem dPL_add_29 : decode bPL_add 29 = .ok (.iastore, 1) := by decide +kernel
theorem dPL_add_30 : decode bPL_add 30 = .ok (.aload_n 0, 1) := by decide +kernel
theorem dPL_add_31 : decode bPL_add 31 = .ok (.getfield 19, 3) := by decide +kernel
theorem dPL_add_34 : decode bPL_add 34 = .ok (.iload 4, 2) := by decide +kernel
theorem dPL_add_36 : decode bPL_add 36 = .ok (.lload_n 1, 1) := by decide +kernel
theorem dPL_add_37 : decode bPL_add 37 = .ok (.iload_n 3, 1) := by decide +kernel
theorem dPL_add_38 : decode bPL_add 38 = .ok (.i2l, 1) := by decide +kernel
theorem dPL_add_39 : decode bPL_add 39 = .ok (.ldiv, 1) := by decide +kernel
theorem dPL_add_40 : decode bPL_add 40 = .ok (.lastore, 1) := by decide +kernel
theorem dPL_add_41 : decode bPL_add 41 = .ok (.aload_n 0, 1) := by decide +kernel
theorem dPL_add_42 : decode bPL_add 42 = .ok (.getfield 23, 3) := by decide +kernel
theorem dPL_add_45 : decode bPL_add 45 = .ok (.iload 4, 2) := by decide +kernel
theorem dPL_add_47 : decode bPL_add 47 = .ok (.lload_n 1, 1) := by decide +kernel
theorem dPL_add_48 : decode bPL_add 48 = .ok (.iload_n 3, 1) := by decide +kernel
theorem dPL_add_49 : decode bPL_add 49 = .ok (.i2l, 1) := by decide +kernel
theorem dPL_add_50 : decode bPL_add 50 = .ok (.lrem, 1) := by decide +kernel
theorem dPL_add_51 : decode bPL_add 51 = .ok (.lastore, 1) := by decide +kernel
theorem dPL_add_52 : decode bPL_add 52 = .ok (.aload_n 0, 1) := by decide +kernel
theorem dPL_add_53 : decode bPL_add 53 = .ok (.dup, 1) := by decide +kernel
theorem dPL_add_54 : decode bPL_add 54 = .ok (.getfield 9, 3) := by decide +kernel
theorem dPL_add_57 : decode bPL_add 57 = .ok (.iconst 1, 1) := by decide +kernel
theorem dPL_add_58 : decode bPL_add 58 = .ok (.iadd, 1) := by decide +kernel
theorem dPL_add_59 : decode bPL_add 59 = .ok (.putfield 9, 3) := by decide +kernel
theorem dPL_add_62 : decode bPL_add 62 = .ok (.iload 4, 2) := by decide +kernel
theorem dPL_add_64 : decode bPL_add 64 = .ok (.ireturn, 1) := by decide +kernel
theorem dPL_copyFrom_0 : decode bPL_copyFrom 0 = .ok (.aload_n 0, 1) := by decide +kernel
theorem dPL_copyFrom_1 : decode bPL_copyFrom 1 = .ok (.aload_n 1, 1) := by decide +kernel
theorem dPL_copyFrom_2 : decode bPL_copyFrom 2 = .ok (.getfield 9, 3) := by decide +kernel
theorem dPL_copyFrom_5 : decode bPL_copyFrom 5 = .ok (.putfield 9, 3) := by decide +kernel
theorem dPL_copyFrom_8 : decode bPL_copyFrom 8 = .ok (.aload_n 1, 1) := by decide +kernel
theorem dPL_copyFrom_9 : decode bPL_copyFrom 9 = .ok (.getfield 15, 3) := by decide +kernel
theorem dPL_copyFrom_12 : decode bPL_copyFrom 12 = .ok (.aload_n 0, 1) := by decide +kernel
theorem dPL_copyFrom_13 : decode bPL_copyFrom 13 = .ok (.getfield 15, 3) := by decide +kernel
theorem dPL_copyFrom_16 : decode bPL_copyFrom 16 = .ok (.invokestatic 26, 3) := by decide +kernel
theorem dPL_copyFrom_19 : decode bPL_copyFrom 19 = .ok (.aload_n 1, 1) := by decide +kernel
theorem dPL_copyFrom_20 : decode bPL_copyFrom 20 = .ok (.getfield 19, 3) := by decide +kernel
theorem dPL_copyFrom_23 : decode bPL_copyFrom 23 = .ok (.aload_n 0, 1) := by decide +kernel
theorem dPL_copyFrom_24 : decode bPL_copyFrom 24 = .ok (.getfield 19, 3) := by decide +kernel
theorem dPL_copyFrom_27 : decode bPL_copyFrom 27 = .ok (.invokestatic 30, 3) := by decide +kernel

theorem dMO_statement_109 : decode bMO_statement 109 = .ok (.ifCond .ne 7, 3) := by decide +kernel
theorem dMO_statement_112 : decode bMO_statement 112 = .ok (.iconst 1, 1) := by decide +kernel
theorem dMO_statement_113 : decode bMO_statement 113 = .ok (.goto 4, 3) := by decide +kernel
theorem dMO_statement_116 : decode bMO_statement 116 = .ok (.iconst 0, 1) := by decide +kernel
theorem dMO_statement_117 : decode bMO_statement 117 = .ok (.istore 7, 2) := by decide +kernel
theorem dMO_statement_119 : decode bMO_statement 119 = .ok (.iload 7, 2) := by decide +kernel
theorem dMO_statement_121 : decode bMO_statement 121 = .ok (.ifCond .eq 18, 3) := by decide +kernel
theorem dMO_statement_124 : decode bMO_statement 124 = .ok (.iload 4, 2) := by decide +kernel
theorem dMO_statement_126 : decode bMO_statement 126 = .ok (.iload_n 3, 1) := by decide +kernel
theorem dMO_statement_127 : decode bMO_statement 127 = .ok (.if_icmp .ne 12, 3) := by decide +kernel
theorem dMO_statement_130 : decode bMO_statement 130 = .ok (.bipush 10, 2) := by decide +kernel
theorem dMO_statement_132 : decode bMO_statement 132 = .ok (.iload 5, 2) := by decide +kernel
theorem dMO_statement_134 : decode bMO_statement 134 = .ok (.imul, 1) := by decide +kernel
theorem dMO_statement_135 : decode bMO_statement 135 = .ok (.iload 6, 2) := by decide +kernel
theorem dMO_statement_137 : decode bMO_statement 137 = .ok (.iadd, 1) := by decide +kernel
theorem dMO_statement_138 : decode bMO_statement 138 = .ok (.ireturn, 1) := by decide +kernel
theorem dMO_statement_139 : decode bMO_statement 139 = .ok (.iload 4, 2) := by decide +kernel
theorem dMO_statement_141 : decode bMO_statement 141 = .ok (.iload 7, 2) := by decide +kernel
theorem dMO_statement_143 : decode bMO_statement 143 = .ok (.ifCond .eq 7, 3) := by decide +kernel
theorem dMO_statement_146 : decode bMO_statement 146 = .ok (.iconst 1, 1) := by decide +kernel
theorem dMO_statement_147 : decode bMO_statement 147 = .ok (.goto 4, 3) := by decide +kernel
theorem dMO_statement_150 : decode bMO_statement 150 = .ok (.iconst 0, 1) := by decide +kernel
theorem dMO_statement_151 : decode bMO_statement 151 = .ok (.iadd, 1) := by decide +kernel
theorem dMO_statement_152 : decode bMO_statement 152 = .ok (.istore 4, 2) := by decide +kernel
theorem dMO_statement_154 : decode bMO_statement 154 = .ok (.iinc 6 1, 3) := by decide +kernel
theorem dMO_statement_157 : decode bMO_statement 157 = .ok (.goto (-130), 3) := by decide +kernel
theorem dMO_statement_160 : decode bMO_statement 160 = .ok (.iinc 5 1, 3) := by decide +kernel
theorem dMO_statement_163 : decode bMO_statement 163 = .ok (.goto (-152), 3) := by decide +kernel
theorem dMO_statement_166 : decode bMO_statement 166 = .ok (.iconst (-1), 1) := by decide +kernel
theorem dMO_statement_167 : decode bMO_statement 167 = .ok (.ireturn, 1) := by decide +kernel
theorem dMO_tax_0 : decode bMO_tax 0 = .ok (.aload_n 0, 1) := by decide +kernel
theorem dMO_tax_1 : decode bMO_tax 1 = .ok (.iconst 0, 1) := by decide +kernel
theorem dMO_tax_2 : decode bMO_tax 2 = .ok (.putfield 16, 3) := by decide +kernel
theorem dMO_tax_5 : decode bMO_tax 5 = .ok (.lconst 0, 1) := by decide +kernel
theorem dMO_tax_6 : decode bMO_tax 6 = .ok (.lstore_n 2, 1) := by decide +kernel
theorem dMO_tax_7 : decode bMO_tax 7 = .ok (.iconst 0, 1) := by decide +kernel
theorem dMO_tax_8 : decode bMO_tax 8 = .ok (.istore 4, 2) := by decide +kernel
theorem dMO_tax_10 : decode bMO_tax 10 = .ok (.iload 4, 2) := by decide +kernel
theorem dMO_tax_12 : decode bMO_tax 12 = .ok (.i2l, 1) := by decide +kernel
theorem dMO_tax_13 : decode bMO_tax 13 = .ok (.aload_n 0, 1) := by decide +kernel
theorem dMO_tax_14 : decode bMO_tax 14 = .ok (.getfield 7, 3) := by decide +kernel
theorem dMO_tax_17 : decode bMO_tax 17 = .ok (.iconst 1, 1) := by decide +kernel
theorem dMO_tax_18 : decode bMO_tax 18 = .ok (.laload, 1) := by decide +kernel
theorem dMO_tax_19 : decode bMO_tax 19 = .ok (.lcmp, 1) := by decide +kernel
theorem dMO_tax_20 : decode bMO_tax 20 = .ok (.ifCond .ge 139, 3) := by decide +kernel
theorem dMO_tax_23 : decode bMO_tax 23 = .ok (.iconst 0, 1) := by decide +kernel
theorem dMO_tax_24 : decode bMO_tax 24 = .ok (.istore 5, 2) := by decide +kernel
theorem dMO_tax_26 : decode bMO_tax 26 = .ok (.iload 5, 2) := by decide +kernel
theorem dMO_tax_28 : decode bMO_tax 28 = .ok (.i2l, 1) := by decide +kernel
theorem dMO_tax_29 : decode bMO_tax 29 = .ok (.aload_n 0, 1) := by decide +kernel
theorem dMO_tax_30 : decode bMO_tax 30 = .ok (.getfield 7, 3) := by decide +kernel
theorem dMO_tax_33 : decode bMO_tax 33 = .ok (.sipush 260, 3) := by decide +kernel
theorem dMO_tax_36 : decode bMO_tax 36 = .ok (.iload 4, 2) := by decide +kernel
theorem dMO_tax_38 : decode bMO_tax 38 = .ok (.iadd, 1) := by decide +kernel
theorem dMO_tax_39 : decode bMO_tax 39 = .ok (.laload, 1) := by decide +kernel
theorem dMO_tax_40 : decode bMO_tax 40 = .ok (.lcmp, 1) := by decide +kernel
theorem dMO_tax_41 : decode bMO_tax 41 = .ok (.ifCond .ge 112, 3) := by decide +kernel
theorem dMO_tax_44 : decode bMO_tax 44 = .ok (.bipush 6, 2) := by decide +kernel
theorem dMO_tax_46 : decode bMO_tax 46 = .ok (.iload 4, 2) := by decide +kernel
theorem dMO_tax_48 : decode bMO_tax 48 = .ok (.imul, 1) := by decide +kernel
theorem dMO_tax_49 : decode bMO_tax 49 = .ok (.iload 5, 2) := by decide +kernel
theorem dMO_tax_51 : decode bMO_tax 51 = .ok (.iadd, 1) := by decide +kernel
theorem dMO_tax_52 : decode bMO_tax 52 = .ok (.istore 6, 2) := by decide +kernel
theorem dMO_tax_54 : decode bMO_tax 54 = .ok (.aload_n 0, 1) := by decide +kernel
theorem dMO_tax_55 : decode bMO_tax 55 = .ok (.getfield 7, 3) := by decide +kernel
theorem dMO_tax_58 : decode bMO_tax 58 = .ok (.sipush 140, 3) := by decide +kernel
theorem dMO_tax_61 : decode bMO_tax 61 = .ok (.iload 4, 2) := by decide +kernel
theorem dMO_tax_63 : decode bMO_tax 63 = .ok (.iadd, 1) := by decide +kernel
theorem dMO_tax_64 : decode bMO_tax 64 = .ok (.laload, 1) := by decide +kernel
theorem dMO_tax_65 : decode bMO_tax 65 = .ok (.lconst 0, 1) := by decide +kernel
theorem dMO_tax_66 : decode bMO_tax 66 = .ok (.lcmp, 1) := by decide +kernel
theorem dMO_tax_67 : decode bMO_tax 67 = .ok (.ifCond .le 54, 3) := by decide +kernel
theorem dMO_tax_70 : decode bMO_tax 70 = .ok (.aload_n 0, 1) := by decide +kernel
theorem dMO_tax_71 : decode bMO_tax 71 = .ok (.getfield 7, 3) := by decide +kernel
theorem dMO_tax_74 : decode bMO_tax 74 = .ok (.bipush 100, 2) := by decide +kernel
theorem dMO_tax_76 : decode bMO_tax 76 = .ok (.iload 4, 2) := by decide +kernel
theorem dMO_tax_78 : decode bMO_tax 78 = .ok (.iadd, 1) := by decide +kernel
theorem dMO_tax_79 : decode bMO_tax 79 = .ok (.laload, 1) := by decide +kernel
theorem dMO_tax_80 : decode bMO_tax 80 = .ok (.ldc2_w 30, 3) := by decide +kernel
theorem dMO_tax_83 : decode bMO_tax 83 = .ok (.ldiv, 1) := by decide +kernel
theorem dMO_tax_84 : decode bMO_tax 84 = .ok (.iload_n 1, 1) := by decide +kernel
theorem dMO_tax_85 : decode bMO_tax 85 = .ok (.i2l, 1) := by decide +kernel
theorem dMO_tax_86 : decode bMO_tax 86 = .ok (.lcmp, 1) := by decide +kernel
theorem dMO_tax_87 : decode bMO_tax 87 = .ok (.ifCond .ne 34, 3) := by decide +kernel
theorem dMO_tax_90 : decode bMO_tax 90 = .ok (.aload_n 0, 1) := by decide +kernel
theorem dMO_tax_91 : decode bMO_tax 91 = .ok (.getfield 7, 3) := by decide +kernel
theorem dMO_tax_94 : decode bMO_tax 94 = .ok (.bipush 10, 2) := by decide +kernel
theorem dMO_tax_96 : decode bMO_tax 96 = .ok (.aload_n 0, 1) := by decide +kernel
theorem dMO_tax_97 : decode bMO_tax 97 = .ok (.getfield 7, 3) := by decide +kernel
theorem dMO_tax_100 : decode bMO_tax 100 = .ok (.sipush 300, 3) := by decide +kernel
theorem dMO_tax_103 : decode bMO_tax 103 = .ok (.iload 6, 2) := by decide +kernel
theorem dMO_tax_105 : decode bMO_tax 105 = .ok (.iadd, 1) := by decide +kernel
theorem dMO_tax_106 : decode bMO_tax 106 = .ok (.laload, 1) := by decide +kernel
theorem dMO_tax_107 : decode bMO_tax 107 = .ok (.l2i, 1) := by decide +kernel
theorem dMO_tax_108 : decode bMO_tax 108 = .ok (.iadd, 1) := by decide +kernel
theorem dMO_tax_109 : decode bMO_tax 109 = .ok (.laload, 1) := by decide +kernel
theorem dMO_tax_110 : decode bMO_tax 110 = .ok (.ldc2_w 125, 3) := by decide +kernel
theorem dMO_tax_113 : decode bMO_tax 113 = .ok (.lcmp, 1) := by decide +kernel
theorem dMO_tax_114 : decode bMO_tax 114 = .ok (.ifCond .ne 7, 3) := by decide +kernel
theorem dMO_tax_117 : decode bMO_tax 117 = .ok (.iconst 1, 1) := by decide +kernel
theorem dMO_tax_118 : decode bMO_tax 118 = .ok (.goto 4, 3) := by decide +kernel
theorem dMO_tax_121 : decode bMO_tax 121 = .ok (.iconst 0, 1) := by decide +kernel
theorem dMO_tax_122 : decode bMO_tax 122 = .ok (.istore 7, 2) := by decide +kernel
theorem dMO_tax_124 : decode bMO_tax 124 = .ok (.lload_n 2, 1) := by decide +kernel
theorem dMO_tax_125 : decode bMO_tax 125 = .ok (.iload 7, 2) := by decide +kernel
theorem dMO_tax_127 : decode bMO_tax 127 = .ok (.ifCond .eq 17, 3) := by decide +kernel
theorem dMO_tax_130 : decode bMO_tax 130 = .ok (.aload_n 0, 1) := by decide +kernel
theorem dMO_tax_131 : decode bMO_tax 131 = .ok (.getfield 7, 3) := by decide +kernel
theorem dMO_tax_134 : decode bMO_tax 134 = .ok (.sipush 540, 3) := by decide +kernel
theorem dMO_tax_137 : decode bMO_tax 137 = .ok (.iload 6, 2) := by decide +kernel
theorem dMO_tax_139 : decode bMO_tax 139 = .ok (.iadd, 1) := by decide +kernel
theorem dMO_tax_140 : decode bMO_tax 140 = .ok (.laload, 1) := by decide +kernel
theorem dMO_tax_141 : decode bMO_tax 141 = .ok (.goto 4, 3) := by decide +kernel
theorem dMO_tax_144 : decode bMO_tax 144 = .ok (.lconst 0, 1) := by decide +kernel
theorem dMO_tax_145 : decode bMO_tax 145 = .ok (.ladd, 1) := by decide +kernel
theorem dMO_tax_146 : decode bMO_tax 146 = .ok (.lstore_n 2, 1) := by decide +kernel
theorem dMO_tax_147 : decode bMO_tax 147 = .ok (.iinc 5 1, 3) := by decide +kernel
theorem dMO_tax_150 : decode bMO_tax 150 = .ok (.goto (-124), 3) := by decide +kernel
theorem dMO_tax_153 : decode bMO_tax 153 = .ok (.iinc 4 1, 3) := by decide +kernel
theorem dMO_tax_156 : decode bMO_tax 156 = .ok (.goto (-146), 3) := by decide +kernel
theorem dMO_tax_159 : decode bMO_tax 159 = .ok (.lload_n 2, 1) := by decide +kernel
theorem dMO_tax_160 : decode bMO_tax 160 = .ok (.lconst 0, 1) := by decide +kernel
theorem dMO_tax_161 : decode bMO_tax 161 = .ok (.lcmp, 1) := by decide +kernel
theorem dMO_tax_162 : decode bMO_tax 162 = .ok (.ifCond .ge 16, 3) := by decide +kernel
theorem dMO_tax_165 : decode bMO_tax 165 = .ok (.ldc2_w 129, 3) := by decide +kernel
theorem dMO_tax_168 : decode bMO_tax 168 = .ok (.lload_n 2, 1) := by decide +kernel
theorem dMO_tax_169 : decode bMO_tax 169 = .ok (.lneg, 1) := by decide +kernel
theorem dMO_tax_170 : decode bMO_tax 170 = .ok (.lmul, 1) := by decide +kernel
theorem dMO_tax_171 : decode bMO_tax 171 = .ok (.ldc2_w 127, 3) := by decide +kernel
theorem dMO_tax_174 : decode bMO_tax 174 = .ok (.ldiv, 1) := by decide +kernel
theorem dMO_tax_175 : decode bMO_tax 175 = .ok (.goto 4, 3) := by decide +kernel
theorem dMO_tax_178 : decode bMO_tax 178 = .ok (.lconst 0, 1) := by decide +kernel
theorem dMO_tax_179 : decode bMO_tax 179 = .ok (.lreturn, 1) := by decide +kernel
theorem dPL_init_0 : decode bPL_init 0 = .ok (.aload_n 0, 1) := by decide +kernel
theorem dPL_init_1 : decode bPL_init 1 = .ok (.invokespecial 3, 3) := by decide +kernel
theorem dPL_init_4 : decode bPL_init 4 = .ok (.aload_n 0, 1) := by decide +kernel
theorem dPL_init_5 : decode bPL_init 5 = .ok (.iconst 0, 1) := by decide +kernel
theorem dPL_init_6 : decode bPL_init 6 = .ok (.putfield 9, 3) := by decide +kernel
theorem dPL_init_9 : decode bPL_init 9 = .ok (.aload_n 0, 1) := by decide +kernel
theorem dPL_init_10 : decode bPL_init 10 = .ok (.bipush 10, 2) := by decide +kernel
theorem dPL_init_12 : decode bPL_init 12 = .ok (.newarray .int, 2) := by decide +kernel
theorem dPL_init_14 : decode bPL_init 14 = .ok (.putfield 15, 3) := by decide +kernel
theorem dPL_init_17 : decode bPL_init 17 = .ok (.aload_n 0, 1) := by decide +kernel
theorem dPL_init_18 : decode bPL_init 18 = .ok (.bipush 10, 2) := by decide +kernel
theorem dPL_init_20 : decode bPL_init 20 = .ok (.newarray .long, 2) := by decide +kernel
theorem dPL_init_22 : decode bPL_init 22 = .ok (.putfield 19, 3) := by decide +kernel
theorem dPL_init_25 : decode bPL_init 25 = .ok (.aload_n 0, 1) := by decide +kernel
theorem dPL_init_26 : decode bPL_init 26 = .ok (.bipush 10, 2) := by decide +kernel
theorem dPL_init_28 : decode bPL_init 28 = .ok (.newarray .long, 2) := by decide +kernel
theorem dPL_init_30 : decode bPL_init 30 = .ok (.putfield 23, 3) := by decide +kernel
theorem dPL_init_33 : decode bPL_init 33 = .ok (.return_, 1) := by decide +kernel
theorem dPL_add_0 : decode bPL_add 0 = .ok (.aload_n 0, 1) := by decide +kernel
theorem dPL_add_1 : decode bPL_add 1 = .ok (.getfield 9, 3) := by decide +kernel
theorem dPL_add_4 : decode bPL_add 4 = .ok (.bipush 10, 2) := by decide +kernel
theorem dPL_add_6 : decode bPL_add 6 = .ok (.if_icmp .ge 8, 3) := by decide +kernel
theorem dPL_add_9 : decode bPL_add 9 = .ok (.iload_n 3, 1) := by decide +kernel
theorem dPL_add_10 : decode bPL_add 10 = .ok (.iconst 1, 1) := by decide +kernel
theorem dPL_add_11 : decode bPL_add 11 = .ok (.if_icmp .ge 5, 3) := by decide +kernel
theorem dPL_add_14 : decode bPL_add 14 = .ok (.iconst (-1), 1) := by decide +kernel
theorem dPL_add_15 : decode bPL_add 15 = .ok (.ireturn, 1) := by decide +kernel
theorem dPL_add_16 : decode bPL_add 16 = .ok (.aload_n 0, 1) := by decide +kernel
theorem dPL_add_17 : decode bPL_add 17 = .ok (.getfield 9, 3) := by decide +kernel
theorem dPL_add_20 : decode bPL_add 20 = .ok (.istore 4, 2) := by decide +kernel
theorem dPL_add_22 : decode bPL_add 22 = .ok (.aload_n 0, 1) := by decide +kernel
theorem dPL_add_23 : decode bPL_add 23 = .ok (.getfield 15, 3) := by decide +kernel
theorem dPL_add_26 : decode bPL_add 26 = .ok (.iload 4, 2) := by decide +kernel
theorem dPL_add_28 : decode bPL_add 28 = .ok (.iload_n 3, 1) := by decide +kernel
theorem dPL_add_29 : decode bPL_add 29 = .ok (.iastore, 1) := by decide +kernel
theorem dPL_add_30 : decode bPL_add 30 = .ok (.aload_n 0, 1) := by decide +kernel
theorem dPL_add_31 : decode bPL_add 31 = .ok (.getfield 19, 3) := by decide +kernel
theorem dPL_add_34 : decode bPL_add 34 = .ok (.iload 4, 2) := by decide +kernel
theorem dPL_add_36 : decode bPL_add 36 = .ok (.lload_n 1, 1) := by decide +kernel
theorem dPL_add_37 : decode bPL_add 37 = .ok (.iload_n 3, 1) := by decide +kernel
theorem dPL_add_38 : decode bPL_add 38 = .ok (.i2l, 1) := by decide +kernel
theorem dPL_add_39 : decode bPL_add 39 = .ok (.ldiv, 1) := by decide +kernel
theorem dPL_add_40 : decode bPL_add 40 = .ok (.lastore, 1) := by decide +kernel
theorem dPL_add_41 : decode bPL_add 41 = .ok (.aload_n 0, 1) := by decide +kernel
theorem dPL_add_42 : decode bPL_add 42 = .ok (.getfield 23, 3) := by decide +kernel
theorem dPL_add_45 : decode bPL_add 45 = .ok (.iload 4, 2) := by decide +kernel
theorem dPL_add_47 : decode bPL_add 47 = .ok (.lload_n 1, 1) := by decide +kernel
theorem dPL_add_48 : decode bPL_add 48 = .ok (.iload_n 3, 1) := by decide +kernel
theorem dPL_add_49 : decode bPL_add 49 = .ok (.i2l, 1) := by decide +kernel
theorem dPL_add_50 : decode bPL_add 50 = .ok (.lrem, 1) := by decide +kernel
theorem dPL_add_51 : decode bPL_add 51 = .ok (.lastore, 1) := by decide +kernel
theorem dPL_add_52 : decode bPL_add 52 = .ok (.aload_n 0, 1) := by decide +kernel
theorem dPL_add_53 : decode bPL_add 53 = .ok (.dup, 1) := by decide +kernel
theorem dPL_add_54 : decode bPL_add 54 = .ok (.getfield 9, 3) := by decide +kernel
theorem dPL_add_57 : decode bPL_add 57 = .ok (.iconst 1, 1) := by decide +kernel
theorem dPL_add_58 : decode bPL_add 58 = .ok (.iadd, 1) := by decide +kernel
theorem dPL_add_59 : decode bPL_add 59 = .ok (.putfield 9, 3) := by decide +kernel
theorem dPL_add_62 : decode bPL_add 62 = .ok (.iload 4, 2) := by decide +kernel
theorem dPL_add_64 : decode bPL_add 64 = .ok (.ireturn, 1) := by decide +kernel
theorem dPL_copyFrom_0 : decode bPL_copyFrom 0 = .ok (.aload_n 0, 1) := by decide +kernel
theorem dPL_copyFrom_1 : decode bPL_copyFrom 1 = .ok (.aload_n 1, 1) := by decide +kernel
theorem dPL_copyFrom_2 : decode bPL_copyFrom 2 = .ok (.getfield 9, 3) := by decide +kernel
theorem dPL_copyFrom_5 : decode bPL_copyFrom 5 = .ok (.putfield 9, 3) := by decide +kernel
theorem dPL_copyFrom_8 : decode bPL_copyFrom 8 = .ok (.aload_n 1, 1) := by decide +kernel
theorem dPL_copyFrom_9 : decode bPL_copyFrom 9 = .ok (.getfield 15, 3) := by decide +kernel
theorem dPL_copyFrom_12 : decode bPL_copyFrom 12 = .ok (.aload_n 0, 1) := by decide +kernel
theorem dPL_copyFrom_13 : decode bPL_copyFrom 13 = .ok (.getfield 15, 3) := by decide +kernel
theorem dPL_copyFrom_16 : decode bPL_copyFrom 16 = .ok (.invokestatic 26, 3) := by decide +kernel
theorem dPL_copyFrom_19 : decode bPL_copyFrom 19 = .ok (.aload_n 1, 1) := by decide +kernel
theorem dPL_copyFrom_20 : decode bPL_copyFrom 20 = .ok (.getfield 19, 3) := by decide +kernel
theorem dPL_copyFrom_23 : decode bPL_copyFrom 23 = .ok (.aload_n 0, 1) := by decide +kernel
theorem dPL_copyFrom_24 : decode bPL_copyFrom 24 = .ok (.getfield 19, 3) := by decide +kernel
theorem dPL_copyFrom_27 : decode bPL_copyFrom 27 = .ok (.invokestatic 30, 3) := by decide +kernel
theorem dPL_copyFrom_30 : decode bPL_copyFrom 30 = .ok (.aload_n 1, 1) := by decide +kernel
theorem dPL_copyFrom_31 : decode bPL_copyFrom 31 = .ok (.getfield 23, 3) := by decide +kernel
theorem dPL_copyFrom_34 : decode bPL_copyFrom 34 = .ok (.aload_n 0, 1) := by decide +kernel
theorem dPL_copyFrom_35 : decode bPL_copyFrom 35 = .ok (.getfield 23, 3) := by decide +kernel
theorem dPL_copyFrom_38 : decode bPL_copyFrom 38 = .ok (.invokestatic 30, 3) := by decide +kernel
theorem dPL_copyFrom_41 : decode bPL_copyFrom 41 = .ok (.return_, 1) := by decide +kernel
theorem dPL_partOf_0 : decode bPL_partOf 0 = .ok (.iload_n 1, 1) := by decide +kernel
theorem dPL_partOf_1 : decode bPL_partOf 1 = .ok (.ifCond .lt 25, 3) := by decide +kernel
theorem dPL_partOf_4 : decode bPL_partOf 4 = .ok (.iload_n 1, 1) := by decide +kernel
theorem dPL_partOf_5 : decode bPL_partOf 5 = .ok (.aload_n 0, 1) := by decide +kernel
theorem dPL_partOf_6 : decode bPL_partOf 6 = .ok (.getfield 9, 3) := by decide +kernel
theorem dPL_partOf_9 : decode bPL_partOf 9 = .ok (.if_icmp .ge 17, 3) := by decide +kernel
theorem dPL_partOf_12 : decode bPL_partOf 12 = .ok (.iload_n 2, 1) := by decide +kernel
theorem dPL_partOf_13 : decode bPL_partOf 13 = .ok (.ifCond .lt 13, 3) := by decide +kernel
theorem dPL_partOf_16 : decode bPL_partOf 16 = .ok (.iload_n 2, 1) := by decide +kernel
theorem dPL_partOf_17 : decode bPL_partOf 17 = .ok (.aload_n 0, 1) := by decide +kernel
theorem dPL_partOf_18 : decode bPL_partOf 18 = .ok (.getfield 15, 3) := by decide +kernel
theorem dPL_partOf_21 : decode bPL_partOf 21 = .ok (.iload_n 1, 1) := by decide +kernel
theorem dPL_partOf_22 : decode bPL_partOf 22 = .ok (.iaload, 1) := by decide +kernel
theorem dPL_partOf_23 : decode bPL_partOf 23 = .ok (.if_icmp .lt 7, 3) := by decide +kernel
theorem dPL_partOf_26 : decode bPL_partOf 26 = .ok (.ldc2_w 34, 3) := by decide +kernel
theorem dPL_partOf_29 : decode bPL_partOf 29 = .ok (.lreturn, 1) := by decide +kernel
theorem dPL_partOf_30 : decode bPL_partOf 30 = .ok (.iload_n 2, 1) := by decide +kernel
theorem dPL_partOf_31 : decode bPL_partOf 31 = .ok (.i2l, 1) := by decide +kernel
theorem dPL_partOf_32 : decode bPL_partOf 32 = .ok (.aload_n 0, 1) := by decide +kernel
theorem dPL_partOf_33 : decode bPL_partOf 33 = .ok (.getfield 23, 3) := by decide +kernel
theorem dPL_partOf_36 : decode bPL_partOf 36 = .ok (.iload_n 1, 1) := by decide +kernel
theorem dPL_partOf_37 : decode bPL_partOf 37 = .ok (.laload, 1) := by decide +kernel
theorem dPL_partOf_38 : decode bPL_partOf 38 = .ok (.lcmp, 1) := by decide +kernel
theorem dPL_partOf_39 : decode bPL_partOf 39 = .ok (.ifCond .ge 14, 3) := by decide +kernel
theorem dPL_partOf_42 : decode bPL_partOf 42 = .ok (.aload_n 0, 1) := by decide +kernel
theorem dPL_partOf_43 : decode bPL_partOf 43 = .ok (.getfield 19, 3) := by decide +kernel
theorem dPL_partOf_46 : decode bPL_partOf 46 = .ok (.iload_n 1, 1) := by decide +kernel
theorem dPL_partOf_47 : decode bPL_partOf 47 = .ok (.laload, 1) := by decide +kernel
theorem dPL_partOf_48 : decode bPL_partOf 48 = .ok (.lconst 1, 1) := by decide +kernel
theorem dPL_partOf_49 : decode bPL_partOf 49 = .ok (.ladd, 1) := by decide +kernel
theorem dPL_partOf_50 : decode bPL_partOf 50 = .ok (.goto 9, 3) := by decide +kernel
theorem dPL_partOf_53 : decode bPL_partOf 53 = .ok (.aload_n 0, 1) := by decide +kernel
theorem dPL_partOf_54 : decode bPL_partOf 54 = .ok (.getfield 19, 3) := by decide +kernel
theorem dPL_partOf_57 : decode bPL_partOf 57 = .ok (.iload_n 1, 1) := by decide +kernel
theorem dPL_partOf_58 : decode bPL_partOf 58 = .ok (.laload, 1) := by decide +kernel
theorem dPL_partOf_59 : decode bPL_partOf 59 = .ok (.lreturn, 1) := by decide +kernel

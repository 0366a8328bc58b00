theorem dMO_allDue_25 : decode bMO_allDue 25 = .ok (.getfield 7, 3) := by decide +kernel
theorem dMO_allDue_28 : decode bMO_allDue 28 = .ok (.sipush 780, 3) := by decide +kernel
theorem dMO_allDue_31 : decode bMO_allDue 31 = .ok (.iload 4, 2) := by decide +kernel
theorem dMO_allDue_33 : decode bMO_allDue 33 = .ok (.iadd, 1) := by decide +kernel
theorem dMO_allDue_34 : decode bMO_allDue 34 = .ok (.laload, 1) := by decide +kernel
theorem dMO_allDue_35 : decode bMO_allDue 35 = .ok (.goto 4, 3) := by decide +kernel
theorem dMO_allDue_38 : decode bMO_allDue 38 = .ok (.lconst 0, 1) := by decide +kernel
theorem dMO_allDue_39 : decode bMO_allDue 39 = .ok (.ladd, 1) := by decide +kernel
theorem dMO_allDue_40 : decode bMO_allDue 40 = .ok (.lstore_n 2, 1) := by decide +kernel
theorem dMO_allDue_41 : decode bMO_allDue 41 = .ok (.iinc 4 1, 3) := by decide +kernel
theorem dMO_allDue_44 : decode bMO_allDue 44 = .ok (.goto (-39), 3) := by decide +kernel
theorem dMO_allDue_47 : decode bMO_allDue 47 = .ok (.lload_n 2, 1) := by decide +kernel
theorem dMO_allDue_48 : decode bMO_allDue 48 = .ok (.lreturn, 1) := by decide +kernel
theorem dMO_balance_0 : decode bMO_balance 0 = .ok (.aload_n 0, 1) := by decide +kernel
theorem dMO_balance_1 : decode bMO_balance 1 = .ok (.iconst 0, 1) := by decide +kernel
theorem dMO_balance_2 : decode bMO_balance 2 = .ok (.putfield 16, 3) := by decide +kernel
theorem dMO_balance_5 : decode bMO_balance 5 = .ok (.lconst 0, 1) := by decide +kernel
theorem dMO_balance_6 : decode bMO_balance 6 = .ok (.lstore 4, 2) := by decide +kernel
theorem dMO_balance_8 : decode bMO_balance 8 = .ok (.iconst 0, 1) := by decide +kernel
theorem dMO_balance_9 : decode bMO_balance 9 = .ok (.istore 6, 2) := by decide +kernel
theorem dMO_balance_11 : decode bMO_balance 11 = .ok (.iload 6, 2) := by decide +kernel
theorem dMO_balance_13 : decode bMO_balance 13 = .ok (.i2l, 1) := by decide +kernel
theorem dMO_balance_14 : decode bMO_balance 14 = .ok (.aload_n 0, 1) := by decide +kernel
theorem dMO_balance_15 : decode bMO_balance 15 = .ok (.getfield 7, 3) := by decide +kernel
theorem dMO_balance_18 : decode bMO_balance 18 = .ok (.iconst 1, 1) := by decide +kernel
theorem dMO_balance_19 : decode bMO_balance 19 = .ok (.laload, 1) := by decide +kernel
theorem dMO_balance_20 : decode bMO_balance 20 = .ok (.lcmp, 1) := by decide +kernel
theorem dMO_balance_21 : decode bMO_balance 21 = .ok (.ifCond .ge 134, 3) := by decide +kernel
theorem dMO_balance_24 : decode bMO_balance 24 = .ok (.iconst 0, 1) := by decide +kernel
theorem dMO_balance_25 : decode bMO_balance 25 = .ok (.istore 7, 2) := by decide +kernel
theorem dMO_balance_27 : decode bMO_balance 27 = .ok (.iload 7, 2) := by decide +kernel
theorem dMO_balance_29 : decode bMO_balance 29 = .ok (.i2l, 1) := by decide +kernel
theorem dMO_balance_30 : decode bMO_balance 30 = .ok (.aload_n 0, 1) := by decide +kernel
theorem dMO_balance_31 : decode bMO_balance 31 = .ok (.getfield 7, 3) := by decide +kernel
theorem dMO_balance_34 : decode bMO_balance 34 = .ok (.sipush 260, 3) := by decide +kernel
theorem dMO_balance_37 : decode bMO_balance 37 = .ok (.iload 6, 2) := by decide +kernel
theorem dMO_balance_39 : decode bMO_balance 39 = .ok (.iadd, 1) := by decide +kernel
theorem dMO_balance_40 : decode bMO_balance 40 = .ok (.laload, 1) := by decide +kernel
theorem dMO_balance_41 : decode bMO_balance 41 = .ok (.lcmp, 1) := by decide +kernel
theorem dMO_balance_42 : decode bMO_balance 42 = .ok (.ifCond .ge 107, 3) := by decide +kernel
theorem dMO_balance_45 : decode bMO_balance 45 = .ok (.bipush 6, 2) := by decide +kernel
theorem dMO_balance_47 : decode bMO_balance 47 = .ok (.iload 6, 2) := by decide +kernel
theorem dMO_balance_49 : decode bMO_balance 49 = .ok (.imul, 1) := by decide +kernel
theorem dMO_balance_50 : decode bMO_balance 50 = .ok (.iload 7, 2) := by decide +kernel
theorem dMO_balance_52 : decode bMO_balance 52 = .ok (.iadd, 1) := by decide +kernel
theorem dMO_balance_53 : decode bMO_balance 53 = .ok (.istore 8, 2) := by decide +kernel
theorem dMO_balance_55 : decode bMO_balance 55 = .ok (.aload_n 0, 1) := by decide +kernel
theorem dMO_balance_56 : decode bMO_balance 56 = .ok (.iload_n 1, 1) := by decide +kernel
theorem dMO_balance_57 : decode bMO_balance 57 = .ok (.invokevirtual 20, 3) := by decide +kernel
theorem dMO_balance_60 : decode bMO_balance 60 = .ok (.ifCond .eq 55, 3) := by decide +kernel
theorem dMO_balance_63 : decode bMO_balance 63 = .ok (.aload_n 0, 1) := by decide +kernel
theorem dMO_balance_64 : decode bMO_balance 64 = .ok (.getfield 7, 3) := by decide +kernel
theorem dMO_balance_67 : decode bMO_balance 67 = .ok (.sipush 140, 3) := by decide +kernel
theorem dMO_balance_70 : decode bMO_balance 70 = .ok (.iload 6, 2) := by decide +kernel
theorem dMO_balance_72 : decode bMO_balance 72 = .ok (.iadd, 1) := by decide +kernel
theorem dMO_balance_73 : decode bMO_balance 73 = .ok (.laload, 1) := by decide +kernel
theorem dMO_balance_74 : decode bMO_balance 74 = .ok (.lconst 0, 1) := by decide +kernel
theorem dMO_balance_75 : decode bMO_balance 75 = .ok (.lcmp, 1) := by decide +kernel
theorem dMO_balance_76 : decode bMO_balance 76 = .ok (.ifCond .le 39, 3) := by decide +kernel
theorem dMO_balance_79 : decode bMO_balance 79 = .ok (.aload_n 0, 1) := by decide +kernel
theorem dMO_balance_80 : decode bMO_balance 80 = .ok (.getfield 7, 3) := by decide +kernel
theorem dMO_balance_83 : decode bMO_balance 83 = .ok (.bipush 100, 2) := by decide +kernel
theorem dMO_balance_85 : decode bMO_balance 85 = .ok (.iload 6, 2) := by decide +kernel
theorem dMO_balance_87 : decode bMO_balance 87 = .ok (.iadd, 1) := by decide +kernel
theorem dMO_balance_88 : decode bMO_balance 88 = .ok (.laload, 1) := by decide +kernel
theorem dMO_balance_89 : decode bMO_balance 89 = .ok (.lload_n 2, 1) := by decide +kernel
theorem dMO_balance_90 : decode bMO_balance 90 = .ok (.lcmp, 1) := by decide +kernel
theorem dMO_balance_91 : decode bMO_balance 91 = .ok (.ifCond .gt 24, 3) := by decide +kernel
theorem dMO_balance_94 : decode bMO_balance 94 = .ok (.aload_n 0, 1) := by decide +kernel
theorem dMO_balance_95 : decode bMO_balance 95 = .ok (.getfield 7, 3) := by decide +kernel
theorem dMO_balance_98 : decode bMO_balance 98 = .ok (.sipush 300, 3) := by decide +kernel
theorem dMO_balance_101 : decode bMO_balance 101 = .ok (.iload 8, 2) := by decide +kernel
theorem dMO_balance_103 : decode bMO_balance 103 = .ok (.iadd, 1) := by decide +kernel
theorem dMO_balance_104 : decode bMO_balance 104 = .ok (.laload, 1) := by decide +kernel
theorem dMO_balance_105 : decode bMO_balance 105 = .ok (.iload_n 1, 1) := by decide +kernel
theorem dMO_balance_106 : decode bMO_balance 106 = .ok (.i2l, 1) := by decide +kernel
theorem dMO_balance_107 : decode bMO_balance 107 = .ok (.lcmp, 1) := by decide +kernel
theorem dMO_balance_108 : decode bMO_balance 108 = .ok (.ifCond .ne 7, 3) := by decide +kernel
theorem dMO_balance_111 : decode bMO_balance 111 = .ok (.iconst 1, 1) := by decide +kernel
theorem dMO_balance_112 : decode bMO_balance 112 = .ok (.goto 4, 3) := by decide +kernel
theorem dMO_balance_115 : decode bMO_balance 115 = .ok (.iconst 0, 1) := by decide +kernel
theorem dMO_balance_116 : decode bMO_balance 116 = .ok (.istore 9, 2) := by decide +kernel
theorem dMO_balance_118 : decode bMO_balance 118 = .ok (.lload 4, 2) := by decide +kernel
theorem dMO_balance_120 : decode bMO_balance 120 = .ok (.iload 9, 2) := by decide +kernel
theorem dMO_balance_122 : decode bMO_balance 122 = .ok (.ifCond .eq 17, 3) := by decide +kernel
theorem dMO_balance_125 : decode bMO_balance 125 = .ok (.aload_n 0, 1) := by decide +kernel
theorem dMO_balance_126 : decode bMO_balance 126 = .ok (.getfield 7, 3) := by decide +kernel
theorem dMO_balance_129 : decode bMO_balance 129 = .ok (.sipush 540, 3) := by decide +kernel
theorem dMO_balance_132 : decode bMO_balance 132 = .ok (.iload 8, 2) := by decide +kernel
theorem dMO_balance_134 : decode bMO_balance 134 = .ok (.iadd, 1) := by decide +kernel
theorem dMO_balance_135 : decode bMO_balance 135 = .ok (.laload, 1) := by decide +kernel
theorem dMO_balance_136 : decode bMO_balance 136 = .ok (.goto 4, 3) := by decide +kernel
theorem dMO_balance_139 : decode bMO_balance 139 = .ok (.lconst 0, 1) := by decide +kernel
theorem dMO_balance_140 : decode bMO_balance 140 = .ok (.ladd, 1) := by decide +kernel
theorem dMO_balance_141 : decode bMO_balance 141 = .ok (.lstore 4, 2) := by decide +kernel
theorem dMO_balance_143 : decode bMO_balance 143 = .ok (.iinc 7 1, 3) := by decide +kernel
theorem dMO_balance_146 : decode bMO_balance 146 = .ok (.goto (-119), 3) := by decide +kernel
theorem dMO_balance_149 : decode bMO_balance 149 = .ok (.iinc 6 1, 3) := by decide +kernel
theorem dMO_balance_152 : decode bMO_balance 152 = .ok (.goto (-141), 3) := by decide +kernel
theorem dMO_balance_155 : decode bMO_balance 155 = .ok (.lload 4, 2) := by decide +kernel
theorem dMO_balance_157 : decode bMO_balance 157 = .ok (.lreturn, 1) := by decide +kernel
theorem dMO_batch_0 : decode bMO_batch 0 = .ok (.aload_n 0, 1) := by decide +kernel
theorem dMO_batch_1 : decode bMO_batch 1 = .ok (.iconst 0, 1) := by decide +kernel
theorem dMO_batch_2 : decode bMO_batch 2 = .ok (.putfield 16, 3) := by decide +kernel
theorem dMO_batch_5 : decode bMO_batch 5 = .ok (.aload_n 0, 1) := by decide +kernel
theorem dMO_batch_6 : decode bMO_batch 6 = .ok (.getfield 111, 3) := by decide +kernel
theorem dMO_batch_9 : decode bMO_batch 9 = .ok (.ifCond .eq 5, 3) := by decide +kernel
theorem dMO_batch_12 : decode bMO_batch 12 = .ok (.iconst (-1), 1) := by decide +kernel
theorem dMO_batch_13 : decode bMO_batch 13 = .ok (.ireturn, 1) := by decide +kernel
theorem dMO_batch_14 : decode bMO_batch 14 = .ok (.iconst 0, 1) := by decide +kernel
theorem dMO_batch_15 : decode bMO_batch 15 = .ok (.istore_n 1, 1) := by decide +kernel
theorem dMO_batch_16 : decode bMO_batch 16 = .ok (.iload_n 1, 1) := by decide +kernel
theorem dMO_batch_17 : decode bMO_batch 17 = .ok (.sipush 1220, 3) := by decide +kernel
theorem dMO_batch_20 : decode bMO_batch 20 = .ok (.if_icmp .ge 21, 3) := by decide +kernel
theorem dMO_batch_23 : decode bMO_batch 23 = .ok (.aload_n 0, 1) := by decide +kernel
theorem dMO_batch_24 : decode bMO_batch 24 = .ok (.getfield 13, 3) := by decide +kernel
theorem dMO_batch_27 : decode bMO_batch 27 = .ok (.iload_n 1, 1) := by decide +kernel
theorem dMO_batch_28 : decode bMO_batch 28 = .ok (.aload_n 0, 1) := by decide +kernel
theorem dMO_batch_29 : decode bMO_batch 29 = .ok (.getfield 7, 3) := by decide +kernel
theorem dMO_batch_32 : decode bMO_batch 32 = .ok (.iload_n 1, 1) := by decide +kernel
theorem dMO_batch_33 : decode bMO_batch 33 = .ok (.laload, 1) := by decide +kernel
theorem dMO_batch_34 : decode bMO_batch 34 = .ok (.lastore, 1) := by decide +kernel
theorem dMO_batch_35 : decode bMO_batch 35 = .ok (.iinc 1 1, 3) := by decide +kernel
theorem dMO_batch_38 : decode bMO_batch 38 = .ok (.goto (-22), 3) := by decide +kernel
theorem dMO_batch_41 : decode bMO_batch 41 = .ok (.aload_n 0, 1) := by decide +kernel
theorem dMO_batch_42 : decode bMO_batch 42 = .ok (.iconst 1, 1) := by decide +kernel
theorem dMO_batch_43 : decode bMO_batch 43 = .ok (.putfield 111, 3) := by decide +kernel
theorem dMO_batch_46 : decode bMO_batch 46 = .ok (.aload_n 0, 1) := by decide +kernel
theorem dMO_batch_47 : decode bMO_batch 47 = .ok (.dup, 1) := by decide +kernel
theorem dMO_batch_48 : decode bMO_batch 48 = .ok (.getfield 115, 3) := by decide +kernel
theorem dMO_batch_51 : decode bMO_batch 51 = .ok (.iconst 1, 1) := by decide +kernel
theorem dMO_batch_52 : decode bMO_batch 52 = .ok (.iadd, 1) := by decide +kernel
theorem dMO_batch_53 : decode bMO_batch 53 = .ok (.putfield 115, 3) := by decide +kernel
theorem dMO_batch_56 : decode bMO_batch 56 = .ok (.aload_n 0, 1) := by decide +kernel
theorem dMO_batch_57 : decode bMO_batch 57 = .ok (.getfield 115, 3) := by decide +kernel
theorem dMO_batch_60 : decode bMO_batch 60 = .ok (.iconst 1, 1) := by decide +kernel
theorem dMO_batch_61 : decode bMO_batch 61 = .ok (.isub, 1) := by decide +kernel
theorem dMO_batch_62 : decode bMO_batch 62 = .ok (.ireturn, 1) := by decide +kernel
theorem dMO_close_0 : decode bMO_close 0 = .ok (.aload_n 0, 1) := by decide +kernel
theorem dMO_close_1 : decode bMO_close 1 = .ok (.iconst 0, 1) := by decide +kernel
theorem dMO_close_2 : decode bMO_close 2 = .ok (.putfield 16, 3) := by decide +kernel
theorem dMO_close_5 : decode bMO_close 5 = .ok (.aload_n 0, 1) := by decide +kernel
theorem dMO_close_6 : decode bMO_close 6 = .ok (.iload_n 1, 1) := by decide +kernel
theorem dMO_close_7 : decode bMO_close 7 = .ok (.invokevirtual 47, 3) := by decide +kernel
theorem dMO_close_10 : decode bMO_close 10 = .ok (.ifCond .eq 34, 3) := by decide +kernel
theorem dMO_close_13 : decode bMO_close 13 = .ok (.aload_n 0, 1) := by decide +kernel
theorem dMO_close_14 : decode bMO_close 14 = .ok (.getfield 7, 3) := by decide +kernel
theorem dMO_close_17 : decode bMO_close 17 = .ok (.sipush 140, 3) := by decide +kernel
theorem dMO_close_20 : decode bMO_close 20 = .ok (.iload_n 1, 1) := by decide +kernel
theorem dMO_close_21 : decode bMO_close 21 = .ok (.iadd, 1) := by decide +kernel
theorem dMO_close_22 : decode bMO_close 22 = .ok (.laload, 1) := by decide +kernel
theorem dMO_close_23 : decode bMO_close 23 = .ok (.lconst 0, 1) := by decide +kernel
theorem dMO_close_24 : decode bMO_close 24 = .ok (.lcmp, 1) := by decide +kernel
theorem dMO_close_25 : decode bMO_close 25 = .ok (.ifCond .gt 19, 3) := by decide +kernel
theorem dMO_close_28 : decode bMO_close 28 = .ok (.aload_n 0, 1) := by decide +kernel
theorem dMO_close_29 : decode bMO_close 29 = .ok (.aload_n 0, 1) := by decide +kernel
theorem dMO_close_30 : decode bMO_close 30 = .ok (.getfield 7, 3) := by decide +kernel
theorem dMO_close_33 : decode bMO_close 33 = .ok (.bipush 100, 2) := by decide +kernel
theorem dMO_close_35 : decode bMO_close 35 = .ok (.iload_n 1, 1) := by decide +kernel
theorem dMO_close_36 : decode bMO_close 36 = .ok (.iadd, 1) := by decide +kernel
theorem dMO_close_37 : decode bMO_close 37 = .ok (.laload, 1) := by decide +kernel
theorem dMO_close_38 : decode bMO_close 38 = .ok (.invokevirtual 40, 3) := by decide +kernel
theorem dMO_close_41 : decode bMO_close 41 = .ok (.ifCond .eq 5, 3) := by decide +kernel
theorem dMO_close_44 : decode bMO_close 44 = .ok (.iconst (-1), 1) := by decide +kernel
theorem dMO_close_45 : decode bMO_close 45 = .ok (.ireturn, 1) := by decide +kernel
theorem dMO_close_46 : decode bMO_close 46 = .ok (.lconst 0, 1) := by decide +kernel
theorem dMO_close_47 : decode bMO_close 47 = .ok (.lstore_n 2, 1) := by decide +kernel
theorem dMO_close_48 : decode bMO_close 48 = .ok (.iconst 0, 1) := by decide +kernel
theorem dMO_close_49 : decode bMO_close 49 = .ok (.istore 4, 2) := by decide +kernel
theorem dMO_close_51 : decode bMO_close 51 = .ok (.iload 4, 2) := by decide +kernel
theorem dMO_close_53 : decode bMO_close 53 = .ok (.i2l, 1) := by decide +kernel
theorem dMO_close_54 : decode bMO_close 54 = .ok (.aload_n 0, 1) := by decide +kernel
theorem dMO_close_55 : decode bMO_close 55 = .ok (.getfield 7, 3) := by decide +kernel
theorem dMO_close_58 : decode bMO_close 58 = .ok (.sipush 260, 3) := by decide +kernel
theorem dMO_close_61 : decode bMO_close 61 = .ok (.iload_n 1, 1) := by decide +kernel
theorem dMO_close_62 : decode bMO_close 62 = .ok (.iadd, 1) := by decide +kernel
theorem dMO_close_63 : decode bMO_close 63 = .ok (.laload, 1) := by decide +kernel
theorem dMO_close_64 : decode bMO_close 64 = .ok (.lcmp, 1) := by decide +kernel
theorem dMO_close_65 : decode bMO_close 65 = .ok (.ifCond .ge 28, 3) := by decide +kernel
theorem dMO_close_68 : decode bMO_close 68 = .ok (.lload_n 2, 1) := by decide +kernel
theorem dMO_close_69 : decode bMO_close 69 = .ok (.aload_n 0, 1) := by decide +kernel
theorem dMO_close_70 : decode bMO_close 70 = .ok (.getfield 7, 3) := by decide +kernel
theorem dMO_close_73 : decode bMO_close 73 = .ok (.sipush 540, 3) := by decide +kernel
theorem dMO_close_76 : decode bMO_close 76 = .ok (.bipush 6, 2) := by decide +kernel
theorem dMO_close_78 : decode bMO_close 78 = .ok (.iload_n 1, 1) := by decide +kernel
theorem dMO_close_79 : decode bMO_close 79 = .ok (.imul, 1) := by decide +kernel
theorem dMO_close_80 : decode bMO_close 80 = .ok (.iadd, 1) := by decide +kernel
theorem dMO_close_81 : decode bMO_close 81 = .ok (.iload 4, 2) := by decide +kernel
theorem dMO_close_83 : decode bMO_close 83 = .ok (.iadd, 1) := by decide +kernel
theorem dMO_close_84 : decode bMO_close 84 = .ok (.laload, 1) := by decide +kernel
theorem dMO_close_85 : decode bMO_close 85 = .ok (.ladd, 1) := by decide +kernel
theorem dMO_close_86 : decode bMO_close 86 = .ok (.lstore_n 2, 1) := by decide +kernel
theorem dMO_close_87 : decode bMO_close 87 = .ok (.iinc 4 1, 3) := by decide +kernel
theorem dMO_close_90 : decode bMO_close 90 = .ok (.goto (-39), 3) := by decide +kernel
theorem dMO_close_93 : decode bMO_close 93 = .ok (.lload_n 2, 1) := by decide +kernel
theorem dMO_close_94 : decode bMO_close 94 = .ok (.lconst 0, 1) := by decide +kernel
theorem dMO_close_95 : decode bMO_close 95 = .ok (.lcmp, 1) := by decide +kernel
theorem dMO_close_96 : decode bMO_close 96 = .ok (.ifCond .eq 10, 3) := by decide +kernel
theorem dMO_close_99 : decode bMO_close 99 = .ok (.aload_n 0, 1) := by decide +kernel
theorem dMO_close_100 : decode bMO_close 100 = .ok (.iconst 1, 1) := by decide +kernel
theorem dMO_close_101 : decode bMO_close 101 = .ok (.putfield 16, 3) := by decide +kernel
theorem dMO_close_104 : decode bMO_close 104 = .ok (.iconst 0, 1) := by decide +kernel
theorem dMO_close_105 : decode bMO_close 105 = .ok (.ireturn, 1) := by decide +kernel
theorem dMO_close_106 : decode bMO_close 106 = .ok (.aload_n 0, 1) := by decide +kernel
theorem dMO_close_107 : decode bMO_close 107 = .ok (.getfield 7, 3) := by decide +kernel
theorem dMO_close_110 : decode bMO_close 110 = .ok (.sipush 140, 3) := by decide +kernel
theorem dMO_close_113 : decode bMO_close 113 = .ok (.iload_n 1, 1) := by decide +kernel
theorem dMO_close_114 : decode bMO_close 114 = .ok (.iadd, 1) := by decide +kernel
theorem dMO_close_115 : decode bMO_close 115 = .ok (.lconst 1, 1) := by decide +kernel
theorem dMO_close_116 : decode bMO_close 116 = .ok (.lastore, 1) := by decide +kernel
theorem dMO_close_117 : decode bMO_close 117 = .ok (.iconst 0, 1) := by decide +kernel
theorem dMO_close_118 : decode bMO_close 118 = .ok (.istore 4, 2) := by decide +kernel
theorem dMO_close_120 : decode bMO_close 120 = .ok (.iload 4, 2) := by decide +kernel
theorem dMO_close_122 : decode bMO_close 122 = .ok (.i2l, 1) := by decide +kernel
theorem dMO_close_123 : decode bMO_close 123 = .ok (.aload_n 0, 1) := by decide +kernel
theorem dMO_close_124 : decode bMO_close 124 = .ok (.getfield 7, 3) := by decide +kernel
theorem dMO_close_127 : decode bMO_close 127 = .ok (.sipush 260, 3) := by decide +kernel
theorem dMO_close_130 : decode bMO_close 130 = .ok (.iload_n 1, 1) := by decide +kernel
theorem dMO_close_131 : decode bMO_close 131 = .ok (.iadd, 1) := by decide +kernel
theorem dMO_close_132 : decode bMO_close 132 = .ok (.laload, 1) := by decide +kernel
theorem dMO_close_133 : decode bMO_close 133 = .ok (.lcmp, 1) := by decide +kernel
theorem dMO_close_134 : decode bMO_close 134 = .ok (.ifCond .ge 54, 3) := by decide +kernel
theorem dMO_close_137 : decode bMO_close 137 = .ok (.bipush 6, 2) := by decide +kernel
theorem dMO_close_139 : decode bMO_close 139 = .ok (.iload_n 1, 1) := by decide +kernel
theorem dMO_close_140 : decode bMO_close 140 = .ok (.imul, 1) := by decide +kernel
theorem dMO_close_141 : decode bMO_close 141 = .ok (.iload 4, 2) := by decide +kernel
theorem dMO_close_143 : decode bMO_close 143 = .ok (.iadd, 1) := by decide +kernel
theorem dMO_close_144 : decode bMO_close 144 = .ok (.istore 5, 2) := by decide +kernel
theorem dMO_close_146 : decode bMO_close 146 = .ok (.aload_n 0, 1) := by decide +kernel
theorem dMO_close_147 : decode bMO_close 147 = .ok (.getfield 7, 3) := by decide +kernel
theorem dMO_close_150 : decode bMO_close 150 = .ok (.sipush 780, 3) := by decide +kernel
theorem dMO_close_153 : decode bMO_close 153 = .ok (.iload 5, 2) := by decide +kernel
theorem dMO_close_155 : decode bMO_close 155 = .ok (.iadd, 1) := by decide +kernel
theorem dMO_close_156 : decode bMO_close 156 = .ok (.aload_n 0, 1) := by decide +kernel
theorem dMO_close_157 : decode bMO_close 157 = .ok (.iload_n 1, 1) := by decide +kernel
theorem dMO_close_158 : decode bMO_close 158 = .ok (.iload 4, 2) := by decide +kernel
theorem dMO_close_160 : decode bMO_close 160 = .ok (.invokevirtual 60, 3) := by decide +kernel
theorem dMO_close_163 : decode bMO_close 163 = .ok (.ifCond .eq 17, 3) := by decide +kernel
theorem dMO_close_166 : decode bMO_close 166 = .ok (.aload_n 0, 1) := by decide +kernel
theorem dMO_close_167 : decode bMO_close 167 = .ok (.getfield 7, 3) := by decide +kernel
theorem dMO_close_170 : decode bMO_close 170 = .ok (.sipush 540, 3) := by decide +kernel
theorem dMO_close_173 : decode bMO_close 173 = .ok (.iload 5, 2) := by decide +kernel
theorem dMO_close_175 : decode bMO_close 175 = .ok (.iadd, 1) := by decide +kernel
theorem dMO_close_176 : decode bMO_close 176 = .ok (.laload, 1) := by decide +kernel
theorem dMO_close_177 : decode bMO_close 177 = .ok (.goto 4, 3) := by decide +kernel
theorem dMO_close_180 : decode bMO_close 180 = .ok (.lconst 0, 1) := by decide +kernel
theorem dMO_close_181 : decode bMO_close 181 = .ok (.lastore, 1) := by decide +kernel
theorem dMO_close_182 : decode bMO_close 182 = .ok (.iinc 4 1, 3) := by decide +kernel
theorem dMO_close_185 : decode bMO_close 185 = .ok (.goto (-65), 3) := by decide +kernel
theorem dMO_close_188 : decode bMO_close 188 = .ok (.aload_n 0, 1) := by decide +kernel
theorem dMO_close_189 : decode bMO_close 189 = .ok (.getfield 7, 3) := by decide +kernel
theorem dMO_close_192 : decode bMO_close 192 = .ok (.sipush 260, 3) := by decide +kernel
theorem dMO_close_195 : decode bMO_close 195 = .ok (.iload_n 1, 1) := by decide +kernel
theorem dMO_close_196 : decode bMO_close 196 = .ok (.iadd, 1) := by decide +kernel
theorem dMO_close_197 : decode bMO_close 197 = .ok (.laload, 1) := by decide +kernel
theorem dMO_close_198 : decode bMO_close 198 = .ok (.l2i, 1) := by decide +kernel
theorem dMO_close_199 : decode bMO_close 199 = .ok (.ireturn, 1) := by decide +kernel
theorem dMO_closeMonth_0 : decode bMO_closeMonth 0 = .ok (.aload_n 0, 1) := by decide +kernel
theorem dMO_closeMonth_1 : decode bMO_closeMonth 1 = .ok (.iconst 0, 1) := by decide +kernel
theorem dMO_closeMonth_2 : decode bMO_closeMonth 2 = .ok (.putfield 16, 3) := by decide +kernel
theorem dMO_closeMonth_5 : decode bMO_closeMonth 5 = .ok (.iload_n 1, 1) := by decide +kernel
theorem dMO_closeMonth_6 : decode bMO_closeMonth 6 = .ok (.i2l, 1) := by decide +kernel
theorem dMO_closeMonth_7 : decode bMO_closeMonth 7 = .ok (.aload_n 0, 1) := by decide +kernel
theorem dMO_closeMonth_8 : decode bMO_closeMonth 8 = .ok (.getfield 7, 3) := by decide +kernel
theorem dMO_closeMonth_11 : decode bMO_closeMonth 11 = .ok (.iconst 2, 1) := by decide +kernel
theorem dMO_closeMonth_12 : decode bMO_closeMonth 12 = .ok (.laload, 1) := by decide +kernel
theorem dMO_closeMonth_13 : decode bMO_closeMonth 13 = .ok (.lcmp, 1) := by decide +kernel
theorem dMO_closeMonth_14 : decode bMO_closeMonth 14 = .ok (.ifCond .ne 16, 3) := by decide +kernel
theorem dMO_closeMonth_17 : decode bMO_closeMonth 17 = .ok (.aload_n 0, 1) := by decide +kernel
theorem dMO_closeMonth_18 : decode bMO_closeMonth 18 = .ok (.getfield 7, 3) := by decide +kernel
theorem dMO_closeMonth_21 : decode bMO_closeMonth 21 = .ok (.iconst 2, 1) := by decide +kernel
theorem dMO_closeMonth_22 : decode bMO_closeMonth 22 = .ok (.laload, 1) := by decide +kernel
theorem dMO_closeMonth_23 : decode bMO_closeMonth 23 = .ok (.ldc2_w 118, 3) := by decide +kernel
theorem dMO_closeMonth_26 : decode bMO_closeMonth 26 = .ok (.lcmp, 1) := by decide +kernel
theorem dMO_closeMonth_27 : decode bMO_closeMonth 27 = .ok (.ifCond .ne 5, 3) := by decide +kernel
theorem dMO_closeMonth_30 : decode bMO_closeMonth 30 = .ok (.iconst 0, 1) := by decide +kernel
theorem dMO_closeMonth_31 : decode bMO_closeMonth 31 = .ok (.ireturn, 1) := by decide +kernel
theorem dMO_closeMonth_32 : decode bMO_closeMonth 32 = .ok (.aload_n 0, 1) := by decide +kernel
theorem dMO_closeMonth_33 : decode bMO_closeMonth 33 = .ok (.getfield 7, 3) := by decide +kernel
theorem dMO_closeMonth_36 : decode bMO_closeMonth 36 = .ok (.iconst 2, 1) := by decide +kernel
theorem dMO_closeMonth_37 : decode bMO_closeMonth 37 = .ok (.dup2, 1) := by decide +kernel
theorem dMO_closeMonth_38 : decode bMO_closeMonth 38 = .ok (.laload, 1) := by decide +kernel
theorem dMO_closeMonth_39 : decode bMO_closeMonth 39 = .ok (.lconst 1, 1) := by decide +kernel
theorem dMO_closeMonth_40 : decode bMO_closeMonth 40 = .ok (.ladd, 1) := by decide +kernel
theorem dMO_closeMonth_41 : decode bMO_closeMonth 41 = .ok (.lastore, 1) := by decide +kernel
theorem dMO_closeMonth_42 : decode bMO_closeMonth 42 = .ok (.iconst 1, 1) := by decide +kernel
theorem dMO_closeMonth_43 : decode bMO_closeMonth 43 = .ok (.ireturn, 1) := by decide +kernel
theorem dMO_common_0 : decode bMO_common 0 = .ok (.lload_n 0, 1) := by decide +kernel
theorem dMO_common_1 : decode bMO_common 1 = .ok (.lstore 4, 2) := by decide +kernel
theorem dMO_common_3 : decode bMO_common 3 = .ok (.lload_n 2, 1) := by decide +kernel
theorem dMO_common_4 : decode bMO_common 4 = .ok (.lstore 6, 2) := by decide +kernel
theorem dMO_common_6 : decode bMO_common 6 = .ok (.lload 4, 2) := by decide +kernel
theorem dMO_common_8 : decode bMO_common 8 = .ok (.lconst 0, 1) := by decide +kernel
theorem dMO_common_9 : decode bMO_common 9 = .ok (.lcmp, 1) := by decide +kernel
theorem dMO_common_10 : decode bMO_common 10 = .ok (.ifCond .eq 21, 3) := by decide +kernel
theorem dMO_common_13 : decode bMO_common 13 = .ok (.lload 6, 2) := by decide +kernel
theorem dMO_common_15 : decode bMO_common 15 = .ok (.lload 4, 2) := by decide +kernel
theorem dMO_common_17 : decode bMO_common 17 = .ok (.lrem, 1) := by decide +kernel
theorem dMO_common_18 : decode bMO_common 18 = .ok (.lstore 8, 2) := by decide +kernel
theorem dMO_common_20 : decode bMO_common 20 = .ok (.lload 4, 2) := by decide +kernel
theorem dMO_common_22 : decode bMO_common 22 = .ok (.lstore 6, 2) := by decide +kernel
theorem dMO_common_24 : decode bMO_common 24 = .ok (.lload 8, 2) := by decide +kernel
theorem dMO_common_26 : decode bMO_common 26 = .ok (.lstore 4, 2) := by decide +kernel
theorem dMO_common_28 : decode bMO_common 28 = .ok (.goto (-22), 3) := by decide +kernel
theorem dMO_common_31 : decode bMO_common 31 = .ok (.lload 6, 2) := by decide +kernel
theorem dMO_common_33 : decode bMO_common 33 = .ok (.lreturn, 1) := by decide +kernel
theorem dMO_due_0 : decode bMO_due 0 = .ok (.aload_n 0, 1) := by decide +kernel
theorem dMO_due_1 : decode bMO_due 1 = .ok (.iconst 0, 1) := by decide +kernel
theorem dMO_due_2 : decode bMO_due 2 = .ok (.putfield 16, 3) := by decide +kernel
theorem dMO_due_5 : decode bMO_due 5 = .ok (.iload_n 1, 1) := by decide +kernel
theorem dMO_due_6 : decode bMO_due 6 = .ok (.ifCond .lt 35, 3) := by decide +kernel
theorem dMO_due_9 : decode bMO_due 9 = .ok (.iload_n 1, 1) := by decide +kernel
theorem dMO_due_10 : decode bMO_due 10 = .ok (.i2l, 1) := by decide +kernel
theorem dMO_due_11 : decode bMO_due 11 = .ok (.aload_n 0, 1) := by decide +kernel
theorem dMO_due_12 : decode bMO_due 12 = .ok (.getfield 7, 3) := by decide +kernel
theorem dMO_due_15 : decode bMO_due 15 = .ok (.iconst 3, 1) := by decide +kernel
theorem dMO_due_16 : decode bMO_due 16 = .ok (.laload, 1) := by decide +kernel
theorem dMO_due_17 : decode bMO_due 17 = .ok (.lcmp, 1) := by decide +kernel
theorem dMO_due_18 : decode bMO_due 18 = .ok (.ifCond .ge 23, 3) := by decide +kernel
theorem dMO_due_21 : decode bMO_due 21 = .ok (.iload_n 2, 1) := by decide +kernel
theorem dMO_due_22 : decode bMO_due 22 = .ok (.ifCond .lt 19, 3) := by decide +kernel
theorem dMO_due_25 : decode bMO_due 25 = .ok (.iload_n 2, 1) := by decide +kernel
theorem dMO_due_26 : decode bMO_due 26 = .ok (.i2l, 1) := by decide +kernel
theorem dMO_due_27 : decode bMO_due 27 = .ok (.aload_n 0, 1) := by decide +kernel
theorem dMO_due_28 : decode bMO_due 28 = .ok (.getfield 7, 3) := by decide +kernel
theorem dMO_due_31 : decode bMO_due 31 = .ok (.sipush 1190, 3) := by decide +kernel
theorem dMO_due_34 : decode bMO_due 34 = .ok (.iload_n 1, 1) := by decide +kernel
theorem dMO_due_35 : decode bMO_due 35 = .ok (.iadd, 1) := by decide +kernel
theorem dMO_due_36 : decode bMO_due 36 = .ok (.laload, 1) := by decide +kernel
theorem dMO_due_37 : decode bMO_due 37 = .ok (.lcmp, 1) := by decide +kernel
theorem dMO_due_38 : decode bMO_due 38 = .ok (.ifCond .lt 7, 3) := by decide +kernel
theorem dMO_due_41 : decode bMO_due 41 = .ok (.ldc2_w 79, 3) := by decide +kernel
theorem dMO_due_44 : decode bMO_due 44 = .ok (.lreturn, 1) := by decide +kernel
theorem dMO_due_45 : decode bMO_due 45 = .ok (.aload_n 0, 1) := by decide +kernel
theorem dMO_due_46 : decode bMO_due 46 = .ok (.getfield 7, 3) := by decide +kernel
theorem dMO_due_49 : decode bMO_due 49 = .ok (.sipush 1190, 3) := by decide +kernel
theorem dMO_due_52 : decode bMO_due 52 = .ok (.iload_n 1, 1) := by decide +kernel
theorem dMO_due_53 : decode bMO_due 53 = .ok (.iadd, 1) := by decide +kernel
theorem dMO_due_54 : decode bMO_due 54 = .ok (.laload, 1) := by decide +kernel
theorem dMO_due_55 : decode bMO_due 55 = .ok (.lstore_n 3, 1) := by decide +kernel
theorem dMO_due_56 : decode bMO_due 56 = .ok (.aload_n 0, 1) := by decide +kernel
theorem dMO_due_57 : decode bMO_due 57 = .ok (.getfield 7, 3) := by decide +kernel
theorem dMO_due_60 : decode bMO_due 60 = .ok (.sipush 1180, 3) := by decide +kernel
theorem dMO_due_63 : decode bMO_due 63 = .ok (.iload_n 1, 1) := by decide +kernel
theorem dMO_due_64 : decode bMO_due 64 = .ok (.iadd, 1) := by decide +kernel
theorem dMO_due_65 : decode bMO_due 65 = .ok (.laload, 1) := by decide +kernel
theorem dMO_due_66 : decode bMO_due 66 = .ok (.lload_n 3, 1) := by decide +kernel
theorem dMO_due_67 : decode bMO_due 67 = .ok (.ldiv, 1) := by decide +kernel
theorem dMO_due_68 : decode bMO_due 68 = .ok (.iload_n 2, 1) := by decide +kernel
theorem dMO_due_69 : decode bMO_due 69 = .ok (.i2l, 1) := by decide +kernel
theorem dMO_due_70 : decode bMO_due 70 = .ok (.aload_n 0, 1) := by decide +kernel
theorem dMO_due_71 : decode bMO_due 71 = .ok (.getfield 7, 3) := by decide +kernel
theorem dMO_due_74 : decode bMO_due 74 = .ok (.sipush 1180, 3) := by decide +kernel
theorem dMO_due_77 : decode bMO_due 77 = .ok (.iload_n 1, 1) := by decide +kernel
theorem dMO_due_78 : decode bMO_due 78 = .ok (.iadd, 1) := by decide +kernel
theorem dMO_due_79 : decode bMO_due 79 = .ok (.laload, 1) := by decide +kernel
theorem dMO_due_80 : decode bMO_due 80 = .ok (.lload_n 3, 1) := by decide +kernel
theorem dMO_due_81 : decode bMO_due 81 = .ok (.lrem, 1) := by decide +kernel
theorem dMO_due_82 : decode bMO_due 82 = .ok (.lcmp, 1) := by decide +kernel
theorem dMO_due_83 : decode bMO_due 83 = .ok (.ifCond .ge 7, 3) := by decide +kernel
theorem dMO_due_86 : decode bMO_due 86 = .ok (.lconst 1, 1) := by decide +kernel
theorem dMO_due_87 : decode bMO_due 87 = .ok (.goto 4, 3) := by decide +kernel
theorem dMO_due_90 : decode bMO_due 90 = .ok (.lconst 0, 1) := by decide +kernel
theorem dMO_due_91 : decode bMO_due 91 = .ok (.ladd, 1) := by decide +kernel
theorem dMO_due_92 : decode bMO_due 92 = .ok (.lreturn, 1) := by decide +kernel
theorem dMO_dun_0 : decode bMO_dun 0 = .ok (.aload_n 0, 1) := by decide +kernel
theorem dMO_dun_1 : decode bMO_dun 1 = .ok (.iconst 0, 1) := by decide +kernel
theorem dMO_dun_2 : decode bMO_dun 2 = .ok (.putfield 16, 3) := by decide +kernel
theorem dMO_dun_5 : decode bMO_dun 5 = .ok (.aload_n 0, 1) := by decide +kernel
theorem dMO_dun_6 : decode bMO_dun 6 = .ok (.iload_n 1, 1) := by decide +kernel
theorem dMO_dun_7 : decode bMO_dun 7 = .ok (.invokevirtual 70, 3) := by decide +kernel
theorem dMO_dun_10 : decode bMO_dun 10 = .ok (.ifCond .eq 10, 3) := by decide +kernel
theorem dMO_dun_13 : decode bMO_dun 13 = .ok (.lload_n 2, 1) := by decide +kernel
theorem dMO_dun_14 : decode bMO_dun 14 = .ok (.invokestatic 36, 3) := by decide +kernel
theorem dMO_dun_17 : decode bMO_dun 17 = .ok (.ifCond .ne 5, 3) := by decide +kernel
theorem dMO_dun_20 : decode bMO_dun 20 = .ok (.iconst (-1), 1) := by decide +kernel
theorem dMO_dun_21 : decode bMO_dun 21 = .ok (.ireturn, 1) := by decide +kernel
theorem dMO_dun_22 : decode bMO_dun 22 = .ok (.aload_n 0, 1) := by decide +kernel
theorem dMO_dun_23 : decode bMO_dun 23 = .ok (.getfield 7, 3) := by decide +kernel
theorem dMO_dun_26 : decode bMO_dun 26 = .ok (.bipush 40, 2) := by decide +kernel
theorem dMO_dun_28 : decode bMO_dun 28 = .ok (.iload_n 1, 1) := by decide +kernel
theorem dMO_dun_29 : decode bMO_dun 29 = .ok (.iadd, 1) := by decide +kernel
theorem dMO_dun_30 : decode bMO_dun 30 = .ok (.laload, 1) := by decide +kernel
theorem dMO_dun_31 : decode bMO_dun 31 = .ok (.lconst 0, 1) := by decide +kernel
theorem dMO_dun_32 : decode bMO_dun 32 = .ok (.lcmp, 1) := by decide +kernel
theorem dMO_dun_33 : decode bMO_dun 33 = .ok (.ifCond .le 32, 3) := by decide +kernel
theorem dMO_dun_36 : decode bMO_dun 36 = .ok (.lload_n 2, 1) := by decide +kernel
theorem dMO_dun_37 : decode bMO_dun 37 = .ok (.aload_n 0, 1) := by decide +kernel
theorem dMO_dun_38 : decode bMO_dun 38 = .ok (.getfield 7, 3) := by decide +kernel
theorem dMO_dun_41 : decode bMO_dun 41 = .ok (.bipush 50, 2) := by decide +kernel
theorem dMO_dun_43 : decode bMO_dun 43 = .ok (.iload_n 1, 1) := by decide +kernel
theorem dMO_dun_44 : decode bMO_dun 44 = .ok (.iadd, 1) := by decide +kernel
theorem dMO_dun_45 : decode bMO_dun 45 = .ok (.laload, 1) := by decide +kernel
theorem dMO_dun_46 : decode bMO_dun 46 = .ok (.aload_n 0, 1) := by decide +kernel
theorem dMO_dun_47 : decode bMO_dun 47 = .ok (.getfield 7, 3) := by decide +kernel
theorem dMO_dun_50 : decode bMO_dun 50 = .ok (.bipush 60, 2) := by decide +kernel
theorem dMO_dun_52 : decode bMO_dun 52 = .ok (.iload_n 1, 1) := by decide +kernel
theorem dMO_dun_53 : decode bMO_dun 53 = .ok (.iadd, 1) := by decide +kernel
theorem dMO_dun_54 : decode bMO_dun 54 = .ok (.laload, 1) := by decide +kernel
theorem dMO_dun_55 : decode bMO_dun 55 = .ok (.invokestatic 26, 3) := by decide +kernel
theorem dMO_dun_58 : decode bMO_dun 58 = .ok (.ifCond .eq 7, 3) := by decide +kernel
theorem dMO_dun_61 : decode bMO_dun 61 = .ok (.iconst 1, 1) := by decide +kernel
theorem dMO_dun_62 : decode bMO_dun 62 = .ok (.goto 4, 3) := by decide +kernel
theorem dMO_dun_65 : decode bMO_dun 65 = .ok (.iconst 0, 1) := by decide +kernel
theorem dMO_dun_66 : decode bMO_dun 66 = .ok (.istore 4, 2) := by decide +kernel
theorem dMO_dun_68 : decode bMO_dun 68 = .ok (.aload_n 0, 1) := by decide +kernel
theorem dMO_dun_69 : decode bMO_dun 69 = .ok (.iload_n 1, 1) := by decide +kernel
theorem dMO_dun_70 : decode bMO_dun 70 = .ok (.lload_n 2, 1) := by decide +kernel
theorem dMO_dun_71 : decode bMO_dun 71 = .ok (.invokevirtual 86, 3) := by decide +kernel
theorem dMO_dun_74 : decode bMO_dun 74 = .ok (.ifCond .ne 16, 3) := by decide +kernel
theorem dMO_dun_77 : decode bMO_dun 77 = .ok (.aload_n 0, 1) := by decide +kernel
theorem dMO_dun_78 : decode bMO_dun 78 = .ok (.getfield 7, 3) := by decide +kernel
theorem dMO_dun_81 : decode bMO_dun 81 = .ok (.bipush 20, 2) := by decide +kernel
theorem dMO_dun_83 : decode bMO_dun 83 = .ok (.iload_n 1, 1) := by decide +kernel
theorem dMO_dun_84 : decode bMO_dun 84 = .ok (.iadd, 1) := by decide +kernel
theorem dMO_dun_85 : decode bMO_dun 85 = .ok (.lconst 0, 1) := by decide +kernel
theorem dMO_dun_86 : decode bMO_dun 86 = .ok (.lastore, 1) := by decide +kernel
theorem dMO_dun_87 : decode bMO_dun 87 = .ok (.goto 92, 3) := by decide +kernel
theorem dMO_dun_90 : decode bMO_dun 90 = .ok (.iload 4, 2) := by decide +kernel
theorem dMO_dun_92 : decode bMO_dun 92 = .ok (.ifCond .ne 87, 3) := by decide +kernel
theorem dMO_dun_95 : decode bMO_dun 95 = .ok (.aload_n 0, 1) := by decide +kernel
theorem dMO_dun_96 : decode bMO_dun 96 = .ok (.getfield 7, 3) := by decide +kernel
theorem dMO_dun_99 : decode bMO_dun 99 = .ok (.bipush 20, 2) := by decide +kernel
theorem dMO_dun_101 : decode bMO_dun 101 = .ok (.iload_n 1, 1) := by decide +kernel
theorem dMO_dun_102 : decode bMO_dun 102 = .ok (.iadd, 1) := by decide +kernel
theorem dMO_dun_103 : decode bMO_dun 103 = .ok (.laload, 1) := by decide +kernel
theorem dMO_dun_104 : decode bMO_dun 104 = .ok (.lconst 0, 1) := by decide +kernel
theorem dMO_dun_105 : decode bMO_dun 105 = .ok (.lcmp, 1) := by decide +kernel
theorem dMO_dun_106 : decode bMO_dun 106 = .ok (.ifCond .eq 21, 3) := by decide +kernel
theorem dMO_dun_109 : decode bMO_dun 109 = .ok (.lload_n 2, 1) := by decide +kernel
theorem dMO_dun_110 : decode bMO_dun 110 = .ok (.aload_n 0, 1) := by decide +kernel
theorem dMO_dun_111 : decode bMO_dun 111 = .ok (.getfield 7, 3) := by decide +kernel
theorem dMO_dun_114 : decode bMO_dun 114 = .ok (.bipush 30, 2) := by decide +kernel
theorem dMO_dun_116 : decode bMO_dun 116 = .ok (.iload_n 1, 1) := by decide +kernel
theorem dMO_dun_117 : decode bMO_dun 117 = .ok (.iadd, 1) := by decide +kernel
theorem dMO_dun_118 : decode bMO_dun 118 = .ok (.laload, 1) := by decide +kernel
theorem dMO_dun_119 : decode bMO_dun 119 = .ok (.lsub, 1) := by decide +kernel
theorem dMO_dun_120 : decode bMO_dun 120 = .ok (.ldc2_w 90, 3) := by decide +kernel
theorem dMO_dun_123 : decode bMO_dun 123 = .ok (.lcmp, 1) := by decide +kernel
theorem dMO_dun_124 : decode bMO_dun 124 = .ok (.ifCond .lt 55, 3) := by decide +kernel
theorem dMO_dun_127 : decode bMO_dun 127 = .ok (.aload_n 0, 1) := by decide +kernel
theorem dMO_dun_128 : decode bMO_dun 128 = .ok (.getfield 7, 3) := by decide +kernel
theorem dMO_dun_131 : decode bMO_dun 131 = .ok (.bipush 20, 2) := by decide +kernel
theorem dMO_dun_133 : decode bMO_dun 133 = .ok (.iload_n 1, 1) := by decide +kernel
theorem dMO_dun_134 : decode bMO_dun 134 = .ok (.iadd, 1) := by decide +kernel
theorem dMO_dun_135 : decode bMO_dun 135 = .ok (.aload_n 0, 1) := by decide +kernel
theorem dMO_dun_136 : decode bMO_dun 136 = .ok (.getfield 7, 3) := by decide +kernel
theorem dMO_dun_139 : decode bMO_dun 139 = .ok (.bipush 20, 2) := by decide +kernel
theorem dMO_dun_141 : decode bMO_dun 141 = .ok (.iload_n 1, 1) := by decide +kernel
theorem dMO_dun_142 : decode bMO_dun 142 = .ok (.iadd, 1) := by decide +kernel
theorem dMO_dun_143 : decode bMO_dun 143 = .ok (.laload, 1) := by decide +kernel
theorem dMO_dun_144 : decode bMO_dun 144 = .ok (.ldc2_w 92, 3) := by decide +kernel
theorem dMO_dun_147 : decode bMO_dun 147 = .ok (.lcmp, 1) := by decide +kernel
theorem dMO_dun_148 : decode bMO_dun 148 = .ok (.ifCond .ne 9, 3) := by decide +kernel
theorem dMO_dun_151 : decode bMO_dun 151 = .ok (.ldc2_w 92, 3) := by decide +kernel
theorem dMO_dun_154 : decode bMO_dun 154 = .ok (.goto 14, 3) := by decide +kernel
theorem dMO_dun_157 : decode bMO_dun 157 = .ok (.aload_n 0, 1) := by decide +kernel
theorem dMO_dun_158 : decode bMO_dun 158 = .ok (.getfield 7, 3) := by decide +kernel
theorem dMO_dun_161 : decode bMO_dun 161 = .ok (.bipush 20, 2) := by decide +kernel
theorem dMO_dun_163 : decode bMO_dun 163 = .ok (.iload_n 1, 1) := by decide +kernel
theorem dMO_dun_164 : decode bMO_dun 164 = .ok (.iadd, 1) := by decide +kernel
theorem dMO_dun_165 : decode bMO_dun 165 = .ok (.laload, 1) := by decide +kernel
theorem dMO_dun_166 : decode bMO_dun 166 = .ok (.lconst 1, 1) := by decide +kernel
theorem dMO_dun_167 : decode bMO_dun 167 = .ok (.ladd, 1) := by decide +kernel
theorem dMO_dun_168 : decode bMO_dun 168 = .ok (.lastore, 1) := by decide +kernel
theorem dMO_dun_169 : decode bMO_dun 169 = .ok (.aload_n 0, 1) := by decide +kernel
theorem dMO_dun_170 : decode bMO_dun 170 = .ok (.getfield 7, 3) := by decide +kernel
theorem dMO_dun_173 : decode bMO_dun 173 = .ok (.bipush 30, 2) := by decide +kernel
theorem dMO_dun_175 : decode bMO_dun 175 = .ok (.iload_n 1, 1) := by decide +kernel
theorem dMO_dun_176 : decode bMO_dun 176 = .ok (.iadd, 1) := by decide +kernel
theorem dMO_dun_177 : decode bMO_dun 177 = .ok (.lload_n 2, 1) := by decide +kernel
theorem dMO_dun_178 : decode bMO_dun 178 = .ok (.lastore, 1) := by decide +kernel
theorem dMO_dun_179 : decode bMO_dun 179 = .ok (.aload_n 0, 1) := by decide +kernel
theorem dMO_dun_180 : decode bMO_dun 180 = .ok (.getfield 7, 3) := by decide +kernel
theorem dMO_dun_183 : decode bMO_dun 183 = .ok (.bipush 20, 2) := by decide +kernel
theorem dMO_dun_185 : decode bMO_dun 185 = .ok (.iload_n 1, 1) := by decide +kernel
theorem dMO_dun_186 : decode bMO_dun 186 = .ok (.iadd, 1) := by decide +kernel
theorem dMO_dun_187 : decode bMO_dun 187 = .ok (.laload, 1) := by decide +kernel
theorem dMO_dun_188 : decode bMO_dun 188 = .ok (.l2i, 1) := by decide +kernel
theorem dMO_dun_189 : decode bMO_dun 189 = .ok (.ireturn, 1) := by decide +kernel
theorem dMO_endBatch_0 : decode bMO_endBatch 0 = .ok (.aload_n 0, 1) := by decide +kernel
theorem dMO_endBatch_1 : decode bMO_endBatch 1 = .ok (.iconst 0, 1) := by decide +kernel
theorem dMO_endBatch_2 : decode bMO_endBatch 2 = .ok (.putfield 16, 3) := by decide +kernel
theorem dMO_endBatch_5 : decode bMO_endBatch 5 = .ok (.aload_n 0, 1) := by decide +kernel
theorem dMO_endBatch_6 : decode bMO_endBatch 6 = .ok (.getfield 111, 3) := by decide +kernel
theorem dMO_endBatch_9 : decode bMO_endBatch 9 = .ok (.ifCond .ne 5, 3) := by decide +kernel
theorem dMO_endBatch_12 : decode bMO_endBatch 12 = .ok (.iconst 0, 1) := by decide +kernel
theorem dMO_endBatch_13 : decode bMO_endBatch 13 = .ok (.ireturn, 1) := by decide +kernel
theorem dMO_endBatch_14 : decode bMO_endBatch 14 = .ok (.aload_n 0, 1) := by decide +kernel
theorem dMO_endBatch_15 : decode bMO_endBatch 15 = .ok (.iconst 0, 1) := by decide +kernel
theorem dMO_endBatch_16 : decode bMO_endBatch 16 = .ok (.putfield 111, 3) := by decide +kernel
theorem dMO_endBatch_19 : decode bMO_endBatch 19 = .ok (.iconst 0, 1) := by decide +kernel
theorem dMO_endBatch_20 : decode bMO_endBatch 20 = .ok (.istore_n 2, 1) := by decide +kernel
theorem dMO_endBatch_21 : decode bMO_endBatch 21 = .ok (.iload_n 2, 1) := by decide +kernel
theorem dMO_endBatch_22 : decode bMO_endBatch 22 = .ok (.sipush 1220, 3) := by decide +kernel
theorem dMO_endBatch_25 : decode bMO_endBatch 25 = .ok (.if_icmp .ge 25, 3) := by decide +kernel
theorem dMO_endBatch_28 : decode bMO_endBatch 28 = .ok (.iload_n 1, 1) := by decide +kernel
theorem dMO_endBatch_29 : decode bMO_endBatch 29 = .ok (.ifCond .ne 21, 3) := by decide +kernel
theorem dMO_endBatch_32 : decode bMO_endBatch 32 = .ok (.aload_n 0, 1) := by decide +kernel
theorem dMO_endBatch_33 : decode bMO_endBatch 33 = .ok (.getfield 7, 3) := by decide +kernel

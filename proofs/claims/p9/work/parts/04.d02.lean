theorem dHL_payment_53 : decode bHL_payment 53 = .ok (.invokevirtual 101, 3) := by decide +kernel
theorem dHL_payment_56 : decode bHL_payment 56 = .ok (.ifCond .eq 5, 3) := by decide +kernel
theorem dHL_payment_59 : decode bHL_payment 59 = .ok (.iconst (-1), 1) := by decide +kernel
theorem dHL_payment_60 : decode bHL_payment 60 = .ok (.ireturn, 1) := by decide +kernel
theorem dHL_payment_61 : decode bHL_payment 61 = .ok (.aload_n 0, 1) := by decide +kernel
theorem dHL_payment_62 : decode bHL_payment 62 = .ok (.getfield 10, 3) := by decide +kernel
theorem dHL_payment_65 : decode bHL_payment 65 = .ok (.getfield 27, 3) := by decide +kernel
theorem dHL_payment_68 : decode bHL_payment 68 = .ok (.iload_n 1, 1) := by decide +kernel
theorem dHL_payment_69 : decode bHL_payment 69 = .ok (.invokevirtual 105, 3) := by decide +kernel
theorem dHL_payment_72 : decode bHL_payment 72 = .ok (.ifCond .ne 13, 3) := by decide +kernel
theorem dHL_payment_75 : decode bHL_payment 75 = .ok (.aload_n 0, 1) := by decide +kernel
theorem dHL_payment_76 : decode bHL_payment 76 = .ok (.getfield 10, 3) := by decide +kernel
theorem dHL_payment_79 : decode bHL_payment 79 = .ok (.lload_n 2, 1) := by decide +kernel
theorem dHL_payment_80 : decode bHL_payment 80 = .ok (.invokevirtual 108, 3) := by decide +kernel
theorem dHL_payment_83 : decode bHL_payment 83 = .ok (.iconst (-1), 1) := by decide +kernel
theorem dHL_payment_84 : decode bHL_payment 84 = .ok (.ireturn, 1) := by decide +kernel
theorem dHL_payment_85 : decode bHL_payment 85 = .ok (.aload_n 0, 1) := by decide +kernel
theorem dHL_payment_86 : decode bHL_payment 86 = .ok (.getfield 10, 3) := by decide +kernel
theorem dHL_payment_89 : decode bHL_payment 89 = .ok (.getfield 41, 3) := by decide +kernel
theorem dHL_payment_92 : decode bHL_payment 92 = .ok (.lload 4, 2) := by decide +kernel
theorem dHL_payment_94 : decode bHL_payment 94 = .ok (.l2i, 1) := by decide +kernel
theorem dHL_payment_95 : decode bHL_payment 95 = .ok (.iconst 2, 1) := by decide +kernel
theorem dHL_payment_96 : decode bHL_payment 96 = .ok (.invokevirtual 45, 3) := by decide +kernel
theorem dHL_payment_99 : decode bHL_payment 99 = .ok (.istore 7, 2) := by decide +kernel
theorem dHL_payment_101 : decode bHL_payment 101 = .ok (.aload_n 0, 1) := by decide +kernel
theorem dHL_payment_102 : decode bHL_payment 102 = .ok (.getfield 10, 3) := by decide +kernel
theorem dHL_payment_105 : decode bHL_payment 105 = .ok (.getfield 41, 3) := by decide +kernel
theorem dHL_payment_108 : decode bHL_payment 108 = .ok (.iload 7, 2) := by decide +kernel
theorem dHL_payment_110 : decode bHL_payment 110 = .ok (.iload 6, 2) := by decide +kernel
theorem dHL_payment_112 : decode bHL_payment 112 = .ok (.lload_n 2, 1) := by decide +kernel
theorem dHL_payment_113 : decode bHL_payment 113 = .ok (.invokevirtual 61, 3) := by decide +kernel
theorem dHL_payment_116 : decode bHL_payment 116 = .ok (.pop, 1) := by decide +kernel
theorem dHL_payment_117 : decode bHL_payment 117 = .ok (.aload_n 0, 1) := by decide +kernel
theorem dHL_payment_118 : decode bHL_payment 118 = .ok (.getfield 10, 3) := by decide +kernel
theorem dHL_payment_121 : decode bHL_payment 121 = .ok (.getfield 41, 3) := by decide +kernel
theorem dHL_payment_124 : decode bHL_payment 124 = .ok (.iload 7, 2) := by decide +kernel
theorem dHL_payment_126 : decode bHL_payment 126 = .ok (.iload_n 1, 1) := by decide +kernel
theorem dHL_payment_127 : decode bHL_payment 127 = .ok (.lload_n 2, 1) := by decide +kernel
theorem dHL_payment_128 : decode bHL_payment 128 = .ok (.lneg, 1) := by decide +kernel
theorem dHL_payment_129 : decode bHL_payment 129 = .ok (.invokevirtual 61, 3) := by decide +kernel
theorem dHL_payment_132 : decode bHL_payment 132 = .ok (.pop, 1) := by decide +kernel
theorem dHL_payment_133 : decode bHL_payment 133 = .ok (.aload_n 0, 1) := by decide +kernel
theorem dHL_payment_134 : decode bHL_payment 134 = .ok (.getfield 10, 3) := by decide +kernel
theorem dHL_payment_137 : decode bHL_payment 137 = .ok (.getfield 41, 3) := by decide +kernel
theorem dHL_payment_140 : decode bHL_payment 140 = .ok (.iload 7, 2) := by decide +kernel
theorem dHL_payment_142 : decode bHL_payment 142 = .ok (.iload_n 1, 1) := by decide +kernel
theorem dHL_payment_143 : decode bHL_payment 143 = .ok (.lload_n 2, 1) := by decide +kernel
theorem dHL_payment_144 : decode bHL_payment 144 = .ok (.invokevirtual 112, 3) := by decide +kernel
theorem dHL_payment_147 : decode bHL_payment 147 = .ok (.iload 7, 2) := by decide +kernel
theorem dHL_payment_149 : decode bHL_payment 149 = .ok (.ireturn, 1) := by decide +kernel
theorem dHL_rate_0 : decode bHL_rate 0 = .ok (.lload_n 1, 1) := by decide +kernel
theorem dHL_rate_1 : decode bHL_rate 1 = .ok (.lconst 0, 1) := by decide +kernel
theorem dHL_rate_2 : decode bHL_rate 2 = .ok (.lcmp, 1) := by decide +kernel
theorem dHL_rate_3 : decode bHL_rate 3 = .ok (.ifCond .lt 25, 3) := by decide +kernel
theorem dHL_rate_6 : decode bHL_rate 6 = .ok (.lload_n 1, 1) := by decide +kernel
theorem dHL_rate_7 : decode bHL_rate 7 = .ok (.ldc2_w 220, 3) := by decide +kernel
theorem dHL_rate_10 : decode bHL_rate 10 = .ok (.lcmp, 1) := by decide +kernel
theorem dHL_rate_11 : decode bHL_rate 11 = .ok (.ifCond .gt 17, 3) := by decide +kernel
theorem dHL_rate_14 : decode bHL_rate 14 = .ok (.lload_n 3, 1) := by decide +kernel
theorem dHL_rate_15 : decode bHL_rate 15 = .ok (.lconst 1, 1) := by decide +kernel
theorem dHL_rate_16 : decode bHL_rate 16 = .ok (.lcmp, 1) := by decide +kernel
theorem dHL_rate_17 : decode bHL_rate 17 = .ok (.ifCond .lt 11, 3) := by decide +kernel
theorem dHL_rate_20 : decode bHL_rate 20 = .ok (.lload_n 3, 1) := by decide +kernel
theorem dHL_rate_21 : decode bHL_rate 21 = .ok (.ldc2_w 220, 3) := by decide +kernel
theorem dHL_rate_24 : decode bHL_rate 24 = .ok (.lcmp, 1) := by decide +kernel
theorem dHL_rate_25 : decode bHL_rate 25 = .ok (.ifCond .le 5, 3) := by decide +kernel
theorem dHL_rate_28 : decode bHL_rate 28 = .ok (.iconst 0, 1) := by decide +kernel
theorem dHL_rate_29 : decode bHL_rate 29 = .ok (.ireturn, 1) := by decide +kernel
theorem dHL_rate_30 : decode bHL_rate 30 = .ok (.aload_n 0, 1) := by decide +kernel
theorem dHL_rate_31 : decode bHL_rate 31 = .ok (.getfield 10, 3) := by decide +kernel
theorem dHL_rate_34 : decode bHL_rate 34 = .ok (.lload_n 1, 1) := by decide +kernel
theorem dHL_rate_35 : decode bHL_rate 35 = .ok (.putfield 203, 3) := by decide +kernel
theorem dHL_rate_38 : decode bHL_rate 38 = .ok (.aload_n 0, 1) := by decide +kernel
theorem dHL_rate_39 : decode bHL_rate 39 = .ok (.getfield 10, 3) := by decide +kernel
theorem dHL_rate_42 : decode bHL_rate 42 = .ok (.lload_n 3, 1) := by decide +kernel
theorem dHL_rate_43 : decode bHL_rate 43 = .ok (.putfield 209, 3) := by decide +kernel
theorem dHL_rate_46 : decode bHL_rate 46 = .ok (.iconst 1, 1) := by decide +kernel
theorem dHL_rate_47 : decode bHL_rate 47 = .ok (.ireturn, 1) := by decide +kernel
theorem dHL_reverse_0 : decode bHL_reverse 0 = .ok (.aload_n 0, 1) := by decide +kernel
theorem dHL_reverse_1 : decode bHL_reverse 1 = .ok (.getfield 10, 3) := by decide +kernel
theorem dHL_reverse_4 : decode bHL_reverse 4 = .ok (.getfield 41, 3) := by decide +kernel
theorem dHL_reverse_7 : decode bHL_reverse 7 = .ok (.astore 4, 2) := by decide +kernel
theorem dHL_reverse_9 : decode bHL_reverse 9 = .ok (.aload 4, 2) := by decide +kernel
theorem dHL_reverse_11 : decode bHL_reverse 11 = .ok (.iload_n 1, 1) := by decide +kernel
theorem dHL_reverse_12 : decode bHL_reverse 12 = .ok (.invokevirtual 191, 3) := by decide +kernel
theorem dHL_reverse_15 : decode bHL_reverse 15 = .ok (.ifCond .eq 18, 3) := by decide +kernel
theorem dHL_reverse_18 : decode bHL_reverse 18 = .ok (.lload_n 2, 1) := by decide +kernel
theorem dHL_reverse_19 : decode bHL_reverse 19 = .ok (.invokestatic 90, 3) := by decide +kernel
theorem dHL_reverse_22 : decode bHL_reverse 22 = .ok (.ifCond .eq 11, 3) := by decide +kernel
theorem dHL_reverse_25 : decode bHL_reverse 25 = .ok (.aload 4, 2) := by decide +kernel
theorem dHL_reverse_27 : decode bHL_reverse 27 = .ok (.invokevirtual 101, 3) := by decide +kernel
theorem dHL_reverse_30 : decode bHL_reverse 30 = .ok (.ifCond .eq 5, 3) := by decide +kernel
theorem dHL_reverse_33 : decode bHL_reverse 33 = .ok (.iconst (-1), 1) := by decide +kernel
theorem dHL_reverse_34 : decode bHL_reverse 34 = .ok (.ireturn, 1) := by decide +kernel
theorem dHL_reverse_35 : decode bHL_reverse 35 = .ok (.aload 4, 2) := by decide +kernel
theorem dHL_reverse_37 : decode bHL_reverse 37 = .ok (.lload_n 2, 1) := by decide +kernel
theorem dHL_reverse_38 : decode bHL_reverse 38 = .ok (.l2i, 1) := by decide +kernel
theorem dHL_reverse_39 : decode bHL_reverse 39 = .ok (.iconst 3, 1) := by decide +kernel
theorem dHL_reverse_40 : decode bHL_reverse 40 = .ok (.invokevirtual 45, 3) := by decide +kernel
theorem dHL_reverse_43 : decode bHL_reverse 43 = .ok (.istore 5, 2) := by decide +kernel
theorem dHL_reverse_45 : decode bHL_reverse 45 = .ok (.aload 4, 2) := by decide +kernel
theorem dHL_reverse_47 : decode bHL_reverse 47 = .ok (.iload_n 1, 1) := by decide +kernel
theorem dHL_reverse_48 : decode bHL_reverse 48 = .ok (.iload 5, 2) := by decide +kernel
theorem dHL_reverse_50 : decode bHL_reverse 50 = .ok (.invokevirtual 194, 3) := by decide +kernel
theorem dHL_reverse_53 : decode bHL_reverse 53 = .ok (.aload 4, 2) := by decide +kernel
theorem dHL_reverse_55 : decode bHL_reverse 55 = .ok (.iload_n 1, 1) := by decide +kernel
theorem dHL_reverse_56 : decode bHL_reverse 56 = .ok (.invokevirtual 197, 3) := by decide +kernel
theorem dHL_reverse_59 : decode bHL_reverse 59 = .ok (.aload 4, 2) := by decide +kernel
theorem dHL_reverse_61 : decode bHL_reverse 61 = .ok (.getfield 80, 3) := by decide +kernel
theorem dHL_reverse_64 : decode bHL_reverse 64 = .ok (.iload_n 1, 1) := by decide +kernel
theorem dHL_reverse_65 : decode bHL_reverse 65 = .ok (.iconst 4, 1) := by decide +kernel
theorem dHL_reverse_66 : decode bHL_reverse 66 = .ok (.iastore, 1) := by decide +kernel
theorem dHL_reverse_67 : decode bHL_reverse 67 = .ok (.iload 5, 2) := by decide +kernel
theorem dHL_reverse_69 : decode bHL_reverse 69 = .ok (.ireturn, 1) := by decide +kernel
theorem dHL_row_0 : decode bHL_row 0 = .ok (.aload_n 0, 1) := by decide +kernel
theorem dHL_row_1 : decode bHL_row 1 = .ok (.getfield 10, 3) := by decide +kernel
theorem dHL_row_4 : decode bHL_row 4 = .ok (.getfield 41, 3) := by decide +kernel
theorem dHL_row_7 : decode bHL_row 7 = .ok (.iload_n 1, 1) := by decide +kernel
theorem dHL_row_8 : decode bHL_row 8 = .ok (.invokevirtual 50, 3) := by decide +kernel
theorem dHL_row_11 : decode bHL_row 11 = .ok (.ifCond .eq 17, 3) := by decide +kernel
theorem dHL_row_14 : decode bHL_row 14 = .ok (.aload_n 0, 1) := by decide +kernel
theorem dHL_row_15 : decode bHL_row 15 = .ok (.getfield 10, 3) := by decide +kernel
theorem dHL_row_18 : decode bHL_row 18 = .ok (.getfield 27, 3) := by decide +kernel
theorem dHL_row_21 : decode bHL_row 21 = .ok (.iload_n 2, 1) := by decide +kernel
theorem dHL_row_22 : decode bHL_row 22 = .ok (.invokevirtual 54, 3) := by decide +kernel
theorem dHL_row_25 : decode bHL_row 25 = .ok (.ifCond .ne 5, 3) := by decide +kernel
theorem dHL_row_28 : decode bHL_row 28 = .ok (.iconst 0, 1) := by decide +kernel
theorem dHL_row_29 : decode bHL_row 29 = .ok (.ireturn, 1) := by decide +kernel
theorem dHL_row_30 : decode bHL_row 30 = .ok (.lload_n 3, 1) := by decide +kernel
theorem dHL_row_31 : decode bHL_row 31 = .ok (.lconst 0, 1) := by decide +kernel
theorem dHL_row_32 : decode bHL_row 32 = .ok (.lcmp, 1) := by decide +kernel
theorem dHL_row_33 : decode bHL_row 33 = .ok (.ifCond .eq 19, 3) := by decide +kernel
theorem dHL_row_36 : decode bHL_row 36 = .ok (.lload_n 3, 1) := by decide +kernel
theorem dHL_row_37 : decode bHL_row 37 = .ok (.ldc2_w 57, 3) := by decide +kernel
theorem dHL_row_40 : decode bHL_row 40 = .ok (.lcmp, 1) := by decide +kernel
theorem dHL_row_41 : decode bHL_row 41 = .ok (.ifCond .lt 11, 3) := by decide +kernel
theorem dHL_row_44 : decode bHL_row 44 = .ok (.lload_n 3, 1) := by decide +kernel
theorem dHL_row_45 : decode bHL_row 45 = .ok (.ldc2_w 59, 3) := by decide +kernel
theorem dHL_row_48 : decode bHL_row 48 = .ok (.lcmp, 1) := by decide +kernel
theorem dHL_row_49 : decode bHL_row 49 = .ok (.ifCond .le 5, 3) := by decide +kernel
theorem dHL_row_52 : decode bHL_row 52 = .ok (.iconst 0, 1) := by decide +kernel
theorem dHL_row_53 : decode bHL_row 53 = .ok (.ireturn, 1) := by decide +kernel
theorem dHL_row_54 : decode bHL_row 54 = .ok (.aload_n 0, 1) := by decide +kernel
theorem dHL_row_55 : decode bHL_row 55 = .ok (.getfield 10, 3) := by decide +kernel
theorem dHL_row_58 : decode bHL_row 58 = .ok (.getfield 41, 3) := by decide +kernel
theorem dHL_row_61 : decode bHL_row 61 = .ok (.iload_n 1, 1) := by decide +kernel
theorem dHL_row_62 : decode bHL_row 62 = .ok (.iload_n 2, 1) := by decide +kernel
theorem dHL_row_63 : decode bHL_row 63 = .ok (.lload_n 3, 1) := by decide +kernel
theorem dHL_row_64 : decode bHL_row 64 = .ok (.invokevirtual 61, 3) := by decide +kernel
theorem dHL_row_67 : decode bHL_row 67 = .ok (.ireturn, 1) := by decide +kernel
theorem dHL_share_0 : decode bHL_share 0 = .ok (.aload_n 0, 1) := by decide +kernel
theorem dHL_share_1 : decode bHL_share 1 = .ok (.getfield 10, 3) := by decide +kernel
theorem dHL_share_4 : decode bHL_share 4 = .ok (.getfield 27, 3) := by decide +kernel
theorem dHL_share_7 : decode bHL_share 7 = .ok (.iload_n 1, 1) := by decide +kernel
theorem dHL_share_8 : decode bHL_share 8 = .ok (.invokevirtual 105, 3) := by decide +kernel
theorem dHL_share_11 : decode bHL_share 11 = .ok (.ifCond .eq 19, 3) := by decide +kernel
theorem dHL_share_14 : decode bHL_share 14 = .ok (.iload_n 2, 1) := by decide +kernel
theorem dHL_share_15 : decode bHL_share 15 = .ok (.invokestatic 172, 3) := by decide +kernel
theorem dHL_share_18 : decode bHL_share 18 = .ok (.ifCond .eq 12, 3) := by decide +kernel
theorem dHL_share_21 : decode bHL_share 21 = .ok (.iload_n 3, 1) := by decide +kernel
theorem dHL_share_22 : decode bHL_share 22 = .ok (.ifCond .lt 8, 3) := by decide +kernel
theorem dHL_share_25 : decode bHL_share 25 = .ok (.iload_n 3, 1) := by decide +kernel
theorem dHL_share_26 : decode bHL_share 26 = .ok (.iconst 1, 1) := by decide +kernel
theorem dHL_share_27 : decode bHL_share 27 = .ok (.if_icmp .le 7, 3) := by decide +kernel
theorem dHL_share_30 : decode bHL_share 30 = .ok (.ldc2_w 116, 3) := by decide +kernel
theorem dHL_share_33 : decode bHL_share 33 = .ok (.lreturn, 1) := by decide +kernel
theorem dHL_share_34 : decode bHL_share 34 = .ok (.aload_n 0, 1) := by decide +kernel
theorem dHL_share_35 : decode bHL_share 35 = .ok (.getfield 10, 3) := by decide +kernel
theorem dHL_share_38 : decode bHL_share 38 = .ok (.getfield 27, 3) := by decide +kernel
theorem dHL_share_41 : decode bHL_share 41 = .ok (.iload_n 1, 1) := by decide +kernel
theorem dHL_share_42 : decode bHL_share 42 = .ok (.iload_n 2, 1) := by decide +kernel
theorem dHL_share_43 : decode bHL_share 43 = .ok (.invokevirtual 175, 3) := by decide +kernel
theorem dHL_share_46 : decode bHL_share 46 = .ok (.i2l, 1) := by decide +kernel
theorem dHL_share_47 : decode bHL_share 47 = .ok (.ldc2_w 178, 3) := by decide +kernel
theorem dHL_share_50 : decode bHL_share 50 = .ok (.iload_n 3, 1) := by decide +kernel
theorem dHL_share_51 : decode bHL_share 51 = .ok (.invokestatic 180, 3) := by decide +kernel
theorem dHL_share_54 : decode bHL_share 54 = .ok (.lreturn, 1) := by decide +kernel
theorem dHL_statement_0 : decode bHL_statement 0 = .ok (.aload_n 0, 1) := by decide +kernel
theorem dHL_statement_1 : decode bHL_statement 1 = .ok (.getfield 10, 3) := by decide +kernel
theorem dHL_statement_4 : decode bHL_statement 4 = .ok (.getfield 27, 3) := by decide +kernel
theorem dHL_statement_7 : decode bHL_statement 7 = .ok (.iload_n 1, 1) := by decide +kernel
theorem dHL_statement_8 : decode bHL_statement 8 = .ok (.invokevirtual 54, 3) := by decide +kernel
theorem dHL_statement_11 : decode bHL_statement 11 = .ok (.ifCond .eq 10, 3) := by decide +kernel
theorem dHL_statement_14 : decode bHL_statement 14 = .ok (.iload_n 2, 1) := by decide +kernel
theorem dHL_statement_15 : decode bHL_statement 15 = .ok (.invokestatic 172, 3) := by decide +kernel
theorem dHL_statement_18 : decode bHL_statement 18 = .ok (.ifCond .ne 5, 3) := by decide +kernel
theorem dHL_statement_21 : decode bHL_statement 21 = .ok (.iconst (-1), 1) := by decide +kernel
theorem dHL_statement_22 : decode bHL_statement 22 = .ok (.ireturn, 1) := by decide +kernel
theorem dHL_statement_23 : decode bHL_statement 23 = .ok (.aload_n 0, 1) := by decide +kernel
theorem dHL_statement_24 : decode bHL_statement 24 = .ok (.getfield 10, 3) := by decide +kernel
theorem dHL_statement_27 : decode bHL_statement 27 = .ok (.getfield 41, 3) := by decide +kernel
theorem dHL_statement_30 : decode bHL_statement 30 = .ok (.iload_n 1, 1) := by decide +kernel
theorem dHL_statement_31 : decode bHL_statement 31 = .ok (.iload_n 2, 1) := by decide +kernel
theorem dHL_statement_32 : decode bHL_statement 32 = .ok (.iload_n 3, 1) := by decide +kernel
theorem dHL_statement_33 : decode bHL_statement 33 = .ok (.invokevirtual 222, 3) := by decide +kernel
theorem dHL_statement_36 : decode bHL_statement 36 = .ok (.ireturn, 1) := by decide +kernel
theorem dHL_tax_0 : decode bHL_tax 0 = .ok (.iload_n 1, 1) := by decide +kernel
theorem dHL_tax_1 : decode bHL_tax 1 = .ok (.invokestatic 172, 3) := by decide +kernel
theorem dHL_tax_4 : decode bHL_tax 4 = .ok (.ifCond .ne 5, 3) := by decide +kernel
theorem dHL_tax_7 : decode bHL_tax 7 = .ok (.lconst 0, 1) := by decide +kernel
theorem dHL_tax_8 : decode bHL_tax 8 = .ok (.lreturn, 1) := by decide +kernel
theorem dHL_tax_9 : decode bHL_tax 9 = .ok (.aload_n 0, 1) := by decide +kernel
theorem dHL_tax_10 : decode bHL_tax 10 = .ok (.getfield 10, 3) := by decide +kernel
theorem dHL_tax_13 : decode bHL_tax 13 = .ok (.iload_n 1, 1) := by decide +kernel
theorem dHL_tax_14 : decode bHL_tax 14 = .ok (.invokevirtual 226, 3) := by decide +kernel
theorem dHL_tax_17 : decode bHL_tax 17 = .ok (.lneg, 1) := by decide +kernel
theorem dHL_tax_18 : decode bHL_tax 18 = .ok (.lstore_n 2, 1) := by decide +kernel
theorem dHL_tax_19 : decode bHL_tax 19 = .ok (.lload_n 2, 1) := by decide +kernel
theorem dHL_tax_20 : decode bHL_tax 20 = .ok (.lconst 0, 1) := by decide +kernel
theorem dHL_tax_21 : decode bHL_tax 21 = .ok (.lcmp, 1) := by decide +kernel
theorem dHL_tax_22 : decode bHL_tax 22 = .ok (.ifCond .gt 7, 3) := by decide +kernel
theorem dHL_tax_25 : decode bHL_tax 25 = .ok (.lconst 0, 1) := by decide +kernel
theorem dHL_tax_26 : decode bHL_tax 26 = .ok (.goto 12, 3) := by decide +kernel
theorem dHL_tax_29 : decode bHL_tax 29 = .ok (.lload_n 2, 1) := by decide +kernel
theorem dHL_tax_30 : decode bHL_tax 30 = .ok (.ldc2_w 229, 3) := by decide +kernel
theorem dHL_tax_33 : decode bHL_tax 33 = .ok (.lmul, 1) := by decide +kernel
theorem dHL_tax_34 : decode bHL_tax 34 = .ok (.ldc2_w 220, 3) := by decide +kernel
theorem dHL_tax_37 : decode bHL_tax 37 = .ok (.ldiv, 1) := by decide +kernel
theorem dHL_tax_38 : decode bHL_tax 38 = .ok (.lreturn, 1) := by decide +kernel
theorem dJO_init_0 : decode bJO_init 0 = .ok (.aload_n 0, 1) := by decide +kernel
theorem dJO_init_1 : decode bJO_init 1 = .ok (.invokespecial 3, 3) := by decide +kernel
theorem dJO_init_4 : decode bJO_init 4 = .ok (.aload_n 0, 1) := by decide +kernel
theorem dJO_init_5 : decode bJO_init 5 = .ok (.iconst 0, 1) := by decide +kernel
theorem dJO_init_6 : decode bJO_init 6 = .ok (.putfield 9, 3) := by decide +kernel
theorem dJO_init_9 : decode bJO_init 9 = .ok (.aload_n 0, 1) := by decide +kernel
theorem dJO_init_10 : decode bJO_init 10 = .ok (.bipush 40, 2) := by decide +kernel
theorem dJO_init_12 : decode bJO_init 12 = .ok (.newarray .int, 2) := by decide +kernel
theorem dJO_init_14 : decode bJO_init 14 = .ok (.putfield 15, 3) := by decide +kernel
theorem dJO_init_17 : decode bJO_init 17 = .ok (.aload_n 0, 1) := by decide +kernel
theorem dJO_init_18 : decode bJO_init 18 = .ok (.bipush 40, 2) := by decide +kernel
theorem dJO_init_20 : decode bJO_init 20 = .ok (.newarray .int, 2) := by decide +kernel
theorem dJO_init_22 : decode bJO_init 22 = .ok (.putfield 19, 3) := by decide +kernel
theorem dJO_init_25 : decode bJO_init 25 = .ok (.aload_n 0, 1) := by decide +kernel
theorem dJO_init_26 : decode bJO_init 26 = .ok (.bipush 40, 2) := by decide +kernel
theorem dJO_init_28 : decode bJO_init 28 = .ok (.newarray .int, 2) := by decide +kernel
theorem dJO_init_30 : decode bJO_init 30 = .ok (.putfield 22, 3) := by decide +kernel
theorem dJO_init_33 : decode bJO_init 33 = .ok (.aload_n 0, 1) := by decide +kernel
theorem dJO_init_34 : decode bJO_init 34 = .ok (.bipush 40, 2) := by decide +kernel
theorem dJO_init_36 : decode bJO_init 36 = .ok (.newarray .int, 2) := by decide +kernel
theorem dJO_init_38 : decode bJO_init 38 = .ok (.putfield 25, 3) := by decide +kernel
theorem dJO_init_41 : decode bJO_init 41 = .ok (.aload_n 0, 1) := by decide +kernel
theorem dJO_init_42 : decode bJO_init 42 = .ok (.sipush 240, 3) := by decide +kernel
theorem dJO_init_45 : decode bJO_init 45 = .ok (.newarray .int, 2) := by decide +kernel
theorem dJO_init_47 : decode bJO_init 47 = .ok (.putfield 28, 3) := by decide +kernel
theorem dJO_init_50 : decode bJO_init 50 = .ok (.aload_n 0, 1) := by decide +kernel
theorem dJO_init_51 : decode bJO_init 51 = .ok (.sipush 240, 3) := by decide +kernel
theorem dJO_init_54 : decode bJO_init 54 = .ok (.newarray .long, 2) := by decide +kernel
theorem dJO_init_56 : decode bJO_init 56 = .ok (.putfield 31, 3) := by decide +kernel
theorem dJO_init_59 : decode bJO_init 59 = .ok (.aload_n 0, 1) := by decide +kernel
theorem dJO_init_60 : decode bJO_init 60 = .ok (.sipush 240, 3) := by decide +kernel
theorem dJO_init_63 : decode bJO_init 63 = .ok (.newarray .long, 2) := by decide +kernel
theorem dJO_init_65 : decode bJO_init 65 = .ok (.putfield 35, 3) := by decide +kernel
theorem dJO_init_68 : decode bJO_init 68 = .ok (.aload_n 0, 1) := by decide +kernel
theorem dJO_init_69 : decode bJO_init 69 = .ok (.iconst 0, 1) := by decide +kernel
theorem dJO_init_70 : decode bJO_init 70 = .ok (.putfield 38, 3) := by decide +kernel
theorem dJO_init_73 : decode bJO_init 73 = .ok (.aload_n 0, 1) := by decide +kernel
theorem dJO_init_74 : decode bJO_init 74 = .ok (.sipush 280, 3) := by decide +kernel
theorem dJO_init_77 : decode bJO_init 77 = .ok (.newarray .int, 2) := by decide +kernel
theorem dJO_init_79 : decode bJO_init 79 = .ok (.putfield 41, 3) := by decide +kernel
theorem dJO_init_82 : decode bJO_init 82 = .ok (.aload_n 0, 1) := by decide +kernel
theorem dJO_init_83 : decode bJO_init 83 = .ok (.sipush 280, 3) := by decide +kernel
theorem dJO_init_86 : decode bJO_init 86 = .ok (.newarray .int, 2) := by decide +kernel
theorem dJO_init_88 : decode bJO_init 88 = .ok (.putfield 44, 3) := by decide +kernel
theorem dJO_init_91 : decode bJO_init 91 = .ok (.return_, 1) := by decide +kernel
theorem dJO_add_0 : decode bJO_add 0 = .ok (.aload_n 0, 1) := by decide +kernel
theorem dJO_add_1 : decode bJO_add 1 = .ok (.invokevirtual 55, 3) := by decide +kernel
theorem dJO_add_4 : decode bJO_add 4 = .ok (.ifCond .eq 5, 3) := by decide +kernel
theorem dJO_add_7 : decode bJO_add 7 = .ok (.iconst (-1), 1) := by decide +kernel
theorem dJO_add_8 : decode bJO_add 8 = .ok (.ireturn, 1) := by decide +kernel
theorem dJO_add_9 : decode bJO_add 9 = .ok (.aload_n 0, 1) := by decide +kernel
theorem dJO_add_10 : decode bJO_add 10 = .ok (.getfield 9, 3) := by decide +kernel
theorem dJO_add_13 : decode bJO_add 13 = .ok (.istore_n 3, 1) := by decide +kernel
theorem dJO_add_14 : decode bJO_add 14 = .ok (.aload_n 0, 1) := by decide +kernel
theorem dJO_add_15 : decode bJO_add 15 = .ok (.getfield 15, 3) := by decide +kernel
theorem dJO_add_18 : decode bJO_add 18 = .ok (.iload_n 3, 1) := by decide +kernel
theorem dJO_add_19 : decode bJO_add 19 = .ok (.iload_n 1, 1) := by decide +kernel
theorem dJO_add_20 : decode bJO_add 20 = .ok (.iastore, 1) := by decide +kernel
theorem dJO_add_21 : decode bJO_add 21 = .ok (.aload_n 0, 1) := by decide +kernel
theorem dJO_add_22 : decode bJO_add 22 = .ok (.getfield 19, 3) := by decide +kernel
theorem dJO_add_25 : decode bJO_add 25 = .ok (.iload_n 3, 1) := by decide +kernel
theorem dJO_add_26 : decode bJO_add 26 = .ok (.iload_n 2, 1) := by decide +kernel
theorem dJO_add_27 : decode bJO_add 27 = .ok (.iastore, 1) := by decide +kernel
theorem dJO_add_28 : decode bJO_add 28 = .ok (.aload_n 0, 1) := by decide +kernel
theorem dJO_add_29 : decode bJO_add 29 = .ok (.getfield 22, 3) := by decide +kernel
theorem dJO_add_32 : decode bJO_add 32 = .ok (.iload_n 3, 1) := by decide +kernel
theorem dJO_add_33 : decode bJO_add 33 = .ok (.iconst 0, 1) := by decide +kernel
theorem dJO_add_34 : decode bJO_add 34 = .ok (.iastore, 1) := by decide +kernel
theorem dJO_add_35 : decode bJO_add 35 = .ok (.iload_n 3, 1) := by decide +kernel
theorem dJO_add_36 : decode bJO_add 36 = .ok (.istore 4, 2) := by decide +kernel
theorem dJO_add_38 : decode bJO_add 38 = .ok (.iload 4, 2) := by decide +kernel
theorem dJO_add_40 : decode bJO_add 40 = .ok (.ifCond .le 43, 3) := by decide +kernel
theorem dJO_add_43 : decode bJO_add 43 = .ok (.aload_n 0, 1) := by decide +kernel
theorem dJO_add_44 : decode bJO_add 44 = .ok (.getfield 15, 3) := by decide +kernel
theorem dJO_add_47 : decode bJO_add 47 = .ok (.aload_n 0, 1) := by decide +kernel
theorem dJO_add_48 : decode bJO_add 48 = .ok (.getfield 25, 3) := by decide +kernel
theorem dJO_add_51 : decode bJO_add 51 = .ok (.iload 4, 2) := by decide +kernel
theorem dJO_add_53 : decode bJO_add 53 = .ok (.iconst 1, 1) := by decide +kernel
theorem dJO_add_54 : decode bJO_add 54 = .ok (.isub, 1) := by decide +kernel
theorem dJO_add_55 : decode bJO_add 55 = .ok (.iaload, 1) := by decide +kernel
theorem dJO_add_56 : decode bJO_add 56 = .ok (.iaload, 1) := by decide +kernel
theorem dJO_add_57 : decode bJO_add 57 = .ok (.iload_n 1, 1) := by decide +kernel
theorem dJO_add_58 : decode bJO_add 58 = .ok (.if_icmp .le 25, 3) := by decide +kernel
theorem dJO_add_61 : decode bJO_add 61 = .ok (.aload_n 0, 1) := by decide +kernel
theorem dJO_add_62 : decode bJO_add 62 = .ok (.getfield 25, 3) := by decide +kernel
theorem dJO_add_65 : decode bJO_add 65 = .ok (.iload 4, 2) := by decide +kernel
theorem dJO_add_67 : decode bJO_add 67 = .ok (.aload_n 0, 1) := by decide +kernel
theorem dJO_add_68 : decode bJO_add 68 = .ok (.getfield 25, 3) := by decide +kernel
theorem dJO_add_71 : decode bJO_add 71 = .ok (.iload 4, 2) := by decide +kernel
theorem dJO_add_73 : decode bJO_add 73 = .ok (.iconst 1, 1) := by decide +kernel
theorem dJO_add_74 : decode bJO_add 74 = .ok (.isub, 1) := by decide +kernel
theorem dJO_add_75 : decode bJO_add 75 = .ok (.iaload, 1) := by decide +kernel
theorem dJO_add_76 : decode bJO_add 76 = .ok (.iastore, 1) := by decide +kernel
theorem dJO_add_77 : decode bJO_add 77 = .ok (.iinc 4 (-1), 3) := by decide +kernel
theorem dJO_add_80 : decode bJO_add 80 = .ok (.goto (-42), 3) := by decide +kernel
theorem dJO_add_83 : decode bJO_add 83 = .ok (.aload_n 0, 1) := by decide +kernel
theorem dJO_add_84 : decode bJO_add 84 = .ok (.getfield 25, 3) := by decide +kernel
theorem dJO_add_87 : decode bJO_add 87 = .ok (.iload 4, 2) := by decide +kernel
theorem dJO_add_89 : decode bJO_add 89 = .ok (.iload_n 3, 1) := by decide +kernel
theorem dJO_add_90 : decode bJO_add 90 = .ok (.iastore, 1) := by decide +kernel
theorem dJO_add_91 : decode bJO_add 91 = .ok (.aload_n 0, 1) := by decide +kernel
theorem dJO_add_92 : decode bJO_add 92 = .ok (.dup, 1) := by decide +kernel
theorem dJO_add_93 : decode bJO_add 93 = .ok (.getfield 9, 3) := by decide +kernel
theorem dJO_add_96 : decode bJO_add 96 = .ok (.iconst 1, 1) := by decide +kernel
theorem dJO_add_97 : decode bJO_add 97 = .ok (.iadd, 1) := by decide +kernel
theorem dJO_add_98 : decode bJO_add 98 = .ok (.putfield 9, 3) := by decide +kernel
theorem dJO_add_101 : decode bJO_add 101 = .ok (.iload_n 3, 1) := by decide +kernel
theorem dJO_add_102 : decode bJO_add 102 = .ok (.ireturn, 1) := by decide +kernel
theorem dJO_addRow_0 : decode bJO_addRow 0 = .ok (.iload_n 1, 1) := by decide +kernel
theorem dJO_addRow_1 : decode bJO_addRow 1 = .ok (.ifCond .lt 22, 3) := by decide +kernel
theorem dJO_addRow_4 : decode bJO_addRow 4 = .ok (.iload_n 1, 1) := by decide +kernel
theorem dJO_addRow_5 : decode bJO_addRow 5 = .ok (.aload_n 0, 1) := by decide +kernel
theorem dJO_addRow_6 : decode bJO_addRow 6 = .ok (.getfield 9, 3) := by decide +kernel
theorem dJO_addRow_9 : decode bJO_addRow 9 = .ok (.if_icmp .ge 14, 3) := by decide +kernel
theorem dJO_addRow_12 : decode bJO_addRow 12 = .ok (.aload_n 0, 1) := by decide +kernel
theorem dJO_addRow_13 : decode bJO_addRow 13 = .ok (.getfield 22, 3) := by decide +kernel
theorem dJO_addRow_16 : decode bJO_addRow 16 = .ok (.iload_n 1, 1) := by decide +kernel
theorem dJO_addRow_17 : decode bJO_addRow 17 = .ok (.iaload, 1) := by decide +kernel
theorem dJO_addRow_18 : decode bJO_addRow 18 = .ok (.bipush 6, 2) := by decide +kernel
theorem dJO_addRow_20 : decode bJO_addRow 20 = .ok (.if_icmp .lt 5, 3) := by decide +kernel
theorem dJO_addRow_23 : decode bJO_addRow 23 = .ok (.iconst 0, 1) := by decide +kernel
theorem dJO_addRow_24 : decode bJO_addRow 24 = .ok (.ireturn, 1) := by decide +kernel
theorem dJO_addRow_25 : decode bJO_addRow 25 = .ok (.iload_n 1, 1) := by decide +kernel
theorem dJO_addRow_26 : decode bJO_addRow 26 = .ok (.bipush 6, 2) := by decide +kernel
theorem dJO_addRow_28 : decode bJO_addRow 28 = .ok (.imul, 1) := by decide +kernel
theorem dJO_addRow_29 : decode bJO_addRow 29 = .ok (.aload_n 0, 1) := by decide +kernel
theorem dJO_addRow_30 : decode bJO_addRow 30 = .ok (.getfield 22, 3) := by decide +kernel
theorem dJO_addRow_33 : decode bJO_addRow 33 = .ok (.iload_n 1, 1) := by decide +kernel
theorem dJO_addRow_34 : decode bJO_addRow 34 = .ok (.iaload, 1) := by decide +kernel
theorem dJO_addRow_35 : decode bJO_addRow 35 = .ok (.iadd, 1) := by decide +kernel
theorem dJO_addRow_36 : decode bJO_addRow 36 = .ok (.istore 5, 2) := by decide +kernel
theorem dJO_addRow_38 : decode bJO_addRow 38 = .ok (.aload_n 0, 1) := by decide +kernel
theorem dJO_addRow_39 : decode bJO_addRow 39 = .ok (.getfield 28, 3) := by decide +kernel
theorem dJO_addRow_42 : decode bJO_addRow 42 = .ok (.iload 5, 2) := by decide +kernel
theorem dJO_addRow_44 : decode bJO_addRow 44 = .ok (.iload_n 2, 1) := by decide +kernel
theorem dJO_addRow_45 : decode bJO_addRow 45 = .ok (.iastore, 1) := by decide +kernel
theorem dJO_addRow_46 : decode bJO_addRow 46 = .ok (.aload_n 0, 1) := by decide +kernel
theorem dJO_addRow_47 : decode bJO_addRow 47 = .ok (.getfield 31, 3) := by decide +kernel
theorem dJO_addRow_50 : decode bJO_addRow 50 = .ok (.iload 5, 2) := by decide +kernel
theorem dJO_addRow_52 : decode bJO_addRow 52 = .ok (.lload_n 3, 1) := by decide +kernel
theorem dJO_addRow_53 : decode bJO_addRow 53 = .ok (.lastore, 1) := by decide +kernel
theorem dJO_addRow_54 : decode bJO_addRow 54 = .ok (.aload_n 0, 1) := by decide +kernel
theorem dJO_addRow_55 : decode bJO_addRow 55 = .ok (.getfield 35, 3) := by decide +kernel
theorem dJO_addRow_58 : decode bJO_addRow 58 = .ok (.iload 5, 2) := by decide +kernel
theorem dJO_addRow_60 : decode bJO_addRow 60 = .ok (.ldc2_w 59, 3) := by decide +kernel
theorem dJO_addRow_63 : decode bJO_addRow 63 = .ok (.lastore, 1) := by decide +kernel
theorem dJO_addRow_64 : decode bJO_addRow 64 = .ok (.aload_n 0, 1) := by decide +kernel
theorem dJO_addRow_65 : decode bJO_addRow 65 = .ok (.getfield 22, 3) := by decide +kernel
theorem dJO_addRow_68 : decode bJO_addRow 68 = .ok (.iload_n 1, 1) := by decide +kernel
theorem dJO_addRow_69 : decode bJO_addRow 69 = .ok (.dup2, 1) := by decide +kernel
theorem dJO_addRow_70 : decode bJO_addRow 70 = .ok (.iaload, 1) := by decide +kernel
theorem dJO_addRow_71 : decode bJO_addRow 71 = .ok (.iconst 1, 1) := by decide +kernel
theorem dJO_addRow_72 : decode bJO_addRow 72 = .ok (.iadd, 1) := by decide +kernel
theorem dJO_addRow_73 : decode bJO_addRow 73 = .ok (.iastore, 1) := by decide +kernel
theorem dJO_addRow_74 : decode bJO_addRow 74 = .ok (.iconst 1, 1) := by decide +kernel
theorem dJO_addRow_75 : decode bJO_addRow 75 = .ok (.ireturn, 1) := by decide +kernel
theorem dJO_centDays_0 : decode bJO_centDays 0 = .ok (.lconst 0, 1) := by decide +kernel
theorem dJO_centDays_1 : decode bJO_centDays 1 = .ok (.lstore_n 3, 1) := by decide +kernel
theorem dJO_centDays_2 : decode bJO_centDays 2 = .ok (.aload_n 0, 1) := by decide +kernel
theorem dJO_centDays_3 : decode bJO_centDays 3 = .ok (.getfield 9, 3) := by decide +kernel
theorem dJO_centDays_6 : decode bJO_centDays 6 = .ok (.bipush 6, 2) := by decide +kernel
theorem dJO_centDays_8 : decode bJO_centDays 8 = .ok (.imul, 1) := by decide +kernel
theorem dJO_centDays_9 : decode bJO_centDays 9 = .ok (.istore 5, 2) := by decide +kernel
theorem dJO_centDays_11 : decode bJO_centDays 11 = .ok (.iconst 0, 1) := by decide +kernel
theorem dJO_centDays_12 : decode bJO_centDays 12 = .ok (.istore 6, 2) := by decide +kernel
theorem dJO_centDays_14 : decode bJO_centDays 14 = .ok (.iload 6, 2) := by decide +kernel
theorem dJO_centDays_16 : decode bJO_centDays 16 = .ok (.iload 5, 2) := by decide +kernel
theorem dJO_centDays_18 : decode bJO_centDays 18 = .ok (.if_icmp .ge 43, 3) := by decide +kernel
theorem dJO_centDays_21 : decode bJO_centDays 21 = .ok (.aload_n 0, 1) := by decide +kernel
theorem dJO_centDays_22 : decode bJO_centDays 22 = .ok (.iload 6, 2) := by decide +kernel
theorem dJO_centDays_24 : decode bJO_centDays 24 = .ok (.iload_n 1, 1) := by decide +kernel
theorem dJO_centDays_25 : decode bJO_centDays 25 = .ok (.invokevirtual 73, 3) := by decide +kernel
theorem dJO_centDays_28 : decode bJO_centDays 28 = .ok (.istore 7, 2) := by decide +kernel
theorem dJO_centDays_30 : decode bJO_centDays 30 = .ok (.iload 7, 2) := by decide +kernel
theorem dJO_centDays_32 : decode bJO_centDays 32 = .ok (.iconst (-1), 1) := by decide +kernel
theorem dJO_centDays_33 : decode bJO_centDays 33 = .ok (.if_icmp .eq 22, 3) := by decide +kernel
theorem dJO_centDays_36 : decode bJO_centDays 36 = .ok (.lload_n 3, 1) := by decide +kernel
theorem dJO_centDays_37 : decode bJO_centDays 37 = .ok (.aload_n 0, 1) := by decide +kernel
theorem dJO_centDays_38 : decode bJO_centDays 38 = .ok (.getfield 35, 3) := by decide +kernel
theorem dJO_centDays_41 : decode bJO_centDays 41 = .ok (.iload 7, 2) := by decide +kernel
theorem dJO_centDays_43 : decode bJO_centDays 43 = .ok (.laload, 1) := by decide +kernel
theorem dJO_centDays_44 : decode bJO_centDays 44 = .ok (.aload_n 0, 1) := by decide +kernel
theorem dJO_centDays_45 : decode bJO_centDays 45 = .ok (.iload 7, 2) := by decide +kernel
theorem dJO_centDays_47 : decode bJO_centDays 47 = .ok (.iload_n 2, 1) := by decide +kernel
theorem dJO_centDays_48 : decode bJO_centDays 48 = .ok (.invokevirtual 87, 3) := by decide +kernel
theorem dJO_centDays_51 : decode bJO_centDays 51 = .ok (.i2l, 1) := by decide +kernel
theorem dJO_centDays_52 : decode bJO_centDays 52 = .ok (.lmul, 1) := by decide +kernel
theorem dJO_centDays_53 : decode bJO_centDays 53 = .ok (.ladd, 1) := by decide +kernel
theorem dJO_centDays_54 : decode bJO_centDays 54 = .ok (.lstore_n 3, 1) := by decide +kernel
theorem dJO_centDays_55 : decode bJO_centDays 55 = .ok (.iinc 6 1, 3) := by decide +kernel
theorem dJO_centDays_58 : decode bJO_centDays 58 = .ok (.goto (-44), 3) := by decide +kernel
theorem dJO_centDays_61 : decode bJO_centDays 61 = .ok (.lload_n 3, 1) := by decide +kernel
theorem dJO_centDays_62 : decode bJO_centDays 62 = .ok (.lreturn, 1) := by decide +kernel
theorem dJO_clearItems_0 : decode bJO_clearItems 0 = .ok (.iload_n 1, 1) := by decide +kernel
theorem dJO_clearItems_1 : decode bJO_clearItems 1 = .ok (.bipush 6, 2) := by decide +kernel
theorem dJO_clearItems_3 : decode bJO_clearItems 3 = .ok (.imul, 1) := by decide +kernel
theorem dJO_clearItems_4 : decode bJO_clearItems 4 = .ok (.istore_n 2, 1) := by decide +kernel
theorem dJO_clearItems_5 : decode bJO_clearItems 5 = .ok (.iload_n 2, 1) := by decide +kernel
theorem dJO_clearItems_6 : decode bJO_clearItems 6 = .ok (.aload_n 0, 1) := by decide +kernel
theorem dJO_clearItems_7 : decode bJO_clearItems 7 = .ok (.getfield 22, 3) := by decide +kernel
theorem dJO_clearItems_10 : decode bJO_clearItems 10 = .ok (.iload_n 1, 1) := by decide +kernel
theorem dJO_clearItems_11 : decode bJO_clearItems 11 = .ok (.iaload, 1) := by decide +kernel
theorem dJO_clearItems_12 : decode bJO_clearItems 12 = .ok (.iadd, 1) := by decide +kernel
theorem dJO_clearItems_13 : decode bJO_clearItems 13 = .ok (.istore_n 3, 1) := by decide +kernel
theorem dJO_clearItems_14 : decode bJO_clearItems 14 = .ok (.iload_n 2, 1) := by decide +kernel
theorem dJO_clearItems_15 : decode bJO_clearItems 15 = .ok (.istore 4, 2) := by decide +kernel
theorem dJO_clearItems_17 : decode bJO_clearItems 17 = .ok (.iload 4, 2) := by decide +kernel
theorem dJO_clearItems_19 : decode bJO_clearItems 19 = .ok (.iload_n 3, 1) := by decide +kernel
theorem dJO_clearItems_20 : decode bJO_clearItems 20 = .ok (.if_icmp .ge 31, 3) := by decide +kernel
theorem dJO_clearItems_23 : decode bJO_clearItems 23 = .ok (.aload_n 0, 1) := by decide +kernel
theorem dJO_clearItems_24 : decode bJO_clearItems 24 = .ok (.getfield 35, 3) := by decide +kernel
theorem dJO_clearItems_27 : decode bJO_clearItems 27 = .ok (.iload 4, 2) := by decide +kernel
theorem dJO_clearItems_29 : decode bJO_clearItems 29 = .ok (.laload, 1) := by decide +kernel
theorem dJO_clearItems_30 : decode bJO_clearItems 30 = .ok (.ldc2_w 59, 3) := by decide +kernel
theorem dJO_clearItems_33 : decode bJO_clearItems 33 = .ok (.lcmp, 1) := by decide +kernel
theorem dJO_clearItems_34 : decode bJO_clearItems 34 = .ok (.ifCond .eq 11, 3) := by decide +kernel
theorem dJO_clearItems_37 : decode bJO_clearItems 37 = .ok (.aload_n 0, 1) := by decide +kernel
theorem dJO_clearItems_38 : decode bJO_clearItems 38 = .ok (.getfield 35, 3) := by decide +kernel
theorem dJO_clearItems_41 : decode bJO_clearItems 41 = .ok (.iload 4, 2) := by decide +kernel
theorem dJO_clearItems_43 : decode bJO_clearItems 43 = .ok (.lconst 0, 1) := by decide +kernel
theorem dJO_clearItems_44 : decode bJO_clearItems 44 = .ok (.lastore, 1) := by decide +kernel
theorem dJO_clearItems_45 : decode bJO_clearItems 45 = .ok (.iinc 4 1, 3) := by decide +kernel
theorem dJO_clearItems_48 : decode bJO_clearItems 48 = .ok (.goto (-31), 3) := by decide +kernel
theorem dJO_clearItems_51 : decode bJO_clearItems 51 = .ok (.return_, 1) := by decide +kernel
theorem dJO_copyFrom_0 : decode bJO_copyFrom 0 = .ok (.aload_n 0, 1) := by decide +kernel
theorem dJO_copyFrom_1 : decode bJO_copyFrom 1 = .ok (.aload_n 1, 1) := by decide +kernel
theorem dJO_copyFrom_2 : decode bJO_copyFrom 2 = .ok (.getfield 9, 3) := by decide +kernel
theorem dJO_copyFrom_5 : decode bJO_copyFrom 5 = .ok (.putfield 9, 3) := by decide +kernel
theorem dJO_copyFrom_8 : decode bJO_copyFrom 8 = .ok (.aload_n 1, 1) := by decide +kernel
theorem dJO_copyFrom_9 : decode bJO_copyFrom 9 = .ok (.getfield 15, 3) := by decide +kernel
theorem dJO_copyFrom_12 : decode bJO_copyFrom 12 = .ok (.aload_n 0, 1) := by decide +kernel
theorem dJO_copyFrom_13 : decode bJO_copyFrom 13 = .ok (.getfield 15, 3) := by decide +kernel
theorem dJO_copyFrom_16 : decode bJO_copyFrom 16 = .ok (.invokestatic 47, 3) := by decide +kernel
theorem dJO_copyFrom_19 : decode bJO_copyFrom 19 = .ok (.aload_n 1, 1) := by decide +kernel
theorem dJO_copyFrom_20 : decode bJO_copyFrom 20 = .ok (.getfield 19, 3) := by decide +kernel
theorem dJO_copyFrom_23 : decode bJO_copyFrom 23 = .ok (.aload_n 0, 1) := by decide +kernel
theorem dJO_copyFrom_24 : decode bJO_copyFrom 24 = .ok (.getfield 19, 3) := by decide +kernel
theorem dJO_copyFrom_27 : decode bJO_copyFrom 27 = .ok (.invokestatic 47, 3) := by decide +kernel
theorem dJO_copyFrom_30 : decode bJO_copyFrom 30 = .ok (.aload_n 1, 1) := by decide +kernel
theorem dJO_copyFrom_31 : decode bJO_copyFrom 31 = .ok (.getfield 22, 3) := by decide +kernel
theorem dJO_copyFrom_34 : decode bJO_copyFrom 34 = .ok (.aload_n 0, 1) := by decide +kernel
theorem dJO_copyFrom_35 : decode bJO_copyFrom 35 = .ok (.getfield 22, 3) := by decide +kernel
theorem dJO_copyFrom_38 : decode bJO_copyFrom 38 = .ok (.invokestatic 47, 3) := by decide +kernel
theorem dJO_copyFrom_41 : decode bJO_copyFrom 41 = .ok (.aload_n 1, 1) := by decide +kernel
theorem dJO_copyFrom_42 : decode bJO_copyFrom 42 = .ok (.getfield 25, 3) := by decide +kernel
theorem dJO_copyFrom_45 : decode bJO_copyFrom 45 = .ok (.aload_n 0, 1) := by decide +kernel
theorem dJO_copyFrom_46 : decode bJO_copyFrom 46 = .ok (.getfield 25, 3) := by decide +kernel
theorem dJO_copyFrom_49 : decode bJO_copyFrom 49 = .ok (.invokestatic 47, 3) := by decide +kernel
theorem dJO_copyFrom_52 : decode bJO_copyFrom 52 = .ok (.aload_n 1, 1) := by decide +kernel
theorem dJO_copyFrom_53 : decode bJO_copyFrom 53 = .ok (.getfield 28, 3) := by decide +kernel
theorem dJO_copyFrom_56 : decode bJO_copyFrom 56 = .ok (.aload_n 0, 1) := by decide +kernel
theorem dJO_copyFrom_57 : decode bJO_copyFrom 57 = .ok (.getfield 28, 3) := by decide +kernel
theorem dJO_copyFrom_60 : decode bJO_copyFrom 60 = .ok (.invokestatic 47, 3) := by decide +kernel
theorem dJO_copyFrom_63 : decode bJO_copyFrom 63 = .ok (.aload_n 1, 1) := by decide +kernel
theorem dJO_copyFrom_64 : decode bJO_copyFrom 64 = .ok (.getfield 31, 3) := by decide +kernel
theorem dJO_copyFrom_67 : decode bJO_copyFrom 67 = .ok (.aload_n 0, 1) := by decide +kernel
theorem dJO_copyFrom_68 : decode bJO_copyFrom 68 = .ok (.getfield 31, 3) := by decide +kernel
theorem dJO_copyFrom_71 : decode bJO_copyFrom 71 = .ok (.invokestatic 51, 3) := by decide +kernel
theorem dJO_copyFrom_74 : decode bJO_copyFrom 74 = .ok (.aload_n 1, 1) := by decide +kernel
theorem dJO_copyFrom_75 : decode bJO_copyFrom 75 = .ok (.getfield 35, 3) := by decide +kernel
theorem dJO_copyFrom_78 : decode bJO_copyFrom 78 = .ok (.aload_n 0, 1) := by decide +kernel
theorem dJO_copyFrom_79 : decode bJO_copyFrom 79 = .ok (.getfield 35, 3) := by decide +kernel
theorem dJO_copyFrom_82 : decode bJO_copyFrom 82 = .ok (.invokestatic 51, 3) := by decide +kernel
theorem dJO_copyFrom_85 : decode bJO_copyFrom 85 = .ok (.aload_n 0, 1) := by decide +kernel
theorem dJO_copyFrom_86 : decode bJO_copyFrom 86 = .ok (.aload_n 1, 1) := by decide +kernel
theorem dJO_copyFrom_87 : decode bJO_copyFrom 87 = .ok (.getfield 38, 3) := by decide +kernel
theorem dJO_copyFrom_90 : decode bJO_copyFrom 90 = .ok (.putfield 38, 3) := by decide +kernel
theorem dJO_copyFrom_93 : decode bJO_copyFrom 93 = .ok (.aload_n 1, 1) := by decide +kernel
theorem dJO_copyFrom_94 : decode bJO_copyFrom 94 = .ok (.getfield 41, 3) := by decide +kernel
theorem dJO_copyFrom_97 : decode bJO_copyFrom 97 = .ok (.aload_n 0, 1) := by decide +kernel
theorem dJO_copyFrom_98 : decode bJO_copyFrom 98 = .ok (.getfield 41, 3) := by decide +kernel
theorem dJO_copyFrom_101 : decode bJO_copyFrom 101 = .ok (.invokestatic 47, 3) := by decide +kernel
theorem dJO_copyFrom_104 : decode bJO_copyFrom 104 = .ok (.aload_n 1, 1) := by decide +kernel
theorem dJO_copyFrom_105 : decode bJO_copyFrom 105 = .ok (.getfield 44, 3) := by decide +kernel
theorem dJO_copyFrom_108 : decode bJO_copyFrom 108 = .ok (.aload_n 0, 1) := by decide +kernel
theorem dJO_copyFrom_109 : decode bJO_copyFrom 109 = .ok (.getfield 44, 3) := by decide +kernel
theorem dJO_copyFrom_112 : decode bJO_copyFrom 112 = .ok (.invokestatic 47, 3) := by decide +kernel
theorem dJO_copyFrom_115 : decode bJO_copyFrom 115 = .ok (.return_, 1) := by decide +kernel
theorem dJO_daysLate_0 : decode bJO_daysLate 0 = .ok (.iconst 0, 1) := by decide +kernel
theorem dJO_daysLate_1 : decode bJO_daysLate 1 = .ok (.iload_n 2, 1) := by decide +kernel
theorem dJO_daysLate_2 : decode bJO_daysLate 2 = .ok (.aload_n 0, 1) := by decide +kernel

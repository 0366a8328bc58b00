theorem dHL_row_29 : decode bHL_row 29 = .ok (.ireturn, 1) := by decide +kernel
theorem dHL_row_30 : decode bHL_row 30 = .ok (.lload_n 3, 1) := by decide +kernel
theorem dHL_row_31 : decode bHL_row 31 = .ok (.lconst 0, 1) := by decide +kernel
theorem dHL_row_32 : decode bHL_row 32 = .ok (.lcmp, 1) := by decide +kernel
theorem dHL_row_33 : decode bHL_row 33 = .ok (.ifCond .eq 19, 3) := by decide +kernel
theorem dHL_row_36 : decode bHL_row 36 = .ok (.lload_n 3, 1) := by decide +kernel
theorem dHL_row_37 : decode bHL_row 37 = .ok (.ldc2_w 57, 3) := by decide +kernel
theorem dHL_row_40 : decode bHL_row 40 = .ok (.lcmp, 1) := by decide +kernel
theorem dHL_row_41 : decode bHL_row 41 = .ok (.ifCond .lt 11, 3) := by decide +kernel
theorem dHL_row_44 : decode bHL_row 44 = .ok (.lload_n 3, 1) := by decide +kernel
theorem dHL_row_45 : decode bHL_row 45 = .ok (.ldc2_w 59, 3) := by decide +kernel
theorem dHL_row_48 : decode bHL_row 48 = .ok (.lcmp, 1) := by decide +kernel
theorem dHL_row_49 : decode bHL_row 49 = .ok (.ifCond .le 5, 3) := by decide +kernel
theorem dHL_row_52 : decode bHL_row 52 = .ok (.iconst 0, 1) := by decide +kernel
theorem dHL_row_53 : decode bHL_row 53 = .ok (.ireturn, 1) := by decide +kernel
theorem dHL_row_54 : decode bHL_row 54 = .ok (.aload_n 0, 1) := by decide +kernel
theorem dHL_row_55 : decode bHL_row 55 = .ok (.getfield 10, 3) := by decide +kernel
theorem dHL_row_58 : decode bHL_row 58 = .ok (.getfield 41, 3) := by decide +kernel
theorem dHL_row_61 : decode bHL_row 61 = .ok (.iload_n 1, 1) := by decide +kernel
theorem dHL_row_62 : decode bHL_row 62 = .ok (.iload_n 2, 1) := by decide +kernel
theorem dHL_row_63 : decode bHL_row 63 = .ok (.lload_n 3, 1) := by decide +kernel
theorem dHL_row_64 : decode bHL_row 64 = .ok (.invokevirtual 61, 3) := by decide +kernel
theorem dHL_row_67 : decode bHL_row 67 = .ok (.ireturn, 1) := by decide +kernel
theorem dHL_share_0 : decode bHL_share 0 = .ok (.aload_n 0, 1) := by decide +kernel
theorem dHL_share_1 : decode bHL_share 1 = .ok (.getfield 10, 3) := by decide +kernel
theorem dHL_share_4 : decode bHL_share 4 = .ok (.getfield 27, 3) := by decide +kernel
theorem dHL_share_7 : decode bHL_share 7 = .ok (.iload_n 1, 1) := by decide +kernel
theorem dHL_share_8 : decode bHL_share 8 = .ok (.invokevirtual 105, 3) := by decide +kernel
theorem dHL_share_11 : decode bHL_share 11 = .ok (.ifCond .eq 19, 3) := by decide +kernel
theorem dHL_share_14 : decode bHL_share 14 = .ok (.iload_n 2, 1) := by decide +kernel
theorem dHL_share_15 : decode bHL_share 15 = .ok (.invokestatic 172, 3) := by decide +kernel
theorem dHL_share_18 : decode bHL_share 18 = .ok (.ifCond .eq 12, 3) := by decide +kernel
theorem dHL_share_21 : decode bHL_share 21 = .ok (.iload_n 3, 1) := by decide +kernel
theorem dHL_share_22 : decode bHL_share 22 = .ok (.ifCond .lt 8, 3) := by decide +kernel
theorem dHL_share_25 : decode bHL_share 25 = .ok (.iload_n 3, 1) := by decide +kernel
theorem dHL_share_26 : decode bHL_share 26 = .ok (.iconst 1, 1) := by decide +kernel
theorem dHL_share_27 : decode bHL_share 27 = .ok (.if_icmp .le 7, 3) := by decide +kernel
theorem dHL_share_30 : decode bHL_share 30 = .ok (.ldc2_w 116, 3) := by decide +kernel
theorem dHL_share_33 : decode bHL_share 33 = .ok (.lreturn, 1) := by decide +kernel
theorem dHL_share_34 : decode bHL_share 34 = .ok (.aload_n 0, 1) := by decide +kernel
theorem dHL_share_35 : decode bHL_share 35 = .ok (.getfield 10, 3) := by decide +kernel
theorem dHL_share_38 : decode bHL_share 38 = .ok (.getfield 27, 3) := by decide +kernel
theorem dHL_share_41 : decode bHL_share 41 = .ok (.iload_n 1, 1) := by decide +kernel
theorem dHL_share_42 : decode bHL_share 42 = .ok (.iload_n 2, 1) := by decide +kernel
theorem dHL_share_43 : decode bHL_share 43 = .ok (.invokevirtual 175, 3) := by decide +kernel
theorem dHL_share_46 : decode bHL_share 46 = .ok (.i2l, 1) := by decide +kernel
theorem dHL_share_47 : decode bHL_share 47 = .ok (.ldc2_w 178, 3) := by decide +kernel
theorem dHL_share_50 : decode bHL_share 50 = .ok (.iload_n 3, 1) := by decide +kernel
theorem dHL_share_51 : decode bHL_share 51 = .ok (.invokestatic 180, 3) := by decide +kernel
theorem dHL_share_54 : decode bHL_share 54 = .ok (.lreturn, 1) := by decide +kernel
theorem dHL_statement_0 : decode bHL_statement 0 = .ok (.aload_n 0, 1) := by decide +kernel
theorem dHL_statement_1 : decode bHL_statement 1 = .ok (.getfield 10, 3) := by decide +kernel
theorem dHL_statement_4 : decode bHL_statement 4 = .ok (.getfield 27, 3) := by decide +kernel
theorem dHL_statement_7 : decode bHL_statement 7 = .ok (.iload_n 1, 1) := by decide +kernel
theorem dHL_statement_8 : decode bHL_statement 8 = .ok (.invokevirtual 54, 3) := by decide +kernel
theorem dHL_statement_11 : decode bHL_statement 11 = .ok (.ifCond .eq 10, 3) := by decide +kernel
theorem dHL_statement_14 : decode bHL_statement 14 = .ok (.iload_n 2, 1) := by decide +kernel
theorem dHL_statement_15 : decode bHL_statement 15 = .ok (.invokestatic 172, 3) := by decide +kernel
theorem dHL_statement_18 : decode bHL_statement 18 = .ok (.ifCond .ne 5, 3) := by decide +kernel
theorem dHL_statement_21 : decode bHL_statement 21 = .ok (.iconst (-1), 1) := by decide +kernel
theorem dHL_statement_22 : decode bHL_statement 22 = .ok (.ireturn, 1) := by decide +kernel
theorem dHL_statement_23 : decode bHL_statement 23 = .ok (.aload_n 0, 1) := by decide +kernel
theorem dHL_statement_24 : decode bHL_statement 24 = .ok (.getfield 10, 3) := by decide +kernel
theorem dHL_statement_27 : decode bHL_statement 27 = .ok (.getfield 41, 3) := by decide +kernel
theorem dHL_statement_30 : decode bHL_statement 30 = .ok (.iload_n 1, 1) := by decide +kernel
theorem dHL_statement_31 : decode bHL_statement 31 = .ok (.iload_n 2, 1) := by decide +kernel
theorem dHL_statement_32 : decode bHL_statement 32 = .ok (.iload_n 3, 1) := by decide +kernel
theorem dHL_statement_33 : decode bHL_statement 33 = .ok (.invokevirtual 222, 3) := by decide +kernel
theorem dHL_statement_36 : decode bHL_statement 36 = .ok (.ireturn, 1) := by decide +kernel
theorem dHL_tax_0 : decode bHL_tax 0 = .ok (.iload_n 1, 1) := by decide +kernel
theorem dHL_tax_1 : decode bHL_tax 1 = .ok (.invokestatic 172, 3) := by decide +kernel
theorem dHL_tax_4 : decode bHL_tax 4 = .ok (.ifCond .ne 5, 3) := by decide +kernel
theorem dHL_tax_7 : decode bHL_tax 7 = .ok (.lconst 0, 1) := by decide +kernel
theorem dHL_tax_8 : decode bHL_tax 8 = .ok (.lreturn, 1) := by decide +kernel
theorem dHL_tax_9 : decode bHL_tax 9 = .ok (.aload_n 0, 1) := by decide +kernel
theorem dHL_tax_10 : decode bHL_tax 10 = .ok (.getfield 10, 3) := by decide +kernel
theorem dHL_tax_13 : decode bHL_tax 13 = .ok (.iload_n 1, 1) := by decide +kernel
theorem dHL_tax_14 : decode bHL_tax 14 = .ok (.invokevirtual 226, 3) := by decide +kernel
theorem dHL_tax_17 : decode bHL_tax 17 = .ok (.lneg, 1) := by decide +kernel
theorem dHL_tax_18 : decode bHL_tax 18 = .ok (.lstore_n 2, 1) := by decide +kernel
theorem dHL_tax_19 : decode bHL_tax 19 = .ok (.lload_n 2, 1) := by decide +kernel
theorem dHL_tax_20 : decode bHL_tax 20 = .ok (.lconst 0, 1) := by decide +kernel
theorem dHL_tax_21 : decode bHL_tax 21 = .ok (.lcmp, 1) := by decide +kernel
theorem dHL_tax_22 : decode bHL_tax 22 = .ok (.ifCond .gt 7, 3) := by decide +kernel
theorem dHL_tax_25 : decode bHL_tax 25 = .ok (.lconst 0, 1) := by decide +kernel
theorem dHL_tax_26 : decode bHL_tax 26 = .ok (.goto 12, 3) := by decide +kernel
theorem dHL_tax_29 : decode bHL_tax 29 = .ok (.lload_n 2, 1) := by decide +kernel
theorem dHL_tax_30 : decode bHL_tax 30 = .ok (.ldc2_w 229, 3) := by decide +kernel
theorem dHL_tax_33 : decode bHL_tax 33 = .ok (.lmul, 1) := by decide +kernel
theorem dHL_tax_34 : decode bHL_tax 34 = .ok (.ldc2_w 220, 3) := by decide +kernel
theorem dHL_tax_37 : decode bHL_tax 37 = .ok (.ldiv, 1) := by decide +kernel
theorem dHL_tax_38 : decode bHL_tax 38 = .ok (.lreturn, 1) := by decide +kernel
theorem dJO_add_0 : decode bJO_add 0 = .ok (.aload_n 0, 1) := by decide +kernel
theorem dJO_add_1 : decode bJO_add 1 = .ok (.invokevirtual 55, 3) := by decide +kernel
theorem dJO_add_4 : decode bJO_add 4 = .ok (.ifCond .eq 5, 3) := by decide +kernel
theorem dJO_add_7 : decode bJO_add 7 = .ok (.iconst (-1), 1) := by decide +kernel
theorem dJO_add_8 : decode bJO_add 8 = .ok (.ireturn, 1) := by decide +kernel
theorem dJO_add_9 : decode bJO_add 9 = .ok (.aload_n 0, 1) := by decide +kernel
theorem dJO_add_10 : decode bJO_add 10 = .ok (.getfield 9, 3) := by decide +kernel
theorem dJO_add_13 : decode bJO_add 13 = .ok (.istore_n 3, 1) := by decide +kernel
theorem dJO_add_14 : decode bJO_add 14 = .ok (.aload_n 0, 1) := by decide +kernel
theorem dJO_add_15 : decode bJO_add 15 = .ok (.getfield 15, 3) := by decide +kernel
theorem dJO_add_18 : decode bJO_add 18 = .ok (.iload_n 3, 1) := by decide +kernel
theorem dJO_add_19 : decode bJO_add 19 = .ok (.iload_n 1, 1) := by decide +kernel
theorem dJO_add_20 : decode bJO_add 20 = .ok (.iastore, 1) := by decide +kernel
theorem dJO_add_21 : decode bJO_add 21 = .ok (.aload_n 0, 1) := by decide +kernel
theorem dJO_add_22 : decode bJO_add 22 = .ok (.getfield 19, 3) := by decide +kernel
theorem dJO_add_25 : decode bJO_add 25 = .ok (.iload_n 3, 1) := by decide +kernel
theorem dJO_add_26 : decode bJO_add 26 = .ok (.iload_n 2, 1) := by decide +kernel
theorem dJO_add_27 : decode bJO_add 27 = .ok (.iastore, 1) := by decide +kernel
theorem dJO_add_28 : decode bJO_add 28 = .ok (.aload_n 0, 1) := by decide +kernel
theorem dJO_add_29 : decode bJO_add 29 = .ok (.getfield 22, 3) := by decide +kernel
theorem dJO_add_32 : decode bJO_add 32 = .ok (.iload_n 3, 1) := by decide +kernel
theorem dJO_add_33 : decode bJO_add 33 = .ok (.iconst 0, 1) := by decide +kernel
theorem dJO_add_34 : decode bJO_add 34 = .ok (.iastore, 1) := by decide +kernel
theorem dJO_add_35 : decode bJO_add 35 = .ok (.iload_n 3, 1) := by decide +kernel
theorem dJO_add_36 : decode bJO_add 36 = .ok (.istore 4, 2) := by decide +kernel
theorem dJO_add_38 : decode bJO_add 38 = .ok (.iload 4, 2) := by decide +kernel
theorem dJO_add_40 : decode bJO_add 40 = .ok (.ifCond .le 43, 3) := by decide +kernel
theorem dJO_add_43 : decode bJO_add 43 = .ok (.aload_n 0, 1) := by decide +kernel
theorem dJO_add_44 : decode bJO_add 44 = .ok (.getfield 15, 3) := by decide +kernel
theorem dJO_add_47 : decode bJO_add 47 = .ok (.aload_n 0, 1) := by decide +kernel
theorem dJO_add_48 : decode bJO_add 48 = .ok (.getfield 25, 3) := by decide +kernel
theorem dJO_add_51 : decode bJO_add 51 = .ok (.iload 4, 2) := by decide +kernel
theorem dJO_add_53 : decode bJO_add 53 = .ok (.iconst 1, 1) := by decide +kernel
theorem dJO_add_54 : decode bJO_add 54 = .ok (.isub, 1) := by decide +kernel
theorem dJO_add_55 : decode bJO_add 55 = .ok (.iaload, 1) := by decide +kernel
theorem dJO_add_56 : decode bJO_add 56 = .ok (.iaload, 1) := by decide +kernel
theorem dJO_add_57 : decode bJO_add 57 = .ok (.iload_n 1, 1) := by decide +kernel
theorem dJO_add_58 : decode bJO_add 58 = .ok (.if_icmp .le 25, 3) := by decide +kernel
theorem dJO_add_61 : decode bJO_add 61 = .ok (.aload_n 0, 1) := by decide +kernel
theorem dJO_add_62 : decode bJO_add 62 = .ok (.getfield 25, 3) := by decide +kernel
theorem dJO_add_65 : decode bJO_add 65 = .ok (.iload 4, 2) := by decide +kernel
theorem dJO_add_67 : decode bJO_add 67 = .ok (.aload_n 0, 1) := by decide +kernel
theorem dJO_add_68 : decode bJO_add 68 = .ok (.getfield 25, 3) := by decide +kernel
theorem dJO_add_71 : decode bJO_add 71 = .ok (.iload 4, 2) := by decide +kernel
theorem dJO_add_73 : decode bJO_add 73 = .ok (.iconst 1, 1) := by decide +kernel
theorem dJO_add_74 : decode bJO_add 74 = .ok (.isub, 1) := by decide +kernel
theorem dJO_add_75 : decode bJO_add 75 = .ok (.iaload, 1) := by decide +kernel
theorem dJO_add_76 : decode bJO_add 76 = .ok (.iastore, 1) := by decide +kernel
theorem dJO_add_77 : decode bJO_add 77 = .ok (.iinc 4 (-1), 3) := by decide +kernel
theorem dJO_add_80 : decode bJO_add 80 = .ok (.goto (-42), 3) := by decide +kernel
theorem dJO_add_83 : decode bJO_add 83 = .ok (.aload_n 0, 1) := by decide +kernel
theorem dJO_add_84 : decode bJO_add 84 = .ok (.getfield 25, 3) := by decide +kernel
theorem dJO_add_87 : decode bJO_add 87 = .ok (.iload 4, 2) := by decide +kernel
theorem dJO_add_89 : decode bJO_add 89 = .ok (.iload_n 3, 1) := by decide +kernel
theorem dJO_add_90 : decode bJO_add 90 = .ok (.iastore, 1) := by decide +kernel
theorem dJO_add_91 : decode bJO_add 91 = .ok (.aload_n 0, 1) := by decide +kernel
theorem dJO_add_92 : decode bJO_add 92 = .ok (.dup, 1) := by decide +kernel
theorem dJO_add_93 : decode bJO_add 93 = .ok (.getfield 9, 3) := by decide +kernel
theorem dJO_add_96 : decode bJO_add 96 = .ok (.iconst 1, 1) := by decide +kernel
theorem dJO_add_97 : decode bJO_add 97 = .ok (.iadd, 1) := by decide +kernel
theorem dJO_add_98 : decode bJO_add 98 = .ok (.putfield 9, 3) := by decide +kernel
theorem dJO_add_101 : decode bJO_add 101 = .ok (.iload_n 3, 1) := by decide +kernel
theorem dJO_add_102 : decode bJO_add 102 = .ok (.ireturn, 1) := by decide +kernel
theorem dJO_addRow_0 : decode bJO_addRow 0 = .ok (.iload_n 1, 1) := by decide +kernel
theorem dJO_addRow_1 : decode bJO_addRow 1 = .ok (.ifCond .lt 22, 3) := by decide +kernel
theorem dJO_addRow_4 : decode bJO_addRow 4 = .ok (.iload_n 1, 1) := by decide +kernel
theorem dJO_addRow_5 : decode bJO_addRow 5 = .ok (.aload_n 0, 1) := by decide +kernel
theorem dJO_addRow_6 : decode bJO_addRow 6 = .ok (.getfield 9, 3) := by decide +kernel
theorem dJO_addRow_9 : decode bJO_addRow 9 = .ok (.if_icmp .ge 14, 3) := by decide +kernel
theorem dJO_addRow_12 : decode bJO_addRow 12 = .ok (.aload_n 0, 1) := by decide +kernel
theorem dJO_addRow_13 : decode bJO_addRow 13 = .ok (.getfield 22, 3) := by decide +kernel
theorem dJO_addRow_16 : decode bJO_addRow 16 = .ok (.iload_n 1, 1) := by decide +kernel
theorem dJO_addRow_17 : decode bJO_addRow 17 = .ok (.iaload, 1) := by decide +kernel
theorem dJO_addRow_18 : decode bJO_addRow 18 = .ok (.bipush 6, 2) := by decide +kernel
theorem dJO_addRow_20 : decode bJO_addRow 20 = .ok (.if_icmp .lt 5, 3) := by decide +kernel
theorem dJO_addRow_23 : decode bJO_addRow 23 = .ok (.iconst 0, 1) := by decide +kernel
theorem dJO_addRow_24 : decode bJO_addRow 24 = .ok (.ireturn, 1) := by decide +kernel
theorem dJO_addRow_25 : decode bJO_addRow 25 = .ok (.iload_n 1, 1) := by decide +kernel
theorem dJO_addRow_26 : decode bJO_addRow 26 = .ok (.bipush 6, 2) := by decide +kernel
theorem dJO_addRow_28 : decode bJO_addRow 28 = .ok (.imul, 1) := by decide +kernel
theorem dJO_addRow_29 : decode bJO_addRow 29 = .ok (.aload_n 0, 1) := by decide +kernel
theorem dJO_addRow_30 : decode bJO_addRow 30 = .ok (.getfield 22, 3) := by decide +kernel
theorem dJO_addRow_33 : decode bJO_addRow 33 = .ok (.iload_n 1, 1) := by decide +kernel
theorem dJO_addRow_34 : decode bJO_addRow 34 = .ok (.iaload, 1) := by decide +kernel
theorem dJO_addRow_35 : decode bJO_addRow 35 = .ok (.iadd, 1) := by decide +kernel
theorem dJO_addRow_36 : decode bJO_addRow 36 = .ok (.istore 5, 2) := by decide +kernel
theorem dJO_addRow_38 : decode bJO_addRow 38 = .ok (.aload_n 0, 1) := by decide +kernel
theorem dJO_addRow_39 : decode bJO_addRow 39 = .ok (.getfield 28, 3) := by decide +kernel
theorem dJO_addRow_42 : decode bJO_addRow 42 = .ok (.iload 5, 2) := by decide +kernel
theorem dJO_addRow_44 : decode bJO_addRow 44 = .ok (.iload_n 2, 1) := by decide +kernel
theorem dJO_addRow_45 : decode bJO_addRow 45 = .ok (.iastore, 1) := by decide +kernel
theorem dJO_addRow_46 : decode bJO_addRow 46 = .ok (.aload_n 0, 1) := by decide +kernel
theorem dJO_addRow_47 : decode bJO_addRow 47 = .ok (.getfield 31, 3) := by decide +kernel
theorem dJO_addRow_50 : decode bJO_addRow 50 = .ok (.iload 5, 2) := by decide +kernel
theorem dJO_addRow_52 : decode bJO_addRow 52 = .ok (.lload_n 3, 1) := by decide +kernel
theorem dJO_addRow_53 : decode bJO_addRow 53 = .ok (.lastore, 1) := by decide +kernel
theorem dJO_addRow_54 : decode bJO_addRow 54 = .ok (.aload_n 0, 1) := by decide +kernel
theorem dJO_addRow_55 : decode bJO_addRow 55 = .ok (.getfield 35, 3) := by decide +kernel
theorem dJO_addRow_58 : decode bJO_addRow 58 = .ok (.iload 5, 2) := by decide +kernel
theorem dJO_addRow_60 : decode bJO_addRow 60 = .ok (.ldc2_w 59, 3) := by decide +kernel
theorem dJO_addRow_63 : decode bJO_addRow 63 = .ok (.lastore, 1) := by decide +kernel
theorem dJO_addRow_64 : decode bJO_addRow 64 = .ok (.aload_n 0, 1) := by decide +kernel
theorem dJO_addRow_65 : decode bJO_addRow 65 = .ok (.getfield 22, 3) := by decide +kernel
theorem dJO_addRow_68 : decode bJO_addRow 68 = .ok (.iload_n 1, 1) := by decide +kernel
theorem dJO_addRow_69 : decode bJO_addRow 69 = .ok (.dup2, 1) := by decide +kernel
theorem dJO_addRow_70 : decode bJO_addRow 70 = .ok (.iaload, 1) := by decide +kernel
theorem dJO_addRow_71 : decode bJO_addRow 71 = .ok (.iconst 1, 1) := by decide +kernel
theorem dJO_addRow_72 : decode bJO_addRow 72 = .ok (.iadd, 1) := by decide +kernel
theorem dJO_addRow_73 : decode bJO_addRow 73 = .ok (.iastore, 1) := by decide +kernel
theorem dJO_addRow_74 : decode bJO_addRow 74 = .ok (.iconst 1, 1) := by decide +kernel
theorem dJO_addRow_75 : decode bJO_addRow 75 = .ok (.ireturn, 1) := by decide +kernel
theorem dJO_centDays_0 : decode bJO_centDays 0 = .ok (.lconst 0, 1) := by decide +kernel
theorem dJO_centDays_1 : decode bJO_centDays 1 = .ok (.lstore_n 3, 1) := by decide +kernel
theorem dJO_centDays_2 : decode bJO_centDays 2 = .ok (.aload_n 0, 1) := by decide +kernel
theorem dJO_centDays_3 : decode bJO_centDays 3 = .ok (.getfield 9, 3) := by decide +kernel
theorem dJO_centDays_6 : decode bJO_centDays 6 = .ok (.bipush 6, 2) := by decide +kernel
theorem dJO_centDays_8 : decode bJO_centDays 8 = .ok (.imul, 1) := by decide +kernel
theorem dJO_centDays_9 : decode bJO_centDays 9 = .ok (.istore 5, 2) := by decide +kernel
theorem dJO_centDays_11 : decode bJO_centDays 11 = .ok (.iconst 0, 1) := by decide +kernel
theorem dJO_centDays_12 : decode bJO_centDays 12 = .ok (.istore 6, 2) := by decide +kernel
theorem dJO_centDays_14 : decode bJO_centDays 14 = .ok (.iload 6, 2) := by decide +kernel
theorem dJO_centDays_16 : decode bJO_centDays 16 = .ok (.iload 5, 2) := by decide +kernel
theorem dJO_centDays_18 : decode bJO_centDays 18 = .ok (.if_icmp .ge 43, 3) := by decide +kernel
theorem dJO_centDays_21 : decode bJO_centDays 21 = .ok (.aload_n 0, 1) := by decide +kernel
theorem dJO_centDays_22 : decode bJO_centDays 22 = .ok (.iload 6, 2) := by decide +kernel
theorem dJO_centDays_24 : decode bJO_centDays 24 = .ok (.iload_n 1, 1) := by decide +kernel
theorem dJO_centDays_25 : decode bJO_centDays 25 = .ok (.invokevirtual 73, 3) := by decide +kernel
theorem dJO_centDays_28 : decode bJO_centDays 28 = .ok (.istore 7, 2) := by decide +kernel
theorem dJO_centDays_30 : decode bJO_centDays 30 = .ok (.iload 7, 2) := by decide +kernel
theorem dJO_centDays_32 : decode bJO_centDays 32 = .ok (.iconst (-1), 1) := by decide +kernel
theorem dJO_centDays_33 : decode bJO_centDays 33 = .ok (.if_icmp .eq 22, 3) := by decide +kernel
theorem dJO_centDays_36 : decode bJO_centDays 36 = .ok (.lload_n 3, 1) := by decide +kernel
theorem dJO_centDays_37 : decode bJO_centDays 37 = .ok (.aload_n 0, 1) := by decide +kernel
theorem dJO_centDays_38 : decode bJO_centDays 38 = .ok (.getfield 35, 3) := by decide +kernel
theorem dJO_centDays_41 : decode bJO_centDays 41 = .ok (.iload 7, 2) := by decide +kernel
theorem dJO_centDays_43 : decode bJO_centDays 43 = .ok (.laload, 1) := by decide +kernel
theorem dJO_centDays_44 : decode bJO_centDays 44 = .ok (.aload_n 0, 1) := by decide +kernel
theorem dJO_centDays_45 : decode bJO_centDays 45 = .ok (.iload 7, 2) := by decide +kernel
theorem dJO_centDays_47 : decode bJO_centDays 47 = .ok (.iload_n 2, 1) := by decide +kernel
theorem dJO_centDays_48 : decode bJO_centDays 48 = .ok (.invokevirtual 87, 3) := by decide +kernel
theorem dJO_centDays_51 : decode bJO_centDays 51 = .ok (.i2l, 1) := by decide +kernel
theorem dJO_centDays_52 : decode bJO_centDays 52 = .ok (.lmul, 1) := by decide +kernel
theorem dJO_centDays_53 : decode bJO_centDays 53 = .ok (.ladd, 1) := by decide +kernel
theorem dJO_centDays_54 : decode bJO_centDays 54 = .ok (.lstore_n 3, 1) := by decide +kernel
theorem dJO_centDays_55 : decode bJO_centDays 55 = .ok (.iinc 6 1, 3) := by decide +kernel
theorem dJO_centDays_58 : decode bJO_centDays 58 = .ok (.goto (-44), 3) := by decide +kernel
theorem dJO_centDays_61 : decode bJO_centDays 61 = .ok (.lload_n 3, 1) := by decide +kernel
theorem dJO_centDays_62 : decode bJO_centDays 62 = .ok (.lreturn, 1) := by decide +kernel
theorem dJO_clearItems_0 : decode bJO_clearItems 0 = .ok (.iload_n 1, 1) := by decide +kernel
theorem dJO_clearItems_1 : decode bJO_clearItems 1 = .ok (.bipush 6, 2) := by decide +kernel
theorem dJO_clearItems_3 : decode bJO_clearItems 3 = .ok (.imul, 1) := by decide +kernel
theorem dJO_clearItems_4 : decode bJO_clearItems 4 = .ok (.istore_n 2, 1) := by decide +kernel
theorem dJO_clearItems_5 : decode bJO_clearItems 5 = .ok (.iload_n 2, 1) := by decide +kernel
theorem dJO_clearItems_6 : decode bJO_clearItems 6 = .ok (.aload_n 0, 1) := by decide +kernel
theorem dJO_clearItems_7 : decode bJO_clearItems 7 = .ok (.getfield 22, 3) := by decide +kernel
theorem dJO_clearItems_10 : decode bJO_clearItems 10 = .ok (.iload_n 1, 1) := by decide +kernel
theorem dJO_clearItems_11 : decode bJO_clearItems 11 = .ok (.iaload, 1) := by decide +kernel
theorem dJO_clearItems_12 : decode bJO_clearItems 12 = .ok (.iadd, 1) := by decide +kernel
theorem dJO_clearItems_13 : decode bJO_clearItems 13 = .ok (.istore_n 3, 1) := by decide +kernel
theorem dJO_clearItems_14 : decode bJO_clearItems 14 = .ok (.iload_n 2, 1) := by decide +kernel
theorem dJO_clearItems_15 : decode bJO_clearItems 15 = .ok (.istore 4, 2) := by decide +kernel
theorem dJO_clearItems_17 : decode bJO_clearItems 17 = .ok (.iload 4, 2) := by decide +kernel
theorem dJO_clearItems_19 : decode bJO_clearItems 19 = .ok (.iload_n 3, 1) := by decide +kernel
theorem dJO_clearItems_20 : decode bJO_clearItems 20 = .ok (.if_icmp .ge 31, 3) := by decide +kernel
theorem dJO_clearItems_23 : decode bJO_clearItems 23 = .ok (.aload_n 0, 1) := by decide +kernel
theorem dJO_clearItems_24 : decode bJO_clearItems 24 = .ok (.getfield 35, 3) := by decide +kernel
theorem dJO_clearItems_27 : decode bJO_clearItems 27 = .ok (.iload 4, 2) := by decide +kernel
theorem dJO_clearItems_29 : decode bJO_clearItems 29 = .ok (.laload, 1) := by decide +kernel
theorem dJO_clearItems_30 : decode bJO_clearItems 30 = .ok (.ldc2_w 59, 3) := by decide +kernel
theorem dJO_clearItems_33 : decode bJO_clearItems 33 = .ok (.lcmp, 1) := by decide +kernel
theorem dJO_clearItems_34 : decode bJO_clearItems 34 = .ok (.ifCond .eq 11, 3) := by decide +kernel
theorem dJO_clearItems_37 : decode bJO_clearItems 37 = .ok (.aload_n 0, 1) := by decide +kernel
theorem dJO_clearItems_38 : decode bJO_clearItems 38 = .ok (.getfield 35, 3) := by decide +kernel
theorem dJO_clearItems_41 : decode bJO_clearItems 41 = .ok (.iload 4, 2) := by decide +kernel
theorem dJO_clearItems_43 : decode bJO_clearItems 43 = .ok (.lconst 0, 1) := by decide +kernel
theorem dJO_clearItems_44 : decode bJO_clearItems 44 = .ok (.lastore, 1) := by decide +kernel
theorem dJO_clearItems_45 : decode bJO_clearItems 45 = .ok (.iinc 4 1, 3) := by decide +kernel
theorem dJO_clearItems_48 : decode bJO_clearItems 48 = .ok (.goto (-31), 3) := by decide +kernel
theorem dJO_clearItems_51 : decode bJO_clearItems 51 = .ok (.return_, 1) := by decide +kernel
theorem dJO_copyFrom_0 : decode bJO_copyFrom 0 = .ok (.aload_n 0, 1) := by decide +kernel
theorem dJO_copyFrom_1 : decode bJO_copyFrom 1 = .ok (.aload_n 1, 1) := by decide +kernel
theorem dJO_copyFrom_2 : decode bJO_copyFrom 2 = .ok (.getfield 9, 3) := by decide +kernel
theorem dJO_copyFrom_5 : decode bJO_copyFrom 5 = .ok (.putfield 9, 3) := by decide +kernel
theorem dJO_copyFrom_8 : decode bJO_copyFrom 8 = .ok (.aload_n 1, 1) := by decide +kernel
theorem dJO_copyFrom_9 : decode bJO_copyFrom 9 = .ok (.getfield 15, 3) := by decide +kernel
theorem dJO_copyFrom_12 : decode bJO_copyFrom 12 = .ok (.aload_n 0, 1) := by decide +kernel
theorem dJO_copyFrom_13 : decode bJO_copyFrom 13 = .ok (.getfield 15, 3) := by decide +kernel
theorem dJO_copyFrom_16 : decode bJO_copyFrom 16 = .ok (.invokestatic 47, 3) := by decide +kernel
theorem dJO_copyFrom_19 : decode bJO_copyFrom 19 = .ok (.aload_n 1, 1) := by decide +kernel
theorem dJO_copyFrom_20 : decode bJO_copyFrom 20 = .ok (.getfield 19, 3) := by decide +kernel
theorem dJO_copyFrom_23 : decode bJO_copyFrom 23 = .ok (.aload_n 0, 1) := by decide +kernel
theorem dJO_copyFrom_24 : decode bJO_copyFrom 24 = .ok (.getfield 19, 3) := by decide +kernel
theorem dJO_copyFrom_27 : decode bJO_copyFrom 27 = .ok (.invokestatic 47, 3) := by decide +kernel
theorem dJO_copyFrom_30 : decode bJO_copyFrom 30 = .ok (.aload_n 1, 1) := by decide +kernel
theorem dJO_copyFrom_31 : decode bJO_copyFrom 31 = .ok (.getfield 22, 3) := by decide +kernel
theorem dJO_copyFrom_34 : decode bJO_copyFrom 34 = .ok (.aload_n 0, 1) := by decide +kernel
theorem dJO_copyFrom_35 : decode bJO_copyFrom 35 = .ok (.getfield 22, 3) := by decide +kernel
theorem dJO_copyFrom_38 : decode bJO_copyFrom 38 = .ok (.invokestatic 47, 3) := by decide +kernel
theorem dJO_copyFrom_41 : decode bJO_copyFrom 41 = .ok (.aload_n 1, 1) := by decide +kernel
theorem dJO_copyFrom_42 : decode bJO_copyFrom 42 = .ok (.getfield 25, 3) := by decide +kernel
theorem dJO_copyFrom_45 : decode bJO_copyFrom 45 = .ok (.aload_n 0, 1) := by decide +kernel
theorem dJO_copyFrom_46 : decode bJO_copyFrom 46 = .ok (.getfield 25, 3) := by decide +kernel
theorem dJO_copyFrom_49 : decode bJO_copyFrom 49 = .ok (.invokestatic 47, 3) := by decide +kernel
theorem dJO_copyFrom_52 : decode bJO_copyFrom 52 = .ok (.aload_n 1, 1) := by decide +kernel
theorem dJO_copyFrom_53 : decode bJO_copyFrom 53 = .ok (.getfield 28, 3) := by decide +kernel
theorem dJO_copyFrom_56 : decode bJO_copyFrom 56 = .ok (.aload_n 0, 1) := by decide +kernel
theorem dJO_copyFrom_57 : decode bJO_copyFrom 57 = .ok (.getfield 28, 3) := by decide +kernel
theorem dJO_copyFrom_60 : decode bJO_copyFrom 60 = .ok (.invokestatic 47, 3) := by decide +kernel
theorem dJO_copyFrom_63 : decode bJO_copyFrom 63 = .ok (.aload_n 1, 1) := by decide +kernel
theorem dJO_copyFrom_64 : decode bJO_copyFrom 64 = .ok (.getfield 31, 3) := by decide +kernel
theorem dJO_copyFrom_67 : decode bJO_copyFrom 67 = .ok (.aload_n 0, 1) := by decide +kernel
theorem dJO_copyFrom_68 : decode bJO_copyFrom 68 = .ok (.getfield 31, 3) := by decide +kernel
theorem dJO_copyFrom_71 : decode bJO_copyFrom 71 = .ok (.invokestatic 51, 3) := by decide +kernel
theorem dJO_copyFrom_74 : decode bJO_copyFrom 74 = .ok (.aload_n 1, 1) := by decide +kernel
theorem dJO_copyFrom_75 : decode bJO_copyFrom 75 = .ok (.getfield 35, 3) := by decide +kernel
theorem dJO_copyFrom_78 : decode bJO_copyFrom 78 = .ok (.aload_n 0, 1) := by decide +kernel
theorem dJO_copyFrom_79 : decode bJO_copyFrom 79 = .ok (.getfield 35, 3) := by decide +kernel
theorem dJO_copyFrom_82 : decode bJO_copyFrom 82 = .ok (.invokestatic 51, 3) := by decide +kernel
theorem dJO_copyFrom_85 : decode bJO_copyFrom 85 = .ok (.aload_n 0, 1) := by decide +kernel
theorem dJO_copyFrom_86 : decode bJO_copyFrom 86 = .ok (.aload_n 1, 1) := by decide +kernel
theorem dJO_copyFrom_87 : decode bJO_copyFrom 87 = .ok (.getfield 38, 3) := by decide +kernel
theorem dJO_copyFrom_90 : decode bJO_copyFrom 90 = .ok (.putfield 38, 3) := by decide +kernel
theorem dJO_copyFrom_93 : decode bJO_copyFrom 93 = .ok (.aload_n 1, 1) := by decide +kernel
theorem dJO_copyFrom_94 : decode bJO_copyFrom 94 = .ok (.getfield 41, 3) := by decide +kernel
theorem dJO_copyFrom_97 : decode bJO_copyFrom 97 = .ok (.aload_n 0, 1) := by decide +kernel
theorem dJO_copyFrom_98 : decode bJO_copyFrom 98 = .ok (.getfield 41, 3) := by decide +kernel
theorem dJO_copyFrom_101 : decode bJO_copyFrom 101 = .ok (.invokestatic 47, 3) := by decide +kernel
theorem dJO_copyFrom_104 : decode bJO_copyFrom 104 = .ok (.aload_n 1, 1) := by decide +kernel
theorem dJO_copyFrom_105 : decode bJO_copyFrom 105 = .ok (.getfield 44, 3) := by decide +kernel
theorem dJO_copyFrom_108 : decode bJO_copyFrom 108 = .ok (.aload_n 0, 1) := by decide +kernel
theorem dJO_copyFrom_109 : decode bJO_copyFrom 109 = .ok (.getfield 44, 3) := by decide +kernel
theorem dJO_copyFrom_112 : decode bJO_copyFrom 112 = .ok (.invokestatic 47, 3) := by decide +kernel
theorem dJO_copyFrom_115 : decode bJO_copyFrom 115 = .ok (.return_, 1) := by decide +kernel
theorem dJO_daysLate_0 : decode bJO_daysLate 0 = .ok (.iconst 0, 1) := by decide +kernel
theorem dJO_daysLate_1 : decode bJO_daysLate 1 = .ok (.iload_n 2, 1) := by decide +kernel
theorem dJO_daysLate_2 : decode bJO_daysLate 2 = .ok (.aload_n 0, 1) := by decide +kernel
theorem dJO_daysLate_3 : decode bJO_daysLate 3 = .ok (.getfield 15, 3) := by decide +kernel
theorem dJO_daysLate_6 : decode bJO_daysLate 6 = .ok (.iload_n 1, 1) := by decide +kernel
theorem dJO_daysLate_7 : decode bJO_daysLate 7 = .ok (.bipush 6, 2) := by decide +kernel
theorem dJO_daysLate_9 : decode bJO_daysLate 9 = .ok (.idiv, 1) := by decide +kernel
theorem dJO_daysLate_10 : decode bJO_daysLate 10 = .ok (.iaload, 1) := by decide +kernel
theorem dJO_daysLate_11 : decode bJO_daysLate 11 = .ok (.isub, 1) := by decide +kernel
theorem dJO_daysLate_12 : decode bJO_daysLate 12 = .ok (.bipush 30, 2) := by decide +kernel
theorem dJO_daysLate_14 : decode bJO_daysLate 14 = .ok (.isub, 1) := by decide +kernel
theorem dJO_daysLate_15 : decode bJO_daysLate 15 = .ok (.invokestatic 90, 3) := by decide +kernel
theorem dJO_daysLate_18 : decode bJO_daysLate 18 = .ok (.ireturn, 1) := by decide +kernel
theorem dJO_dueOf_0 : decode bJO_dueOf 0 = .ok (.lconst 0, 1) := by decide +kernel
theorem dJO_dueOf_1 : decode bJO_dueOf 1 = .ok (.lstore_n 2, 1) := by decide +kernel
theorem dJO_dueOf_2 : decode bJO_dueOf 2 = .ok (.aload_n 0, 1) := by decide +kernel
theorem dJO_dueOf_3 : decode bJO_dueOf 3 = .ok (.getfield 9, 3) := by decide +kernel
theorem dJO_dueOf_6 : decode bJO_dueOf 6 = .ok (.bipush 6, 2) := by decide +kernel
theorem dJO_dueOf_8 : decode bJO_dueOf 8 = .ok (.imul, 1) := by decide +kernel
theorem dJO_dueOf_9 : decode bJO_dueOf 9 = .ok (.istore 4, 2) := by decide +kernel
theorem dJO_dueOf_11 : decode bJO_dueOf 11 = .ok (.iconst 0, 1) := by decide +kernel
theorem dJO_dueOf_12 : decode bJO_dueOf 12 = .ok (.istore 5, 2) := by decide +kernel
theorem dJO_dueOf_14 : decode bJO_dueOf 14 = .ok (.iload 5, 2) := by decide +kernel
theorem dJO_dueOf_16 : decode bJO_dueOf 16 = .ok (.iload 4, 2) := by decide +kernel
theorem dJO_dueOf_18 : decode bJO_dueOf 18 = .ok (.if_icmp .ge 34, 3) := by decide +kernel
theorem dJO_dueOf_21 : decode bJO_dueOf 21 = .ok (.aload_n 0, 1) := by decide +kernel
theorem dJO_dueOf_22 : decode bJO_dueOf 22 = .ok (.iload 5, 2) := by decide +kernel
theorem dJO_dueOf_24 : decode bJO_dueOf 24 = .ok (.iload_n 1, 1) := by decide +kernel
theorem dJO_dueOf_25 : decode bJO_dueOf 25 = .ok (.invokevirtual 73, 3) := by decide +kernel
theorem dJO_dueOf_28 : decode bJO_dueOf 28 = .ok (.istore 6, 2) := by decide +kernel
theorem dJO_dueOf_30 : decode bJO_dueOf 30 = .ok (.iload 6, 2) := by decide +kernel
theorem dJO_dueOf_32 : decode bJO_dueOf 32 = .ok (.iconst (-1), 1) := by decide +kernel
theorem dJO_dueOf_33 : decode bJO_dueOf 33 = .ok (.if_icmp .eq 13, 3) := by decide +kernel
theorem dJO_dueOf_36 : decode bJO_dueOf 36 = .ok (.lload_n 2, 1) := by decide +kernel
theorem dJO_dueOf_37 : decode bJO_dueOf 37 = .ok (.aload_n 0, 1) := by decide +kernel
theorem dJO_dueOf_38 : decode bJO_dueOf 38 = .ok (.getfield 35, 3) := by decide +kernel
theorem dJO_dueOf_41 : decode bJO_dueOf 41 = .ok (.iload 6, 2) := by decide +kernel
theorem dJO_dueOf_43 : decode bJO_dueOf 43 = .ok (.laload, 1) := by decide +kernel
theorem dJO_dueOf_44 : decode bJO_dueOf 44 = .ok (.ladd, 1) := by decide +kernel
theorem dJO_dueOf_45 : decode bJO_dueOf 45 = .ok (.lstore_n 2, 1) := by decide +kernel
theorem dJO_dueOf_46 : decode bJO_dueOf 46 = .ok (.iinc 5 1, 3) := by decide +kernel
theorem dJO_dueOf_49 : decode bJO_dueOf 49 = .ok (.goto (-35), 3) := by decide +kernel
theorem dJO_dueOf_52 : decode bJO_dueOf 52 = .ok (.lload_n 2, 1) := by decide +kernel
theorem dJO_dueOf_53 : decode bJO_dueOf 53 = .ok (.lreturn, 1) := by decide +kernel
theorem dJO_isFull_0 : decode bJO_isFull 0 = .ok (.aload_n 0, 1) := by decide +kernel
theorem dJO_isFull_1 : decode bJO_isFull 1 = .ok (.getfield 9, 3) := by decide +kernel
theorem dJO_isFull_4 : decode bJO_isFull 4 = .ok (.bipush 40, 2) := by decide +kernel
theorem dJO_isFull_6 : decode bJO_isFull 6 = .ok (.if_icmp .lt 7, 3) := by decide +kernel
theorem dJO_isFull_9 : decode bJO_isFull 9 = .ok (.iconst 1, 1) := by decide +kernel
theorem dJO_isFull_10 : decode bJO_isFull 10 = .ok (.goto 4, 3) := by decide +kernel
theorem dJO_isFull_13 : decode bJO_isFull 13 = .ok (.iconst 0, 1) := by decide +kernel
theorem dJO_isFull_14 : decode bJO_isFull 14 = .ok (.ireturn, 1) := by decide +kernel
theorem dJO_isOpen_0 : decode bJO_isOpen 0 = .ok (.iload_n 1, 1) := by decide +kernel
theorem dJO_isOpen_1 : decode bJO_isOpen 1 = .ok (.ifCond .lt 24, 3) := by decide +kernel
theorem dJO_isOpen_4 : decode bJO_isOpen 4 = .ok (.iload_n 1, 1) := by decide +kernel
theorem dJO_isOpen_5 : decode bJO_isOpen 5 = .ok (.aload_n 0, 1) := by decide +kernel
theorem dJO_isOpen_6 : decode bJO_isOpen 6 = .ok (.getfield 9, 3) := by decide +kernel
theorem dJO_isOpen_9 : decode bJO_isOpen 9 = .ok (.if_icmp .ge 16, 3) := by decide +kernel
theorem dJO_isOpen_12 : decode bJO_isOpen 12 = .ok (.aload_n 0, 1) := by decide +kernel
theorem dJO_isOpen_13 : decode bJO_isOpen 13 = .ok (.getfield 19, 3) := by decide +kernel
theorem dJO_isOpen_16 : decode bJO_isOpen 16 = .ok (.iload_n 1, 1) := by decide +kernel
theorem dJO_isOpen_17 : decode bJO_isOpen 17 = .ok (.iaload, 1) := by decide +kernel
theorem dJO_isOpen_18 : decode bJO_isOpen 18 = .ok (.ifCond .ne 7, 3) := by decide +kernel
theorem dJO_isOpen_21 : decode bJO_isOpen 21 = .ok (.iconst 1, 1) := by decide +kernel
theorem dJO_isOpen_22 : decode bJO_isOpen 22 = .ok (.goto 4, 3) := by decide +kernel
theorem dJO_isOpen_25 : decode bJO_isOpen 25 = .ok (.iconst 0, 1) := by decide +kernel
theorem dJO_isOpen_26 : decode bJO_isOpen 26 = .ok (.ireturn, 1) := by decide +kernel
theorem dJO_isOverdue_0 : decode bJO_isOverdue 0 = .ok (.aload_n 0, 1) := by decide +kernel
theorem dJO_isOverdue_1 : decode bJO_isOverdue 1 = .ok (.getfield 9, 3) := by decide +kernel
theorem dJO_isOverdue_4 : decode bJO_isOverdue 4 = .ok (.bipush 6, 2) := by decide +kernel
theorem dJO_isOverdue_6 : decode bJO_isOverdue 6 = .ok (.imul, 1) := by decide +kernel
theorem dJO_isOverdue_7 : decode bJO_isOverdue 7 = .ok (.istore_n 3, 1) := by decide +kernel
theorem dJO_isOverdue_8 : decode bJO_isOverdue 8 = .ok (.iconst 0, 1) := by decide +kernel
theorem dJO_isOverdue_9 : decode bJO_isOverdue 9 = .ok (.istore 4, 2) := by decide +kernel
theorem dJO_isOverdue_11 : decode bJO_isOverdue 11 = .ok (.iload 4, 2) := by decide +kernel
theorem dJO_isOverdue_13 : decode bJO_isOverdue 13 = .ok (.iload_n 3, 1) := by decide +kernel
theorem dJO_isOverdue_14 : decode bJO_isOverdue 14 = .ok (.if_icmp .ge 48, 3) := by decide +kernel
theorem dJO_isOverdue_17 : decode bJO_isOverdue 17 = .ok (.aload_n 0, 1) := by decide +kernel
theorem dJO_isOverdue_18 : decode bJO_isOverdue 18 = .ok (.iload 4, 2) := by decide +kernel
theorem dJO_isOverdue_20 : decode bJO_isOverdue 20 = .ok (.iload_n 1, 1) := by decide +kernel
theorem dJO_isOverdue_21 : decode bJO_isOverdue 21 = .ok (.invokevirtual 73, 3) := by decide +kernel
theorem dJO_isOverdue_24 : decode bJO_isOverdue 24 = .ok (.istore 5, 2) := by decide +kernel
theorem dJO_isOverdue_26 : decode bJO_isOverdue 26 = .ok (.iload 5, 2) := by decide +kernel
theorem dJO_isOverdue_28 : decode bJO_isOverdue 28 = .ok (.iconst (-1), 1) := by decide +kernel
theorem dJO_isOverdue_29 : decode bJO_isOverdue 29 = .ok (.if_icmp .eq 27, 3) := by decide +kernel
theorem dJO_isOverdue_32 : decode bJO_isOverdue 32 = .ok (.aload_n 0, 1) := by decide +kernel
theorem dJO_isOverdue_33 : decode bJO_isOverdue 33 = .ok (.getfield 35, 3) := by decide +kernel
theorem dJO_isOverdue_36 : decode bJO_isOverdue 36 = .ok (.iload 5, 2) := by decide +kernel
theorem dJO_isOverdue_38 : decode bJO_isOverdue 38 = .ok (.laload, 1) := by decide +kernel
theorem dJO_isOverdue_39 : decode bJO_isOverdue 39 = .ok (.lconst 0, 1) := by decide +kernel
theorem dJO_isOverdue_40 : decode bJO_isOverdue 40 = .ok (.lcmp, 1) := by decide +kernel
theorem dJO_isOverdue_41 : decode bJO_isOverdue 41 = .ok (.ifCond .le 15, 3) := by decide +kernel
theorem dJO_isOverdue_44 : decode bJO_isOverdue 44 = .ok (.aload_n 0, 1) := by decide +kernel
theorem dJO_isOverdue_45 : decode bJO_isOverdue 45 = .ok (.iload 5, 2) := by decide +kernel
theorem dJO_isOverdue_47 : decode bJO_isOverdue 47 = .ok (.iload_n 2, 1) := by decide +kernel
theorem dJO_isOverdue_48 : decode bJO_isOverdue 48 = .ok (.invokevirtual 87, 3) := by decide +kernel
theorem dJO_isOverdue_51 : decode bJO_isOverdue 51 = .ok (.ifCond .le 5, 3) := by decide +kernel
theorem dJO_isOverdue_54 : decode bJO_isOverdue 54 = .ok (.iconst 1, 1) := by decide +kernel
theorem dJO_isOverdue_55 : decode bJO_isOverdue 55 = .ok (.ireturn, 1) := by decide +kernel
theorem dJO_isOverdue_56 : decode bJO_isOverdue 56 = .ok (.iinc 4 1, 3) := by decide +kernel
theorem dJO_isOverdue_59 : decode bJO_isOverdue 59 = .ok (.goto (-48), 3) := by decide +kernel
theorem dJO_isOverdue_62 : decode bJO_isOverdue 62 = .ok (.iconst 0, 1) := by decide +kernel
theorem dJO_isOverdue_63 : decode bJO_isOverdue 63 = .ok (.ireturn, 1) := by decide +kernel
theorem dJO_isPostedRow_0 : decode bJO_isPostedRow 0 = .ok (.iload_n 1, 1) := by decide +kernel
theorem dJO_isPostedRow_1 : decode bJO_isPostedRow 1 = .ok (.bipush 6, 2) := by decide +kernel
theorem dJO_isPostedRow_3 : decode bJO_isPostedRow 3 = .ok (.idiv, 1) := by decide +kernel
theorem dJO_isPostedRow_4 : decode bJO_isPostedRow 4 = .ok (.istore_n 3, 1) := by decide +kernel
theorem dJO_isPostedRow_5 : decode bJO_isPostedRow 5 = .ok (.aload_n 0, 1) := by decide +kernel
theorem dJO_isPostedRow_6 : decode bJO_isPostedRow 6 = .ok (.getfield 19, 3) := by decide +kernel
theorem dJO_isPostedRow_9 : decode bJO_isPostedRow 9 = .ok (.iload_n 3, 1) := by decide +kernel
theorem dJO_isPostedRow_10 : decode bJO_isPostedRow 10 = .ok (.iaload, 1) := by decide +kernel
theorem dJO_isPostedRow_11 : decode bJO_isPostedRow 11 = .ok (.ifCond .eq 30, 3) := by decide +kernel
theorem dJO_isPostedRow_14 : decode bJO_isPostedRow 14 = .ok (.iload_n 1, 1) := by decide +kernel
theorem dJO_isPostedRow_15 : decode bJO_isPostedRow 15 = .ok (.bipush 6, 2) := by decide +kernel
theorem dJO_isPostedRow_17 : decode bJO_isPostedRow 17 = .ok (.irem, 1) := by decide +kernel
theorem dJO_isPostedRow_18 : decode bJO_isPostedRow 18 = .ok (.aload_n 0, 1) := by decide +kernel
theorem dJO_isPostedRow_19 : decode bJO_isPostedRow 19 = .ok (.getfield 22, 3) := by decide +kernel
theorem dJO_isPostedRow_22 : decode bJO_isPostedRow 22 = .ok (.iload_n 3, 1) := by decide +kernel
theorem dJO_isPostedRow_23 : decode bJO_isPostedRow 23 = .ok (.iaload, 1) := by decide +kernel
theorem dJO_isPostedRow_24 : decode bJO_isPostedRow 24 = .ok (.if_icmp .ge 17, 3) := by decide +kernel
theorem dJO_isPostedRow_27 : decode bJO_isPostedRow 27 = .ok (.aload_n 0, 1) := by decide +kernel
theorem dJO_isPostedRow_28 : decode bJO_isPostedRow 28 = .ok (.getfield 28, 3) := by decide +kernel
theorem dJO_isPostedRow_31 : decode bJO_isPostedRow 31 = .ok (.iload_n 1, 1) := by decide +kernel
theorem dJO_isPostedRow_32 : decode bJO_isPostedRow 32 = .ok (.iaload, 1) := by decide +kernel
theorem dJO_isPostedRow_33 : decode bJO_isPostedRow 33 = .ok (.iload_n 2, 1) := by decide +kernel
theorem dJO_isPostedRow_34 : decode bJO_isPostedRow 34 = .ok (.if_icmp .ne 7, 3) := by decide +kernel
theorem dJO_isPostedRow_37 : decode bJO_isPostedRow 37 = .ok (.iconst 1, 1) := by decide +kernel
theorem dJO_isPostedRow_38 : decode bJO_isPostedRow 38 = .ok (.goto 4, 3) := by decide +kernel
theorem dJO_isPostedRow_41 : decode bJO_isPostedRow 41 = .ok (.iconst 0, 1) := by decide +kernel
theorem dJO_isPostedRow_42 : decode bJO_isPostedRow 42 = .ok (.ireturn, 1) := by decide +kernel
theorem dJO_isPostedRowIn_0 : decode bJO_isPostedRowIn 0 = .ok (.aload_n 0, 1) := by decide +kernel
theorem dJO_isPostedRowIn_1 : decode bJO_isPostedRowIn 1 = .ok (.getfield 15, 3) := by decide +kernel
theorem dJO_isPostedRowIn_4 : decode bJO_isPostedRowIn 4 = .ok (.iload_n 1, 1) := by decide +kernel
theorem dJO_isPostedRowIn_5 : decode bJO_isPostedRowIn 5 = .ok (.bipush 6, 2) := by decide +kernel
theorem dJO_isPostedRowIn_7 : decode bJO_isPostedRowIn 7 = .ok (.idiv, 1) := by decide +kernel
theorem dJO_isPostedRowIn_8 : decode bJO_isPostedRowIn 8 = .ok (.iaload, 1) := by decide +kernel
theorem dJO_isPostedRowIn_9 : decode bJO_isPostedRowIn 9 = .ok (.bipush 30, 2) := by decide +kernel
theorem dJO_isPostedRowIn_11 : decode bJO_isPostedRowIn 11 = .ok (.idiv, 1) := by decide +kernel
theorem dJO_isPostedRowIn_12 : decode bJO_isPostedRowIn 12 = .ok (.iload_n 3, 1) := by decide +kernel
theorem dJO_isPostedRowIn_13 : decode bJO_isPostedRowIn 13 = .ok (.if_icmp .ne 16, 3) := by decide +kernel
theorem dJO_isPostedRowIn_16 : decode bJO_isPostedRowIn 16 = .ok (.aload_n 0, 1) := by decide +kernel
theorem dJO_isPostedRowIn_17 : decode bJO_isPostedRowIn 17 = .ok (.iload_n 1, 1) := by decide +kernel
theorem dJO_isPostedRowIn_18 : decode bJO_isPostedRowIn 18 = .ok (.iload_n 2, 1) := by decide +kernel
theorem dJO_isPostedRowIn_19 : decode bJO_isPostedRowIn 19 = .ok (.invokevirtual 61, 3) := by decide +kernel
theorem dJO_isPostedRowIn_22 : decode bJO_isPostedRowIn 22 = .ok (.ifCond .eq 7, 3) := by decide +kernel
theorem dJO_isPostedRowIn_25 : decode bJO_isPostedRowIn 25 = .ok (.iconst 1, 1) := by decide +kernel
theorem dJO_isPostedRowIn_26 : decode bJO_isPostedRowIn 26 = .ok (.goto 4, 3) := by decide +kernel
theorem dJO_isPostedRowIn_29 : decode bJO_isPostedRowIn 29 = .ok (.iconst 0, 1) := by decide +kernel
theorem dJO_isPostedRowIn_30 : decode bJO_isPostedRowIn 30 = .ok (.ireturn, 1) := by decide +kernel
theorem dJO_isReversible_0 : decode bJO_isReversible 0 = .ok (.iload_n 1, 1) := by decide +kernel
theorem dJO_isReversible_1 : decode bJO_isReversible 1 = .ok (.ifCond .lt 21, 3) := by decide +kernel
theorem dJO_isReversible_4 : decode bJO_isReversible 4 = .ok (.iload_n 1, 1) := by decide +kernel
theorem dJO_isReversible_5 : decode bJO_isReversible 5 = .ok (.aload_n 0, 1) := by decide +kernel
theorem dJO_isReversible_6 : decode bJO_isReversible 6 = .ok (.getfield 9, 3) := by decide +kernel
theorem dJO_isReversible_9 : decode bJO_isReversible 9 = .ok (.if_icmp .ge 13, 3) := by decide +kernel
theorem dJO_isReversible_12 : decode bJO_isReversible 12 = .ok (.aload_n 0, 1) := by decide +kernel
theorem dJO_isReversible_13 : decode bJO_isReversible 13 = .ok (.getfield 19, 3) := by decide +kernel
theorem dJO_isReversible_16 : decode bJO_isReversible 16 = .ok (.iload_n 1, 1) := by decide +kernel
theorem dJO_isReversible_17 : decode bJO_isReversible 17 = .ok (.iaload, 1) := by decide +kernel
theorem dJO_isReversible_18 : decode bJO_isReversible 18 = .ok (.iconst 1, 1) := by decide +kernel
theorem dJO_isReversible_19 : decode bJO_isReversible 19 = .ok (.if_icmp .eq 5, 3) := by decide +kernel
theorem dJO_isReversible_22 : decode bJO_isReversible 22 = .ok (.iconst 0, 1) := by decide +kernel
theorem dJO_isReversible_23 : decode bJO_isReversible 23 = .ok (.ireturn, 1) := by decide +kernel
theorem dJO_isReversible_24 : decode bJO_isReversible 24 = .ok (.iload_n 1, 1) := by decide +kernel
theorem dJO_isReversible_25 : decode bJO_isReversible 25 = .ok (.bipush 6, 2) := by decide +kernel
theorem dJO_isReversible_27 : decode bJO_isReversible 27 = .ok (.imul, 1) := by decide +kernel
theorem dJO_isReversible_28 : decode bJO_isReversible 28 = .ok (.istore_n 2, 1) := by decide +kernel
theorem dJO_isReversible_29 : decode bJO_isReversible 29 = .ok (.iload_n 2, 1) := by decide +kernel
theorem dJO_isReversible_30 : decode bJO_isReversible 30 = .ok (.aload_n 0, 1) := by decide +kernel
theorem dJO_isReversible_31 : decode bJO_isReversible 31 = .ok (.getfield 22, 3) := by decide +kernel
theorem dJO_isReversible_34 : decode bJO_isReversible 34 = .ok (.iload_n 1, 1) := by decide +kernel
theorem dJO_isReversible_35 : decode bJO_isReversible 35 = .ok (.iaload, 1) := by decide +kernel
theorem dJO_isReversible_36 : decode bJO_isReversible 36 = .ok (.iadd, 1) := by decide +kernel
theorem dJO_isReversible_37 : decode bJO_isReversible 37 = .ok (.istore_n 3, 1) := by decide +kernel
theorem dJO_isReversible_38 : decode bJO_isReversible 38 = .ok (.iload_n 2, 1) := by decide +kernel

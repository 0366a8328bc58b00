theorem dJO_isReversible_39 : decode bJO_isReversible 39 = .ok (.istore 4, 2) := by decide +kernel
theorem dJO_isReversible_41 : decode bJO_isReversible 41 = .ok (.iload 4, 2) := by decide +kernel
theorem dJO_isReversible_43 : decode bJO_isReversible 43 = .ok (.iload_n 3, 1) := by decide +kernel
theorem dJO_isReversible_44 : decode bJO_isReversible 44 = .ok (.if_icmp .ge 43, 3) := by decide +kernel
theorem dJO_isReversible_47 : decode bJO_isReversible 47 = .ok (.aload_n 0, 1) := by decide +kernel
theorem dJO_isReversible_48 : decode bJO_isReversible 48 = .ok (.getfield 35, 3) := by decide +kernel
theorem dJO_isReversible_51 : decode bJO_isReversible 51 = .ok (.iload 4, 2) := by decide +kernel
theorem dJO_isReversible_53 : decode bJO_isReversible 53 = .ok (.laload, 1) := by decide +kernel
theorem dJO_isReversible_54 : decode bJO_isReversible 54 = .ok (.ldc2_w 59, 3) := by decide +kernel
theorem dJO_isReversible_57 : decode bJO_isReversible 57 = .ok (.lcmp, 1) := by decide +kernel
theorem dJO_isReversible_58 : decode bJO_isReversible 58 = .ok (.ifCond .eq 23, 3) := by decide +kernel
theorem dJO_isReversible_61 : decode bJO_isReversible 61 = .ok (.aload_n 0, 1) := by decide +kernel
theorem dJO_isReversible_62 : decode bJO_isReversible 62 = .ok (.getfield 35, 3) := by decide +kernel
theorem dJO_isReversible_65 : decode bJO_isReversible 65 = .ok (.iload 4, 2) := by decide +kernel
theorem dJO_isReversible_67 : decode bJO_isReversible 67 = .ok (.laload, 1) := by decide +kernel
theorem dJO_isReversible_68 : decode bJO_isReversible 68 = .ok (.aload_n 0, 1) := by decide +kernel
theorem dJO_isReversible_69 : decode bJO_isReversible 69 = .ok (.getfield 31, 3) := by decide +kernel
theorem dJO_isReversible_72 : decode bJO_isReversible 72 = .ok (.iload 4, 2) := by decide +kernel
theorem dJO_isReversible_74 : decode bJO_isReversible 74 = .ok (.laload, 1) := by decide +kernel
theorem dJO_isReversible_75 : decode bJO_isReversible 75 = .ok (.lcmp, 1) := by decide +kernel
theorem dJO_isReversible_76 : decode bJO_isReversible 76 = .ok (.ifCond .eq 5, 3) := by decide +kernel
theorem dJO_isReversible_79 : decode bJO_isReversible 79 = .ok (.iconst 0, 1) := by decide +kernel
theorem dJO_isReversible_80 : decode bJO_isReversible 80 = .ok (.ireturn, 1) := by decide +kernel
theorem dJO_isReversible_81 : decode bJO_isReversible 81 = .ok (.iinc 4 1, 3) := by decide +kernel
theorem dJO_isReversible_84 : decode bJO_isReversible 84 = .ok (.goto (-43), 3) := by decide +kernel
theorem dJO_isReversible_87 : decode bJO_isReversible 87 = .ok (.iconst 1, 1) := by decide +kernel
theorem dJO_isReversible_88 : decode bJO_isReversible 88 = .ok (.ireturn, 1) := by decide +kernel
theorem dJO_itemAt_0 : decode bJO_itemAt 0 = .ok (.aload_n 0, 1) := by decide +kernel
theorem dJO_itemAt_1 : decode bJO_itemAt 1 = .ok (.getfield 25, 3) := by decide +kernel
theorem dJO_itemAt_4 : decode bJO_itemAt 4 = .ok (.iload_n 1, 1) := by decide +kernel
theorem dJO_itemAt_5 : decode bJO_itemAt 5 = .ok (.bipush 6, 2) := by decide +kernel
theorem dJO_itemAt_7 : decode bJO_itemAt 7 = .ok (.idiv, 1) := by decide +kernel
theorem dJO_itemAt_8 : decode bJO_itemAt 8 = .ok (.iaload, 1) := by decide +kernel
theorem dJO_itemAt_9 : decode bJO_itemAt 9 = .ok (.istore_n 3, 1) := by decide +kernel
theorem dJO_itemAt_10 : decode bJO_itemAt 10 = .ok (.iload_n 1, 1) := by decide +kernel
theorem dJO_itemAt_11 : decode bJO_itemAt 11 = .ok (.bipush 6, 2) := by decide +kernel
theorem dJO_itemAt_13 : decode bJO_itemAt 13 = .ok (.irem, 1) := by decide +kernel
theorem dJO_itemAt_14 : decode bJO_itemAt 14 = .ok (.istore 4, 2) := by decide +kernel
theorem dJO_itemAt_16 : decode bJO_itemAt 16 = .ok (.iload_n 3, 1) := by decide +kernel
theorem dJO_itemAt_17 : decode bJO_itemAt 17 = .ok (.bipush 6, 2) := by decide +kernel
theorem dJO_itemAt_19 : decode bJO_itemAt 19 = .ok (.imul, 1) := by decide +kernel
theorem dJO_itemAt_20 : decode bJO_itemAt 20 = .ok (.iload 4, 2) := by decide +kernel
theorem dJO_itemAt_22 : decode bJO_itemAt 22 = .ok (.iadd, 1) := by decide +kernel
theorem dJO_itemAt_23 : decode bJO_itemAt 23 = .ok (.istore 5, 2) := by decide +kernel
theorem dJO_itemAt_25 : decode bJO_itemAt 25 = .ok (.iload 4, 2) := by decide +kernel
theorem dJO_itemAt_27 : decode bJO_itemAt 27 = .ok (.aload_n 0, 1) := by decide +kernel
theorem dJO_itemAt_28 : decode bJO_itemAt 28 = .ok (.getfield 22, 3) := by decide +kernel
theorem dJO_itemAt_31 : decode bJO_itemAt 31 = .ok (.iload_n 3, 1) := by decide +kernel
theorem dJO_itemAt_32 : decode bJO_itemAt 32 = .ok (.iaload, 1) := by decide +kernel
theorem dJO_itemAt_33 : decode bJO_itemAt 33 = .ok (.if_icmp .ge 14, 3) := by decide +kernel
theorem dJO_itemAt_36 : decode bJO_itemAt 36 = .ok (.aload_n 0, 1) := by decide +kernel
theorem dJO_itemAt_37 : decode bJO_itemAt 37 = .ok (.getfield 28, 3) := by decide +kernel
theorem dJO_itemAt_40 : decode bJO_itemAt 40 = .ok (.iload 5, 2) := by decide +kernel
theorem dJO_itemAt_42 : decode bJO_itemAt 42 = .ok (.iaload, 1) := by decide +kernel
theorem dJO_itemAt_43 : decode bJO_itemAt 43 = .ok (.iload_n 2, 1) := by decide +kernel
theorem dJO_itemAt_44 : decode bJO_itemAt 44 = .ok (.if_icmp .eq 5, 3) := by decide +kernel
theorem dJO_itemAt_47 : decode bJO_itemAt 47 = .ok (.iconst (-1), 1) := by decide +kernel
theorem dJO_itemAt_48 : decode bJO_itemAt 48 = .ok (.ireturn, 1) := by decide +kernel
theorem dJO_itemAt_49 : decode bJO_itemAt 49 = .ok (.aload_n 0, 1) := by decide +kernel
theorem dJO_itemAt_50 : decode bJO_itemAt 50 = .ok (.getfield 35, 3) := by decide +kernel
theorem dJO_itemAt_53 : decode bJO_itemAt 53 = .ok (.iload 5, 2) := by decide +kernel
theorem dJO_itemAt_55 : decode bJO_itemAt 55 = .ok (.laload, 1) := by decide +kernel
theorem dJO_itemAt_56 : decode bJO_itemAt 56 = .ok (.ldc2_w 59, 3) := by decide +kernel
theorem dJO_itemAt_59 : decode bJO_itemAt 59 = .ok (.lcmp, 1) := by decide +kernel
theorem dJO_itemAt_60 : decode bJO_itemAt 60 = .ok (.ifCond .ne 7, 3) := by decide +kernel
theorem dJO_itemAt_63 : decode bJO_itemAt 63 = .ok (.iconst (-1), 1) := by decide +kernel
theorem dJO_itemAt_64 : decode bJO_itemAt 64 = .ok (.goto 5, 3) := by decide +kernel
theorem dJO_itemAt_67 : decode bJO_itemAt 67 = .ok (.iload 5, 2) := by decide +kernel
theorem dJO_itemAt_69 : decode bJO_itemAt 69 = .ok (.ireturn, 1) := by decide +kernel
theorem dJO_itemOf_0 : decode bJO_itemOf 0 = .ok (.iconst 0, 1) := by decide +kernel
theorem dJO_itemOf_1 : decode bJO_itemOf 1 = .ok (.istore_n 3, 1) := by decide +kernel
theorem dJO_itemOf_2 : decode bJO_itemOf 2 = .ok (.aload_n 0, 1) := by decide +kernel
theorem dJO_itemOf_3 : decode bJO_itemOf 3 = .ok (.getfield 9, 3) := by decide +kernel
theorem dJO_itemOf_6 : decode bJO_itemOf 6 = .ok (.bipush 6, 2) := by decide +kernel
theorem dJO_itemOf_8 : decode bJO_itemOf 8 = .ok (.imul, 1) := by decide +kernel
theorem dJO_itemOf_9 : decode bJO_itemOf 9 = .ok (.istore 4, 2) := by decide +kernel
theorem dJO_itemOf_11 : decode bJO_itemOf 11 = .ok (.iconst 0, 1) := by decide +kernel
theorem dJO_itemOf_12 : decode bJO_itemOf 12 = .ok (.istore 5, 2) := by decide +kernel
theorem dJO_itemOf_14 : decode bJO_itemOf 14 = .ok (.iload 5, 2) := by decide +kernel
theorem dJO_itemOf_16 : decode bJO_itemOf 16 = .ok (.iload 4, 2) := by decide +kernel
theorem dJO_itemOf_18 : decode bJO_itemOf 18 = .ok (.if_icmp .ge 35, 3) := by decide +kernel
theorem dJO_itemOf_21 : decode bJO_itemOf 21 = .ok (.aload_n 0, 1) := by decide +kernel
theorem dJO_itemOf_22 : decode bJO_itemOf 22 = .ok (.iload 5, 2) := by decide +kernel
theorem dJO_itemOf_24 : decode bJO_itemOf 24 = .ok (.iload_n 1, 1) := by decide +kernel
theorem dJO_itemOf_25 : decode bJO_itemOf 25 = .ok (.invokevirtual 73, 3) := by decide +kernel
theorem dJO_itemOf_28 : decode bJO_itemOf 28 = .ok (.istore 6, 2) := by decide +kernel
theorem dJO_itemOf_30 : decode bJO_itemOf 30 = .ok (.iload 6, 2) := by decide +kernel
theorem dJO_itemOf_32 : decode bJO_itemOf 32 = .ok (.iconst (-1), 1) := by decide +kernel
theorem dJO_itemOf_33 : decode bJO_itemOf 33 = .ok (.if_icmp .eq 14, 3) := by decide +kernel
theorem dJO_itemOf_36 : decode bJO_itemOf 36 = .ok (.iload_n 3, 1) := by decide +kernel
theorem dJO_itemOf_37 : decode bJO_itemOf 37 = .ok (.iload_n 2, 1) := by decide +kernel
theorem dJO_itemOf_38 : decode bJO_itemOf 38 = .ok (.if_icmp .ne 6, 3) := by decide +kernel
theorem dJO_itemOf_41 : decode bJO_itemOf 41 = .ok (.iload 6, 2) := by decide +kernel
theorem dJO_itemOf_43 : decode bJO_itemOf 43 = .ok (.ireturn, 1) := by decide +kernel
theorem dJO_itemOf_44 : decode bJO_itemOf 44 = .ok (.iinc 3 1, 3) := by decide +kernel
theorem dJO_itemOf_47 : decode bJO_itemOf 47 = .ok (.iinc 5 1, 3) := by decide +kernel
theorem dJO_itemOf_50 : decode bJO_itemOf 50 = .ok (.goto (-36), 3) := by decide +kernel
theorem dJO_itemOf_53 : decode bJO_itemOf 53 = .ok (.iconst (-1), 1) := by decide +kernel
theorem dJO_itemOf_54 : decode bJO_itemOf 54 = .ok (.ireturn, 1) := by decide +kernel
theorem dJO_keepGift_0 : decode bJO_keepGift 0 = .ok (.aload_n 0, 1) := by decide +kernel
theorem dJO_keepGift_1 : decode bJO_keepGift 1 = .ok (.getfield 38, 3) := by decide +kernel
theorem dJO_keepGift_4 : decode bJO_keepGift 4 = .ok (.sipush 280, 3) := by decide +kernel
theorem dJO_keepGift_7 : decode bJO_keepGift 7 = .ok (.if_icmp .ge 33, 3) := by decide +kernel
theorem dJO_keepGift_10 : decode bJO_keepGift 10 = .ok (.aload_n 0, 1) := by decide +kernel
theorem dJO_keepGift_11 : decode bJO_keepGift 11 = .ok (.getfield 41, 3) := by decide +kernel
theorem dJO_keepGift_14 : decode bJO_keepGift 14 = .ok (.aload_n 0, 1) := by decide +kernel
theorem dJO_keepGift_15 : decode bJO_keepGift 15 = .ok (.getfield 38, 3) := by decide +kernel
theorem dJO_keepGift_18 : decode bJO_keepGift 18 = .ok (.iload_n 1, 1) := by decide +kernel
theorem dJO_keepGift_19 : decode bJO_keepGift 19 = .ok (.iastore, 1) := by decide +kernel
theorem dJO_keepGift_20 : decode bJO_keepGift 20 = .ok (.aload_n 0, 1) := by decide +kernel
theorem dJO_keepGift_21 : decode bJO_keepGift 21 = .ok (.getfield 44, 3) := by decide +kernel
theorem dJO_keepGift_24 : decode bJO_keepGift 24 = .ok (.aload_n 0, 1) := by decide +kernel
theorem dJO_keepGift_25 : decode bJO_keepGift 25 = .ok (.getfield 38, 3) := by decide +kernel
theorem dJO_keepGift_28 : decode bJO_keepGift 28 = .ok (.iload_n 2, 1) := by decide +kernel
theorem dJO_keepGift_29 : decode bJO_keepGift 29 = .ok (.iastore, 1) := by decide +kernel
theorem dJO_keepGift_30 : decode bJO_keepGift 30 = .ok (.aload_n 0, 1) := by decide +kernel
theorem dJO_keepGift_31 : decode bJO_keepGift 31 = .ok (.dup, 1) := by decide +kernel
theorem dJO_keepGift_32 : decode bJO_keepGift 32 = .ok (.getfield 38, 3) := by decide +kernel
theorem dJO_keepGift_35 : decode bJO_keepGift 35 = .ok (.iconst 1, 1) := by decide +kernel
theorem dJO_keepGift_36 : decode bJO_keepGift 36 = .ok (.iadd, 1) := by decide +kernel
theorem dJO_keepGift_37 : decode bJO_keepGift 37 = .ok (.putfield 38, 3) := by decide +kernel
theorem dJO_keepGift_40 : decode bJO_keepGift 40 = .ok (.return_, 1) := by decide +kernel
theorem dJO_payItems_0 : decode bJO_payItems 0 = .ok (.lload_n 3, 1) := by decide +kernel
theorem dJO_payItems_1 : decode bJO_payItems 1 = .ok (.lstore 5, 2) := by decide +kernel
theorem dJO_payItems_3 : decode bJO_payItems 3 = .ok (.aload_n 0, 1) := by decide +kernel
theorem dJO_payItems_4 : decode bJO_payItems 4 = .ok (.getfield 9, 3) := by decide +kernel
theorem dJO_payItems_7 : decode bJO_payItems 7 = .ok (.bipush 6, 2) := by decide +kernel
theorem dJO_payItems_9 : decode bJO_payItems 9 = .ok (.imul, 1) := by decide +kernel
theorem dJO_payItems_10 : decode bJO_payItems 10 = .ok (.istore 7, 2) := by decide +kernel
theorem dJO_payItems_12 : decode bJO_payItems 12 = .ok (.iconst 0, 1) := by decide +kernel
theorem dJO_payItems_13 : decode bJO_payItems 13 = .ok (.istore 8, 2) := by decide +kernel
theorem dJO_payItems_15 : decode bJO_payItems 15 = .ok (.iload 8, 2) := by decide +kernel
theorem dJO_payItems_17 : decode bJO_payItems 17 = .ok (.iload 7, 2) := by decide +kernel
theorem dJO_payItems_19 : decode bJO_payItems 19 = .ok (.if_icmp .ge 83, 3) := by decide +kernel
theorem dJO_payItems_22 : decode bJO_payItems 22 = .ok (.lload 5, 2) := by decide +kernel
theorem dJO_payItems_24 : decode bJO_payItems 24 = .ok (.lconst 0, 1) := by decide +kernel
theorem dJO_payItems_25 : decode bJO_payItems 25 = .ok (.lcmp, 1) := by decide +kernel
theorem dJO_payItems_26 : decode bJO_payItems 26 = .ok (.ifCond .le 76, 3) := by decide +kernel
theorem dJO_payItems_29 : decode bJO_payItems 29 = .ok (.aload_n 0, 1) := by decide +kernel
theorem dJO_payItems_30 : decode bJO_payItems 30 = .ok (.iload 8, 2) := by decide +kernel
theorem dJO_payItems_32 : decode bJO_payItems 32 = .ok (.iload_n 2, 1) := by decide +kernel
theorem dJO_payItems_33 : decode bJO_payItems 33 = .ok (.invokevirtual 73, 3) := by decide +kernel
theorem dJO_payItems_36 : decode bJO_payItems 36 = .ok (.istore 9, 2) := by decide +kernel
theorem dJO_payItems_38 : decode bJO_payItems 38 = .ok (.iload 9, 2) := by decide +kernel
theorem dJO_payItems_40 : decode bJO_payItems 40 = .ok (.iconst (-1), 1) := by decide +kernel
theorem dJO_payItems_41 : decode bJO_payItems 41 = .ok (.if_icmp .eq 55, 3) := by decide +kernel
theorem dJO_payItems_44 : decode bJO_payItems 44 = .ok (.aload_n 0, 1) := by decide +kernel
theorem dJO_payItems_45 : decode bJO_payItems 45 = .ok (.getfield 35, 3) := by decide +kernel
theorem dJO_payItems_48 : decode bJO_payItems 48 = .ok (.iload 9, 2) := by decide +kernel
theorem dJO_payItems_50 : decode bJO_payItems 50 = .ok (.laload, 1) := by decide +kernel
theorem dJO_payItems_51 : decode bJO_payItems 51 = .ok (.lconst 0, 1) := by decide +kernel
theorem dJO_payItems_52 : decode bJO_payItems 52 = .ok (.lcmp, 1) := by decide +kernel
theorem dJO_payItems_53 : decode bJO_payItems 53 = .ok (.ifCond .le 43, 3) := by decide +kernel
theorem dJO_payItems_56 : decode bJO_payItems 56 = .ok (.lload 5, 2) := by decide +kernel
theorem dJO_payItems_58 : decode bJO_payItems 58 = .ok (.aload_n 0, 1) := by decide +kernel
theorem dJO_payItems_59 : decode bJO_payItems 59 = .ok (.getfield 35, 3) := by decide +kernel
theorem dJO_payItems_62 : decode bJO_payItems 62 = .ok (.iload 9, 2) := by decide +kernel
theorem dJO_payItems_64 : decode bJO_payItems 64 = .ok (.laload, 1) := by decide +kernel
theorem dJO_payItems_65 : decode bJO_payItems 65 = .ok (.invokestatic 77, 3) := by decide +kernel
theorem dJO_payItems_68 : decode bJO_payItems 68 = .ok (.lstore 10, 2) := by decide +kernel
theorem dJO_payItems_70 : decode bJO_payItems 70 = .ok (.aload_n 0, 1) := by decide +kernel
theorem dJO_payItems_71 : decode bJO_payItems 71 = .ok (.getfield 35, 3) := by decide +kernel
theorem dJO_payItems_74 : decode bJO_payItems 74 = .ok (.iload 9, 2) := by decide +kernel
theorem dJO_payItems_76 : decode bJO_payItems 76 = .ok (.dup2, 1) := by decide +kernel
theorem dJO_payItems_77 : decode bJO_payItems 77 = .ok (.laload, 1) := by decide +kernel
theorem dJO_payItems_78 : decode bJO_payItems 78 = .ok (.lload 10, 2) := by decide +kernel
theorem dJO_payItems_80 : decode bJO_payItems 80 = .ok (.lsub, 1) := by decide +kernel
theorem dJO_payItems_81 : decode bJO_payItems 81 = .ok (.lastore, 1) := by decide +kernel
theorem dJO_payItems_82 : decode bJO_payItems 82 = .ok (.lload 5, 2) := by decide +kernel
theorem dJO_payItems_84 : decode bJO_payItems 84 = .ok (.lload 10, 2) := by decide +kernel
theorem dJO_payItems_86 : decode bJO_payItems 86 = .ok (.lsub, 1) := by decide +kernel
theorem dJO_payItems_87 : decode bJO_payItems 87 = .ok (.lstore 5, 2) := by decide +kernel
theorem dJO_payItems_89 : decode bJO_payItems 89 = .ok (.aload_n 0, 1) := by decide +kernel
theorem dJO_payItems_90 : decode bJO_payItems 90 = .ok (.iload_n 1, 1) := by decide +kernel
theorem dJO_payItems_91 : decode bJO_payItems 91 = .ok (.iload 9, 2) := by decide +kernel
theorem dJO_payItems_93 : decode bJO_payItems 93 = .ok (.invokevirtual 83, 3) := by decide +kernel
theorem dJO_payItems_96 : decode bJO_payItems 96 = .ok (.iinc 8 1, 3) := by decide +kernel
theorem dJO_payItems_99 : decode bJO_payItems 99 = .ok (.goto (-84), 3) := by decide +kernel
theorem dJO_payItems_102 : decode bJO_payItems 102 = .ok (.return_, 1) := by decide +kernel
theorem dJO_sumIn_0 : decode bJO_sumIn 0 = .ok (.lconst 0, 1) := by decide +kernel
theorem dJO_sumIn_1 : decode bJO_sumIn 1 = .ok (.lstore_n 3, 1) := by decide +kernel
theorem dJO_sumIn_2 : decode bJO_sumIn 2 = .ok (.aload_n 0, 1) := by decide +kernel
theorem dJO_sumIn_3 : decode bJO_sumIn 3 = .ok (.getfield 9, 3) := by decide +kernel
theorem dJO_sumIn_6 : decode bJO_sumIn 6 = .ok (.bipush 6, 2) := by decide +kernel
theorem dJO_sumIn_8 : decode bJO_sumIn 8 = .ok (.imul, 1) := by decide +kernel
theorem dJO_sumIn_9 : decode bJO_sumIn 9 = .ok (.istore 5, 2) := by decide +kernel
theorem dJO_sumIn_11 : decode bJO_sumIn 11 = .ok (.iconst 0, 1) := by decide +kernel
theorem dJO_sumIn_12 : decode bJO_sumIn 12 = .ok (.istore 6, 2) := by decide +kernel
theorem dJO_sumIn_14 : decode bJO_sumIn 14 = .ok (.iload 6, 2) := by decide +kernel
theorem dJO_sumIn_16 : decode bJO_sumIn 16 = .ok (.iload 5, 2) := by decide +kernel
theorem dJO_sumIn_18 : decode bJO_sumIn 18 = .ok (.if_icmp .ge 30, 3) := by decide +kernel
theorem dJO_sumIn_21 : decode bJO_sumIn 21 = .ok (.aload_n 0, 1) := by decide +kernel
theorem dJO_sumIn_22 : decode bJO_sumIn 22 = .ok (.iload 6, 2) := by decide +kernel
theorem dJO_sumIn_24 : decode bJO_sumIn 24 = .ok (.iload_n 1, 1) := by decide +kernel
theorem dJO_sumIn_25 : decode bJO_sumIn 25 = .ok (.iload_n 2, 1) := by decide +kernel
theorem dJO_sumIn_26 : decode bJO_sumIn 26 = .ok (.invokevirtual 65, 3) := by decide +kernel
theorem dJO_sumIn_29 : decode bJO_sumIn 29 = .ok (.ifCond .eq 13, 3) := by decide +kernel
theorem dJO_sumIn_32 : decode bJO_sumIn 32 = .ok (.lload_n 3, 1) := by decide +kernel
theorem dJO_sumIn_33 : decode bJO_sumIn 33 = .ok (.aload_n 0, 1) := by decide +kernel
theorem dJO_sumIn_34 : decode bJO_sumIn 34 = .ok (.getfield 31, 3) := by decide +kernel
theorem dJO_sumIn_37 : decode bJO_sumIn 37 = .ok (.iload 6, 2) := by decide +kernel
theorem dJO_sumIn_39 : decode bJO_sumIn 39 = .ok (.laload, 1) := by decide +kernel
theorem dJO_sumIn_40 : decode bJO_sumIn 40 = .ok (.ladd, 1) := by decide +kernel
theorem dJO_sumIn_41 : decode bJO_sumIn 41 = .ok (.lstore_n 3, 1) := by decide +kernel
theorem dJO_sumIn_42 : decode bJO_sumIn 42 = .ok (.iinc 6 1, 3) := by decide +kernel
theorem dJO_sumIn_45 : decode bJO_sumIn 45 = .ok (.goto (-31), 3) := by decide +kernel
theorem dJO_sumIn_48 : decode bJO_sumIn 48 = .ok (.lload_n 3, 1) := by decide +kernel
theorem dJO_sumIn_49 : decode bJO_sumIn 49 = .ok (.lreturn, 1) := by decide +kernel
theorem dJO_sumOf_0 : decode bJO_sumOf 0 = .ok (.lconst 0, 1) := by decide +kernel
theorem dJO_sumOf_1 : decode bJO_sumOf 1 = .ok (.lstore_n 2, 1) := by decide +kernel
theorem dJO_sumOf_2 : decode bJO_sumOf 2 = .ok (.iload_n 1, 1) := by decide +kernel
theorem dJO_sumOf_3 : decode bJO_sumOf 3 = .ok (.bipush 6, 2) := by decide +kernel
theorem dJO_sumOf_5 : decode bJO_sumOf 5 = .ok (.imul, 1) := by decide +kernel
theorem dJO_sumOf_6 : decode bJO_sumOf 6 = .ok (.istore 4, 2) := by decide +kernel
theorem dJO_sumOf_8 : decode bJO_sumOf 8 = .ok (.iload 4, 2) := by decide +kernel
theorem dJO_sumOf_10 : decode bJO_sumOf 10 = .ok (.aload_n 0, 1) := by decide +kernel
theorem dJO_sumOf_11 : decode bJO_sumOf 11 = .ok (.getfield 22, 3) := by decide +kernel
theorem dJO_sumOf_14 : decode bJO_sumOf 14 = .ok (.iload_n 1, 1) := by decide +kernel
theorem dJO_sumOf_15 : decode bJO_sumOf 15 = .ok (.iaload, 1) := by decide +kernel
theorem dJO_sumOf_16 : decode bJO_sumOf 16 = .ok (.iadd, 1) := by decide +kernel
theorem dJO_sumOf_17 : decode bJO_sumOf 17 = .ok (.istore 5, 2) := by decide +kernel
theorem dJO_sumOf_19 : decode bJO_sumOf 19 = .ok (.iload 4, 2) := by decide +kernel
theorem dJO_sumOf_21 : decode bJO_sumOf 21 = .ok (.istore 6, 2) := by decide +kernel
theorem dJO_sumOf_23 : decode bJO_sumOf 23 = .ok (.iload 6, 2) := by decide +kernel
theorem dJO_sumOf_25 : decode bJO_sumOf 25 = .ok (.iload 5, 2) := by decide +kernel
theorem dJO_sumOf_27 : decode bJO_sumOf 27 = .ok (.if_icmp .ge 19, 3) := by decide +kernel
theorem dJO_sumOf_30 : decode bJO_sumOf 30 = .ok (.lload_n 2, 1) := by decide +kernel
theorem dJO_sumOf_31 : decode bJO_sumOf 31 = .ok (.aload_n 0, 1) := by decide +kernel
theorem dJO_sumOf_32 : decode bJO_sumOf 32 = .ok (.getfield 31, 3) := by decide +kernel
theorem dJO_sumOf_35 : decode bJO_sumOf 35 = .ok (.iload 6, 2) := by decide +kernel
theorem dJO_sumOf_37 : decode bJO_sumOf 37 = .ok (.laload, 1) := by decide +kernel
theorem dJO_sumOf_38 : decode bJO_sumOf 38 = .ok (.ladd, 1) := by decide +kernel
theorem dJO_sumOf_39 : decode bJO_sumOf 39 = .ok (.lstore_n 2, 1) := by decide +kernel
theorem dJO_sumOf_40 : decode bJO_sumOf 40 = .ok (.iinc 6 1, 3) := by decide +kernel
theorem dJO_sumOf_43 : decode bJO_sumOf 43 = .ok (.goto (-20), 3) := by decide +kernel
theorem dJO_sumOf_46 : decode bJO_sumOf 46 = .ok (.lload_n 2, 1) := by decide +kernel
theorem dJO_sumOf_47 : decode bJO_sumOf 47 = .ok (.lreturn, 1) := by decide +kernel
theorem dJO_sumUntil_0 : decode bJO_sumUntil 0 = .ok (.lconst 0, 1) := by decide +kernel
theorem dJO_sumUntil_1 : decode bJO_sumUntil 1 = .ok (.lstore_n 3, 1) := by decide +kernel
theorem dJO_sumUntil_2 : decode bJO_sumUntil 2 = .ok (.aload_n 0, 1) := by decide +kernel
theorem dJO_sumUntil_3 : decode bJO_sumUntil 3 = .ok (.getfield 9, 3) := by decide +kernel
theorem dJO_sumUntil_6 : decode bJO_sumUntil 6 = .ok (.bipush 6, 2) := by decide +kernel
theorem dJO_sumUntil_8 : decode bJO_sumUntil 8 = .ok (.imul, 1) := by decide +kernel
theorem dJO_sumUntil_9 : decode bJO_sumUntil 9 = .ok (.istore 5, 2) := by decide +kernel
theorem dJO_sumUntil_11 : decode bJO_sumUntil 11 = .ok (.iconst 0, 1) := by decide +kernel
theorem dJO_sumUntil_12 : decode bJO_sumUntil 12 = .ok (.istore 6, 2) := by decide +kernel
theorem dJO_sumUntil_14 : decode bJO_sumUntil 14 = .ok (.iload 6, 2) := by decide +kernel
theorem dJO_sumUntil_16 : decode bJO_sumUntil 16 = .ok (.iload 5, 2) := by decide +kernel
theorem dJO_sumUntil_18 : decode bJO_sumUntil 18 = .ok (.if_icmp .ge 43, 3) := by decide +kernel
theorem dJO_sumUntil_21 : decode bJO_sumUntil 21 = .ok (.aload_n 0, 1) := by decide +kernel
theorem dJO_sumUntil_22 : decode bJO_sumUntil 22 = .ok (.getfield 15, 3) := by decide +kernel
theorem dJO_sumUntil_25 : decode bJO_sumUntil 25 = .ok (.iload 6, 2) := by decide +kernel
theorem dJO_sumUntil_27 : decode bJO_sumUntil 27 = .ok (.bipush 6, 2) := by decide +kernel
theorem dJO_sumUntil_29 : decode bJO_sumUntil 29 = .ok (.idiv, 1) := by decide +kernel
theorem dJO_sumUntil_30 : decode bJO_sumUntil 30 = .ok (.iaload, 1) := by decide +kernel
theorem dJO_sumUntil_31 : decode bJO_sumUntil 31 = .ok (.iload_n 2, 1) := by decide +kernel
theorem dJO_sumUntil_32 : decode bJO_sumUntil 32 = .ok (.if_icmp .gt 23, 3) := by decide +kernel
theorem dJO_sumUntil_35 : decode bJO_sumUntil 35 = .ok (.aload_n 0, 1) := by decide +kernel
theorem dJO_sumUntil_36 : decode bJO_sumUntil 36 = .ok (.iload 6, 2) := by decide +kernel
theorem dJO_sumUntil_38 : decode bJO_sumUntil 38 = .ok (.iload_n 1, 1) := by decide +kernel
theorem dJO_sumUntil_39 : decode bJO_sumUntil 39 = .ok (.invokevirtual 61, 3) := by decide +kernel
theorem dJO_sumUntil_42 : decode bJO_sumUntil 42 = .ok (.ifCond .eq 13, 3) := by decide +kernel
theorem dJO_sumUntil_45 : decode bJO_sumUntil 45 = .ok (.lload_n 3, 1) := by decide +kernel
theorem dJO_sumUntil_46 : decode bJO_sumUntil 46 = .ok (.aload_n 0, 1) := by decide +kernel
theorem dJO_sumUntil_47 : decode bJO_sumUntil 47 = .ok (.getfield 31, 3) := by decide +kernel
theorem dJO_sumUntil_50 : decode bJO_sumUntil 50 = .ok (.iload 6, 2) := by decide +kernel
theorem dJO_sumUntil_52 : decode bJO_sumUntil 52 = .ok (.laload, 1) := by decide +kernel
theorem dJO_sumUntil_53 : decode bJO_sumUntil 53 = .ok (.ladd, 1) := by decide +kernel
theorem dJO_sumUntil_54 : decode bJO_sumUntil 54 = .ok (.lstore_n 3, 1) := by decide +kernel
theorem dJO_sumUntil_55 : decode bJO_sumUntil 55 = .ok (.iinc 6 1, 3) := by decide +kernel
theorem dJO_sumUntil_58 : decode bJO_sumUntil 58 = .ok (.goto (-44), 3) := by decide +kernel
theorem dJO_sumUntil_61 : decode bJO_sumUntil 61 = .ok (.lload_n 3, 1) := by decide +kernel
theorem dJO_sumUntil_62 : decode bJO_sumUntil 62 = .ok (.lreturn, 1) := by decide +kernel
theorem dJO_told_0 : decode bJO_told 0 = .ok (.iload_n 0, 1) := by decide +kernel
theorem dJO_told_1 : decode bJO_told 1 = .ok (.bipush 6, 2) := by decide +kernel
theorem dJO_told_3 : decode bJO_told 3 = .ok (.idiv, 1) := by decide +kernel
theorem dJO_told_4 : decode bJO_told 4 = .ok (.bipush 10, 2) := by decide +kernel
theorem dJO_told_6 : decode bJO_told 6 = .ok (.imul, 1) := by decide +kernel
theorem dJO_told_7 : decode bJO_told 7 = .ok (.iload_n 0, 1) := by decide +kernel
theorem dJO_told_8 : decode bJO_told 8 = .ok (.bipush 6, 2) := by decide +kernel
theorem dJO_told_10 : decode bJO_told 10 = .ok (.irem, 1) := by decide +kernel
theorem dJO_told_11 : decode bJO_told 11 = .ok (.iadd, 1) := by decide +kernel
theorem dJO_told_12 : decode bJO_told 12 = .ok (.ireturn, 1) := by decide +kernel
theorem dJO_toldGift_0 : decode bJO_toldGift 0 = .ok (.iconst 0, 1) := by decide +kernel
theorem dJO_toldGift_1 : decode bJO_toldGift 1 = .ok (.istore_n 3, 1) := by decide +kernel
theorem dJO_toldGift_2 : decode bJO_toldGift 2 = .ok (.iconst 0, 1) := by decide +kernel
theorem dJO_toldGift_3 : decode bJO_toldGift 3 = .ok (.istore 4, 2) := by decide +kernel
theorem dJO_toldGift_5 : decode bJO_toldGift 5 = .ok (.iload 4, 2) := by decide +kernel
theorem dJO_toldGift_7 : decode bJO_toldGift 7 = .ok (.aload_n 0, 1) := by decide +kernel
theorem dJO_toldGift_8 : decode bJO_toldGift 8 = .ok (.getfield 38, 3) := by decide +kernel
theorem dJO_toldGift_11 : decode bJO_toldGift 11 = .ok (.if_icmp .ge 39, 3) := by decide +kernel
theorem dJO_toldGift_14 : decode bJO_toldGift 14 = .ok (.aload_n 0, 1) := by decide +kernel
theorem dJO_toldGift_15 : decode bJO_toldGift 15 = .ok (.getfield 41, 3) := by decide +kernel
theorem dJO_toldGift_18 : decode bJO_toldGift 18 = .ok (.iload 4, 2) := by decide +kernel
theorem dJO_toldGift_20 : decode bJO_toldGift 20 = .ok (.iaload, 1) := by decide +kernel
theorem dJO_toldGift_21 : decode bJO_toldGift 21 = .ok (.iload_n 1, 1) := by decide +kernel
theorem dJO_toldGift_22 : decode bJO_toldGift 22 = .ok (.if_icmp .ne 22, 3) := by decide +kernel
theorem dJO_toldGift_25 : decode bJO_toldGift 25 = .ok (.iload_n 3, 1) := by decide +kernel
theorem dJO_toldGift_26 : decode bJO_toldGift 26 = .ok (.iload_n 2, 1) := by decide +kernel
theorem dJO_toldGift_27 : decode bJO_toldGift 27 = .ok (.if_icmp .ne 14, 3) := by decide +kernel
theorem dJO_toldGift_30 : decode bJO_toldGift 30 = .ok (.aload_n 0, 1) := by decide +kernel
theorem dJO_toldGift_31 : decode bJO_toldGift 31 = .ok (.getfield 44, 3) := by decide +kernel
theorem dJO_toldGift_34 : decode bJO_toldGift 34 = .ok (.iload 4, 2) := by decide +kernel
theorem dJO_toldGift_36 : decode bJO_toldGift 36 = .ok (.iaload, 1) := by decide +kernel
theorem dJO_toldGift_37 : decode bJO_toldGift 37 = .ok (.invokestatic 69, 3) := by decide +kernel
theorem dJO_toldGift_40 : decode bJO_toldGift 40 = .ok (.ireturn, 1) := by decide +kernel
theorem dJO_toldGift_41 : decode bJO_toldGift 41 = .ok (.iinc 3 1, 3) := by decide +kernel
theorem dJO_toldGift_44 : decode bJO_toldGift 44 = .ok (.iinc 4 1, 3) := by decide +kernel
theorem dJO_toldGift_47 : decode bJO_toldGift 47 = .ok (.goto (-42), 3) := by decide +kernel
theorem dJO_toldGift_50 : decode bJO_toldGift 50 = .ok (.iconst (-1), 1) := by decide +kernel
theorem dJO_toldGift_51 : decode bJO_toldGift 51 = .ok (.ireturn, 1) := by decide +kernel
theorem dJO_toldRow_0 : decode bJO_toldRow 0 = .ok (.iconst 0, 1) := by decide +kernel
theorem dJO_toldRow_1 : decode bJO_toldRow 1 = .ok (.istore 4, 2) := by decide +kernel
theorem dJO_toldRow_3 : decode bJO_toldRow 3 = .ok (.aload_n 0, 1) := by decide +kernel
theorem dJO_toldRow_4 : decode bJO_toldRow 4 = .ok (.getfield 9, 3) := by decide +kernel
theorem dJO_toldRow_7 : decode bJO_toldRow 7 = .ok (.bipush 6, 2) := by decide +kernel
theorem dJO_toldRow_9 : decode bJO_toldRow 9 = .ok (.imul, 1) := by decide +kernel
theorem dJO_toldRow_10 : decode bJO_toldRow 10 = .ok (.istore 5, 2) := by decide +kernel
theorem dJO_toldRow_12 : decode bJO_toldRow 12 = .ok (.iconst 0, 1) := by decide +kernel
theorem dJO_toldRow_13 : decode bJO_toldRow 13 = .ok (.istore 6, 2) := by decide +kernel
theorem dJO_toldRow_15 : decode bJO_toldRow 15 = .ok (.iload 6, 2) := by decide +kernel
theorem dJO_toldRow_17 : decode bJO_toldRow 17 = .ok (.iload 5, 2) := by decide +kernel
theorem dJO_toldRow_19 : decode bJO_toldRow 19 = .ok (.if_icmp .ge 35, 3) := by decide +kernel
theorem dJO_toldRow_22 : decode bJO_toldRow 22 = .ok (.aload_n 0, 1) := by decide +kernel
theorem dJO_toldRow_23 : decode bJO_toldRow 23 = .ok (.iload 6, 2) := by decide +kernel
theorem dJO_toldRow_25 : decode bJO_toldRow 25 = .ok (.iload_n 1, 1) := by decide +kernel
theorem dJO_toldRow_26 : decode bJO_toldRow 26 = .ok (.iload_n 2, 1) := by decide +kernel
theorem dJO_toldRow_27 : decode bJO_toldRow 27 = .ok (.invokevirtual 65, 3) := by decide +kernel
theorem dJO_toldRow_30 : decode bJO_toldRow 30 = .ok (.ifCond .eq 18, 3) := by decide +kernel
theorem dJO_toldRow_33 : decode bJO_toldRow 33 = .ok (.iload 4, 2) := by decide +kernel
theorem dJO_toldRow_35 : decode bJO_toldRow 35 = .ok (.iload_n 3, 1) := by decide +kernel
theorem dJO_toldRow_36 : decode bJO_toldRow 36 = .ok (.if_icmp .ne 9, 3) := by decide +kernel
theorem dJO_toldRow_39 : decode bJO_toldRow 39 = .ok (.iload 6, 2) := by decide +kernel
theorem dJO_toldRow_41 : decode bJO_toldRow 41 = .ok (.invokestatic 69, 3) := by decide +kernel
theorem dJO_toldRow_44 : decode bJO_toldRow 44 = .ok (.ireturn, 1) := by decide +kernel
theorem dJO_toldRow_45 : decode bJO_toldRow 45 = .ok (.iinc 4 1, 3) := by decide +kernel
theorem dJO_toldRow_48 : decode bJO_toldRow 48 = .ok (.iinc 6 1, 3) := by decide +kernel
theorem dJO_toldRow_51 : decode bJO_toldRow 51 = .ok (.goto (-36), 3) := by decide +kernel
theorem dJO_toldRow_54 : decode bJO_toldRow 54 = .ok (.iconst (-1), 1) := by decide +kernel
theorem dJO_toldRow_55 : decode bJO_toldRow 55 = .ok (.ireturn, 1) := by decide +kernel
theorem dJO_turnRows_0 : decode bJO_turnRows 0 = .ok (.iload_n 1, 1) := by decide +kernel
theorem dJO_turnRows_1 : decode bJO_turnRows 1 = .ok (.bipush 6, 2) := by decide +kernel
theorem dJO_turnRows_3 : decode bJO_turnRows 3 = .ok (.imul, 1) := by decide +kernel
theorem dJO_turnRows_4 : decode bJO_turnRows 4 = .ok (.istore_n 3, 1) := by decide +kernel
theorem dJO_turnRows_5 : decode bJO_turnRows 5 = .ok (.iload_n 3, 1) := by decide +kernel
theorem dJO_turnRows_6 : decode bJO_turnRows 6 = .ok (.aload_n 0, 1) := by decide +kernel
theorem dJO_turnRows_7 : decode bJO_turnRows 7 = .ok (.getfield 22, 3) := by decide +kernel
theorem dJO_turnRows_10 : decode bJO_turnRows 10 = .ok (.iload_n 1, 1) := by decide +kernel
theorem dJO_turnRows_11 : decode bJO_turnRows 11 = .ok (.iaload, 1) := by decide +kernel
theorem dJO_turnRows_12 : decode bJO_turnRows 12 = .ok (.iadd, 1) := by decide +kernel
theorem dJO_turnRows_13 : decode bJO_turnRows 13 = .ok (.istore 4, 2) := by decide +kernel
theorem dJO_turnRows_15 : decode bJO_turnRows 15 = .ok (.iload_n 3, 1) := by decide +kernel
theorem dJO_turnRows_16 : decode bJO_turnRows 16 = .ok (.istore 5, 2) := by decide +kernel
theorem dJO_turnRows_18 : decode bJO_turnRows 18 = .ok (.iload 5, 2) := by decide +kernel
theorem dJO_turnRows_20 : decode bJO_turnRows 20 = .ok (.iload 4, 2) := by decide +kernel
theorem dJO_turnRows_22 : decode bJO_turnRows 22 = .ok (.if_icmp .ge 30, 3) := by decide +kernel
theorem dJO_turnRows_25 : decode bJO_turnRows 25 = .ok (.aload_n 0, 1) := by decide +kernel
theorem dJO_turnRows_26 : decode bJO_turnRows 26 = .ok (.iload_n 2, 1) := by decide +kernel
theorem dJO_turnRows_27 : decode bJO_turnRows 27 = .ok (.aload_n 0, 1) := by decide +kernel
theorem dJO_turnRows_28 : decode bJO_turnRows 28 = .ok (.getfield 28, 3) := by decide +kernel
theorem dJO_turnRows_31 : decode bJO_turnRows 31 = .ok (.iload 5, 2) := by decide +kernel
theorem dJO_turnRows_33 : decode bJO_turnRows 33 = .ok (.iaload, 1) := by decide +kernel
theorem dJO_turnRows_34 : decode bJO_turnRows 34 = .ok (.aload_n 0, 1) := by decide +kernel
theorem dJO_turnRows_35 : decode bJO_turnRows 35 = .ok (.getfield 31, 3) := by decide +kernel
theorem dJO_turnRows_38 : decode bJO_turnRows 38 = .ok (.iload 5, 2) := by decide +kernel
theorem dJO_turnRows_40 : decode bJO_turnRows 40 = .ok (.laload, 1) := by decide +kernel
theorem dJO_turnRows_41 : decode bJO_turnRows 41 = .ok (.lneg, 1) := by decide +kernel
theorem dJO_turnRows_42 : decode bJO_turnRows 42 = .ok (.invokevirtual 93, 3) := by decide +kernel
theorem dJO_turnRows_45 : decode bJO_turnRows 45 = .ok (.pop, 1) := by decide +kernel
theorem dJO_turnRows_46 : decode bJO_turnRows 46 = .ok (.iinc 5 1, 3) := by decide +kernel
theorem dJO_turnRows_49 : decode bJO_turnRows 49 = .ok (.goto (-31), 3) := by decide +kernel
theorem dJO_turnRows_52 : decode bJO_turnRows 52 = .ok (.return_, 1) := by decide +kernel
theorem dMO_account_0 : decode bMO_account 0 = .ok (.aload_n 0, 1) := by decide +kernel
theorem dMO_account_1 : decode bMO_account 1 = .ok (.iconst 0, 1) := by decide +kernel
theorem dMO_account_2 : decode bMO_account 2 = .ok (.putfield 16, 3) := by decide +kernel
theorem dMO_account_5 : decode bMO_account 5 = .ok (.aload_n 0, 1) := by decide +kernel
theorem dMO_account_6 : decode bMO_account 6 = .ok (.getfield 7, 3) := by decide +kernel
theorem dMO_account_9 : decode bMO_account 9 = .ok (.iconst 0, 1) := by decide +kernel
theorem dMO_account_10 : decode bMO_account 10 = .ok (.laload, 1) := by decide +kernel
theorem dMO_account_11 : decode bMO_account 11 = .ok (.ldc2_w 32, 3) := by decide +kernel
theorem dMO_account_14 : decode bMO_account 14 = .ok (.lcmp, 1) := by decide +kernel
theorem dMO_account_15 : decode bMO_account 15 = .ok (.ifCond .eq 12, 3) := by decide +kernel
theorem dMO_account_18 : decode bMO_account 18 = .ok (.iload_n 1, 1) := by decide +kernel
theorem dMO_account_19 : decode bMO_account 19 = .ok (.ifCond .lt 8, 3) := by decide +kernel
theorem dMO_account_22 : decode bMO_account 22 = .ok (.iload_n 1, 1) := by decide +kernel
theorem dMO_account_23 : decode bMO_account 23 = .ok (.iconst 2, 1) := by decide +kernel
theorem dMO_account_24 : decode bMO_account 24 = .ok (.if_icmp .le 5, 3) := by decide +kernel
theorem dMO_account_27 : decode bMO_account 27 = .ok (.iconst (-1), 1) := by decide +kernel
theorem dMO_account_28 : decode bMO_account 28 = .ok (.ireturn, 1) := by decide +kernel
theorem dMO_account_29 : decode bMO_account 29 = .ok (.aload_n 0, 1) := by decide +kernel
theorem dMO_account_30 : decode bMO_account 30 = .ok (.getfield 7, 3) := by decide +kernel
theorem dMO_account_33 : decode bMO_account 33 = .ok (.bipush 10, 2) := by decide +kernel
theorem dMO_account_35 : decode bMO_account 35 = .ok (.aload_n 0, 1) := by decide +kernel
theorem dMO_account_36 : decode bMO_account 36 = .ok (.getfield 7, 3) := by decide +kernel
theorem dMO_account_39 : decode bMO_account 39 = .ok (.iconst 0, 1) := by decide +kernel
theorem dMO_account_40 : decode bMO_account 40 = .ok (.laload, 1) := by decide +kernel
theorem dMO_account_41 : decode bMO_account 41 = .ok (.l2i, 1) := by decide +kernel
theorem dMO_account_42 : decode bMO_account 42 = .ok (.iadd, 1) := by decide +kernel
theorem dMO_account_43 : decode bMO_account 43 = .ok (.iload_n 1, 1) := by decide +kernel
theorem dMO_account_44 : decode bMO_account 44 = .ok (.i2l, 1) := by decide +kernel
theorem dMO_account_45 : decode bMO_account 45 = .ok (.lastore, 1) := by decide +kernel
theorem dMO_account_46 : decode bMO_account 46 = .ok (.aload_n 0, 1) := by decide +kernel
theorem dMO_account_47 : decode bMO_account 47 = .ok (.getfield 7, 3) := by decide +kernel
theorem dMO_account_50 : decode bMO_account 50 = .ok (.iconst 0, 1) := by decide +kernel
theorem dMO_account_51 : decode bMO_account 51 = .ok (.dup2, 1) := by decide +kernel
theorem dMO_account_52 : decode bMO_account 52 = .ok (.laload, 1) := by decide +kernel
theorem dMO_account_53 : decode bMO_account 53 = .ok (.lconst 1, 1) := by decide +kernel
theorem dMO_account_54 : decode bMO_account 54 = .ok (.ladd, 1) := by decide +kernel
theorem dMO_account_55 : decode bMO_account 55 = .ok (.lastore, 1) := by decide +kernel
theorem dMO_account_56 : decode bMO_account 56 = .ok (.aload_n 0, 1) := by decide +kernel
theorem dMO_account_57 : decode bMO_account 57 = .ok (.getfield 7, 3) := by decide +kernel
theorem dMO_account_60 : decode bMO_account 60 = .ok (.iconst 0, 1) := by decide +kernel
theorem dMO_account_61 : decode bMO_account 61 = .ok (.laload, 1) := by decide +kernel
theorem dMO_account_62 : decode bMO_account 62 = .ok (.l2i, 1) := by decide +kernel
theorem dMO_account_63 : decode bMO_account 63 = .ok (.iconst 1, 1) := by decide +kernel
theorem dMO_account_64 : decode bMO_account 64 = .ok (.isub, 1) := by decide +kernel
theorem dMO_account_65 : decode bMO_account 65 = .ok (.ireturn, 1) := by decide +kernel
theorem dMO_addEntry_0 : decode bMO_addEntry 0 = .ok (.aload_n 0, 1) := by decide +kernel
theorem dMO_addEntry_1 : decode bMO_addEntry 1 = .ok (.getfield 7, 3) := by decide +kernel
theorem dMO_addEntry_4 : decode bMO_addEntry 4 = .ok (.iconst 1, 1) := by decide +kernel
theorem dMO_addEntry_5 : decode bMO_addEntry 5 = .ok (.laload, 1) := by decide +kernel
theorem dMO_addEntry_6 : decode bMO_addEntry 6 = .ok (.l2i, 1) := by decide +kernel
theorem dMO_addEntry_7 : decode bMO_addEntry 7 = .ok (.istore 4, 2) := by decide +kernel
theorem dMO_addEntry_9 : decode bMO_addEntry 9 = .ok (.aload_n 0, 1) := by decide +kernel
theorem dMO_addEntry_10 : decode bMO_addEntry 10 = .ok (.getfield 7, 3) := by decide +kernel
theorem dMO_addEntry_13 : decode bMO_addEntry 13 = .ok (.bipush 100, 2) := by decide +kernel
theorem dMO_addEntry_15 : decode bMO_addEntry 15 = .ok (.iload 4, 2) := by decide +kernel
theorem dMO_addEntry_17 : decode bMO_addEntry 17 = .ok (.iadd, 1) := by decide +kernel
theorem dMO_addEntry_18 : decode bMO_addEntry 18 = .ok (.lload_n 1, 1) := by decide +kernel
theorem dMO_addEntry_19 : decode bMO_addEntry 19 = .ok (.lastore, 1) := by decide +kernel
theorem dMO_addEntry_20 : decode bMO_addEntry 20 = .ok (.aload_n 0, 1) := by decide +kernel
theorem dMO_addEntry_21 : decode bMO_addEntry 21 = .ok (.getfield 7, 3) := by decide +kernel
theorem dMO_addEntry_24 : decode bMO_addEntry 24 = .ok (.sipush 180, 3) := by decide +kernel
theorem dMO_addEntry_27 : decode bMO_addEntry 27 = .ok (.iload 4, 2) := by decide +kernel
theorem dMO_addEntry_29 : decode bMO_addEntry 29 = .ok (.iadd, 1) := by decide +kernel
theorem dMO_addEntry_30 : decode bMO_addEntry 30 = .ok (.iload_n 3, 1) := by decide +kernel
theorem dMO_addEntry_31 : decode bMO_addEntry 31 = .ok (.i2l, 1) := by decide +kernel
theorem dMO_addEntry_32 : decode bMO_addEntry 32 = .ok (.lastore, 1) := by decide +kernel
theorem dMO_addEntry_33 : decode bMO_addEntry 33 = .ok (.aload_n 0, 1) := by decide +kernel
theorem dMO_addEntry_34 : decode bMO_addEntry 34 = .ok (.getfield 7, 3) := by decide +kernel
theorem dMO_addEntry_37 : decode bMO_addEntry 37 = .ok (.iconst 1, 1) := by decide +kernel
theorem dMO_addEntry_38 : decode bMO_addEntry 38 = .ok (.dup2, 1) := by decide +kernel
theorem dMO_addEntry_39 : decode bMO_addEntry 39 = .ok (.laload, 1) := by decide +kernel
theorem dMO_addEntry_40 : decode bMO_addEntry 40 = .ok (.lconst 1, 1) := by decide +kernel
theorem dMO_addEntry_41 : decode bMO_addEntry 41 = .ok (.ladd, 1) := by decide +kernel
theorem dMO_addEntry_42 : decode bMO_addEntry 42 = .ok (.lastore, 1) := by decide +kernel
theorem dMO_addEntry_43 : decode bMO_addEntry 43 = .ok (.iload 4, 2) := by decide +kernel
theorem dMO_addEntry_45 : decode bMO_addEntry 45 = .ok (.ireturn, 1) := by decide +kernel
theorem dMO_addRow_0 : decode bMO_addRow 0 = .ok (.bipush 6, 2) := by decide +kernel
theorem dMO_addRow_2 : decode bMO_addRow 2 = .ok (.iload_n 1, 1) := by decide +kernel
theorem dMO_addRow_3 : decode bMO_addRow 3 = .ok (.imul, 1) := by decide +kernel
theorem dMO_addRow_4 : decode bMO_addRow 4 = .ok (.aload_n 0, 1) := by decide +kernel
theorem dMO_addRow_5 : decode bMO_addRow 5 = .ok (.getfield 7, 3) := by decide +kernel
theorem dMO_addRow_8 : decode bMO_addRow 8 = .ok (.sipush 260, 3) := by decide +kernel
theorem dMO_addRow_11 : decode bMO_addRow 11 = .ok (.iload_n 1, 1) := by decide +kernel
theorem dMO_addRow_12 : decode bMO_addRow 12 = .ok (.iadd, 1) := by decide +kernel
theorem dMO_addRow_13 : decode bMO_addRow 13 = .ok (.laload, 1) := by decide +kernel
theorem dMO_addRow_14 : decode bMO_addRow 14 = .ok (.l2i, 1) := by decide +kernel
theorem dMO_addRow_15 : decode bMO_addRow 15 = .ok (.iadd, 1) := by decide +kernel
theorem dMO_addRow_16 : decode bMO_addRow 16 = .ok (.istore 5, 2) := by decide +kernel
theorem dMO_addRow_18 : decode bMO_addRow 18 = .ok (.aload_n 0, 1) := by decide +kernel
theorem dMO_addRow_19 : decode bMO_addRow 19 = .ok (.getfield 7, 3) := by decide +kernel
theorem dMO_addRow_22 : decode bMO_addRow 22 = .ok (.sipush 300, 3) := by decide +kernel
theorem dMO_addRow_25 : decode bMO_addRow 25 = .ok (.iload 5, 2) := by decide +kernel
theorem dMO_addRow_27 : decode bMO_addRow 27 = .ok (.iadd, 1) := by decide +kernel
theorem dMO_addRow_28 : decode bMO_addRow 28 = .ok (.iload_n 2, 1) := by decide +kernel
theorem dMO_addRow_29 : decode bMO_addRow 29 = .ok (.i2l, 1) := by decide +kernel
theorem dMO_addRow_30 : decode bMO_addRow 30 = .ok (.lastore, 1) := by decide +kernel
theorem dMO_addRow_31 : decode bMO_addRow 31 = .ok (.aload_n 0, 1) := by decide +kernel
theorem dMO_addRow_32 : decode bMO_addRow 32 = .ok (.getfield 7, 3) := by decide +kernel
theorem dMO_addRow_35 : decode bMO_addRow 35 = .ok (.sipush 540, 3) := by decide +kernel
theorem dMO_addRow_38 : decode bMO_addRow 38 = .ok (.iload 5, 2) := by decide +kernel
theorem dMO_addRow_40 : decode bMO_addRow 40 = .ok (.iadd, 1) := by decide +kernel
theorem dMO_addRow_41 : decode bMO_addRow 41 = .ok (.lload_n 3, 1) := by decide +kernel
theorem dMO_addRow_42 : decode bMO_addRow 42 = .ok (.lastore, 1) := by decide +kernel
theorem dMO_addRow_43 : decode bMO_addRow 43 = .ok (.aload_n 0, 1) := by decide +kernel
theorem dMO_addRow_44 : decode bMO_addRow 44 = .ok (.getfield 7, 3) := by decide +kernel
theorem dMO_addRow_47 : decode bMO_addRow 47 = .ok (.sipush 260, 3) := by decide +kernel
theorem dMO_addRow_50 : decode bMO_addRow 50 = .ok (.iload_n 1, 1) := by decide +kernel
theorem dMO_addRow_51 : decode bMO_addRow 51 = .ok (.iadd, 1) := by decide +kernel
theorem dMO_addRow_52 : decode bMO_addRow 52 = .ok (.dup2, 1) := by decide +kernel
theorem dMO_addRow_53 : decode bMO_addRow 53 = .ok (.laload, 1) := by decide +kernel
theorem dMO_addRow_54 : decode bMO_addRow 54 = .ok (.lconst 1, 1) := by decide +kernel
theorem dMO_addRow_55 : decode bMO_addRow 55 = .ok (.ladd, 1) := by decide +kernel
theorem dMO_addRow_56 : decode bMO_addRow 56 = .ok (.lastore, 1) := by decide +kernel
theorem dMO_addRow_57 : decode bMO_addRow 57 = .ok (.return_, 1) := by decide +kernel
theorem dMO_allDue_0 : decode bMO_allDue 0 = .ok (.lconst 0, 1) := by decide +kernel
theorem dMO_allDue_1 : decode bMO_allDue 1 = .ok (.lstore_n 2, 1) := by decide +kernel
theorem dMO_allDue_2 : decode bMO_allDue 2 = .ok (.iconst 0, 1) := by decide +kernel
theorem dMO_allDue_3 : decode bMO_allDue 3 = .ok (.istore 4, 2) := by decide +kernel
theorem dMO_allDue_5 : decode bMO_allDue 5 = .ok (.iload 4, 2) := by decide +kernel
theorem dMO_allDue_7 : decode bMO_allDue 7 = .ok (.sipush 240, 3) := by decide +kernel
theorem dMO_allDue_10 : decode bMO_allDue 10 = .ok (.if_icmp .ge 37, 3) := by decide +kernel
theorem dMO_allDue_13 : decode bMO_allDue 13 = .ok (.lload_n 2, 1) := by decide +kernel
theorem dMO_allDue_14 : decode bMO_allDue 14 = .ok (.aload_n 0, 1) := by decide +kernel
theorem dMO_allDue_15 : decode bMO_allDue 15 = .ok (.iload 4, 2) := by decide +kernel
theorem dMO_allDue_17 : decode bMO_allDue 17 = .ok (.iload_n 1, 1) := by decide +kernel
theorem dMO_allDue_18 : decode bMO_allDue 18 = .ok (.invokevirtual 64, 3) := by decide +kernel
theorem dMO_allDue_21 : decode bMO_allDue 21 = .ok (.ifCond .eq 17, 3) := by decide +kernel
theorem dMO_allDue_24 : decode bMO_allDue 24 = .ok (.aload_n 0, 1) := by decide +kernel

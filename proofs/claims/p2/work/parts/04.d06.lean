theorem dMO_isItemOf_0 : decode bMO_isItemOf 0 = .ok (.aload_n 0, 1) := by decide +kernel
theorem dMO_isItemOf_1 : decode bMO_isItemOf 1 = .ok (.iload_n 1, 1) := by decide +kernel
theorem dMO_isItemOf_2 : decode bMO_isItemOf 2 = .ok (.bipush 6, 2) := by decide +kernel
theorem dMO_isItemOf_4 : decode bMO_isItemOf 4 = .ok (.idiv, 1) := by decide +kernel
theorem dMO_isItemOf_5 : decode bMO_isItemOf 5 = .ok (.iload_n 1, 1) := by decide +kernel
theorem dMO_isItemOf_6 : decode bMO_isItemOf 6 = .ok (.bipush 6, 2) := by decide +kernel
theorem dMO_isItemOf_8 : decode bMO_isItemOf 8 = .ok (.irem, 1) := by decide +kernel
theorem dMO_isItemOf_9 : decode bMO_isItemOf 9 = .ok (.invokevirtual 60, 3) := by decide +kernel
theorem dMO_isItemOf_12 : decode bMO_isItemOf 12 = .ok (.ifCond .eq 23, 3) := by decide +kernel
theorem dMO_isItemOf_15 : decode bMO_isItemOf 15 = .ok (.aload_n 0, 1) := by decide +kernel
theorem dMO_isItemOf_16 : decode bMO_isItemOf 16 = .ok (.getfield 7, 3) := by decide +kernel
theorem dMO_isItemOf_19 : decode bMO_isItemOf 19 = .ok (.sipush 300, 3) := by decide +kernel
theorem dMO_isItemOf_22 : decode bMO_isItemOf 22 = .ok (.iload_n 1, 1) := by decide +kernel
theorem dMO_isItemOf_23 : decode bMO_isItemOf 23 = .ok (.iadd, 1) := by decide +kernel
theorem dMO_isItemOf_24 : decode bMO_isItemOf 24 = .ok (.laload, 1) := by decide +kernel
theorem dMO_isItemOf_25 : decode bMO_isItemOf 25 = .ok (.iload_n 2, 1) := by decide +kernel
theorem dMO_isItemOf_26 : decode bMO_isItemOf 26 = .ok (.i2l, 1) := by decide +kernel
theorem dMO_isItemOf_27 : decode bMO_isItemOf 27 = .ok (.lcmp, 1) := by decide +kernel
theorem dMO_isItemOf_28 : decode bMO_isItemOf 28 = .ok (.ifCond .ne 7, 3) := by decide +kernel
theorem dMO_isItemOf_31 : decode bMO_isItemOf 31 = .ok (.iconst 1, 1) := by decide +kernel
theorem dMO_isItemOf_32 : decode bMO_isItemOf 32 = .ok (.goto 4, 3) := by decide +kernel
theorem dMO_isItemOf_35 : decode bMO_isItemOf 35 = .ok (.iconst 0, 1) := by decide +kernel
theorem dMO_isItemOf_36 : decode bMO_isItemOf 36 = .ok (.ireturn, 1) := by decide +kernel
theorem dMO_isLate_0 : decode bMO_isLate 0 = .ok (.lload_n 1, 1) := by decide +kernel
theorem dMO_isLate_1 : decode bMO_isLate 1 = .ok (.ldc2_w 30, 3) := by decide +kernel
theorem dMO_isLate_4 : decode bMO_isLate 4 = .ok (.ldiv, 1) := by decide +kernel
theorem dMO_isLate_5 : decode bMO_isLate 5 = .ok (.aload_n 0, 1) := by decide +kernel
theorem dMO_isLate_6 : decode bMO_isLate 6 = .ok (.getfield 7, 3) := by decide +kernel
theorem dMO_isLate_9 : decode bMO_isLate 9 = .ok (.iconst 2, 1) := by decide +kernel
theorem dMO_isLate_10 : decode bMO_isLate 10 = .ok (.laload, 1) := by decide +kernel
theorem dMO_isLate_11 : decode bMO_isLate 11 = .ok (.lcmp, 1) := by decide +kernel
theorem dMO_isLate_12 : decode bMO_isLate 12 = .ok (.ifCond .ge 7, 3) := by decide +kernel
theorem dMO_isLate_15 : decode bMO_isLate 15 = .ok (.iconst 1, 1) := by decide +kernel
theorem dMO_isLate_16 : decode bMO_isLate 16 = .ok (.goto 4, 3) := by decide +kernel
theorem dMO_isLate_19 : decode bMO_isLate 19 = .ok (.iconst 0, 1) := by decide +kernel
theorem dMO_isLate_20 : decode bMO_isLate 20 = .ok (.ireturn, 1) := by decide +kernel
theorem dMO_isPaid_0 : decode bMO_isPaid 0 = .ok (.iconst 0, 1) := by decide +kernel
theorem dMO_isPaid_1 : decode bMO_isPaid 1 = .ok (.istore_n 2, 1) := by decide +kernel
theorem dMO_isPaid_2 : decode bMO_isPaid 2 = .ok (.iconst 0, 1) := by decide +kernel
theorem dMO_isPaid_3 : decode bMO_isPaid 3 = .ok (.istore_n 3, 1) := by decide +kernel
theorem dMO_isPaid_4 : decode bMO_isPaid 4 = .ok (.iload_n 3, 1) := by decide +kernel
theorem dMO_isPaid_5 : decode bMO_isPaid 5 = .ok (.i2l, 1) := by decide +kernel
theorem dMO_isPaid_6 : decode bMO_isPaid 6 = .ok (.aload_n 0, 1) := by decide +kernel
theorem dMO_isPaid_7 : decode bMO_isPaid 7 = .ok (.getfield 7, 3) := by decide +kernel
theorem dMO_isPaid_10 : decode bMO_isPaid 10 = .ok (.sipush 260, 3) := by decide +kernel
theorem dMO_isPaid_13 : decode bMO_isPaid 13 = .ok (.iload_n 1, 1) := by decide +kernel
theorem dMO_isPaid_14 : decode bMO_isPaid 14 = .ok (.iadd, 1) := by decide +kernel
theorem dMO_isPaid_15 : decode bMO_isPaid 15 = .ok (.laload, 1) := by decide +kernel
theorem dMO_isPaid_16 : decode bMO_isPaid 16 = .ok (.lcmp, 1) := by decide +kernel
theorem dMO_isPaid_17 : decode bMO_isPaid 17 = .ok (.ifCond .ge 62, 3) := by decide +kernel
theorem dMO_isPaid_20 : decode bMO_isPaid 20 = .ok (.iload_n 2, 1) := by decide +kernel
theorem dMO_isPaid_21 : decode bMO_isPaid 21 = .ok (.ifCond .ne 46, 3) := by decide +kernel
theorem dMO_isPaid_24 : decode bMO_isPaid 24 = .ok (.aload_n 0, 1) := by decide +kernel
theorem dMO_isPaid_25 : decode bMO_isPaid 25 = .ok (.iload_n 1, 1) := by decide +kernel
theorem dMO_isPaid_26 : decode bMO_isPaid 26 = .ok (.iload_n 3, 1) := by decide +kernel
theorem dMO_isPaid_27 : decode bMO_isPaid 27 = .ok (.invokevirtual 60, 3) := by decide +kernel
theorem dMO_isPaid_30 : decode bMO_isPaid 30 = .ok (.ifCond .eq 41, 3) := by decide +kernel
theorem dMO_isPaid_33 : decode bMO_isPaid 33 = .ok (.aload_n 0, 1) := by decide +kernel
theorem dMO_isPaid_34 : decode bMO_isPaid 34 = .ok (.getfield 7, 3) := by decide +kernel
theorem dMO_isPaid_37 : decode bMO_isPaid 37 = .ok (.sipush 780, 3) := by decide +kernel
theorem dMO_isPaid_40 : decode bMO_isPaid 40 = .ok (.bipush 6, 2) := by decide +kernel
theorem dMO_isPaid_42 : decode bMO_isPaid 42 = .ok (.iload_n 1, 1) := by decide +kernel
theorem dMO_isPaid_43 : decode bMO_isPaid 43 = .ok (.imul, 1) := by decide +kernel
theorem dMO_isPaid_44 : decode bMO_isPaid 44 = .ok (.iadd, 1) := by decide +kernel
theorem dMO_isPaid_45 : decode bMO_isPaid 45 = .ok (.iload_n 3, 1) := by decide +kernel
theorem dMO_isPaid_46 : decode bMO_isPaid 46 = .ok (.iadd, 1) := by decide +kernel
theorem dMO_isPaid_47 : decode bMO_isPaid 47 = .ok (.laload, 1) := by decide +kernel
theorem dMO_isPaid_48 : decode bMO_isPaid 48 = .ok (.aload_n 0, 1) := by decide +kernel
theorem dMO_isPaid_49 : decode bMO_isPaid 49 = .ok (.getfield 7, 3) := by decide +kernel
theorem dMO_isPaid_52 : decode bMO_isPaid 52 = .ok (.sipush 540, 3) := by decide +kernel
theorem dMO_isPaid_55 : decode bMO_isPaid 55 = .ok (.bipush 6, 2) := by decide +kernel
theorem dMO_isPaid_57 : decode bMO_isPaid 57 = .ok (.iload_n 1, 1) := by decide +kernel
theorem dMO_isPaid_58 : decode bMO_isPaid 58 = .ok (.imul, 1) := by decide +kernel
theorem dMO_isPaid_59 : decode bMO_isPaid 59 = .ok (.iadd, 1) := by decide +kernel
theorem dMO_isPaid_60 : decode bMO_isPaid 60 = .ok (.iload_n 3, 1) := by decide +kernel
theorem dMO_isPaid_61 : decode bMO_isPaid 61 = .ok (.iadd, 1) := by decide +kernel
theorem dMO_isPaid_62 : decode bMO_isPaid 62 = .ok (.laload, 1) := by decide +kernel
theorem dMO_isPaid_63 : decode bMO_isPaid 63 = .ok (.lcmp, 1) := by decide +kernel
theorem dMO_isPaid_64 : decode bMO_isPaid 64 = .ok (.ifCond .ge 7, 3) := by decide +kernel
theorem dMO_isPaid_67 : decode bMO_isPaid 67 = .ok (.iconst 1, 1) := by decide +kernel
theorem dMO_isPaid_68 : decode bMO_isPaid 68 = .ok (.goto 4, 3) := by decide +kernel
theorem dMO_isPaid_71 : decode bMO_isPaid 71 = .ok (.iconst 0, 1) := by decide +kernel
theorem dMO_isPaid_72 : decode bMO_isPaid 72 = .ok (.istore_n 2, 1) := by decide +kernel
theorem dMO_isPaid_73 : decode bMO_isPaid 73 = .ok (.iinc 3 1, 3) := by decide +kernel
theorem dMO_isPaid_76 : decode bMO_isPaid 76 = .ok (.goto (-72), 3) := by decide +kernel
theorem dMO_isPaid_79 : decode bMO_isPaid 79 = .ok (.iload_n 2, 1) := by decide +kernel
theorem dMO_isPaid_80 : decode bMO_isPaid 80 = .ok (.ireturn, 1) := by decide +kernel
theorem dMO_item_0 : decode bMO_item 0 = .ok (.aload_n 0, 1) := by decide +kernel
theorem dMO_item_1 : decode bMO_item 1 = .ok (.iconst 0, 1) := by decide +kernel
theorem dMO_item_2 : decode bMO_item 2 = .ok (.putfield 16, 3) := by decide +kernel
theorem dMO_item_5 : decode bMO_item 5 = .ok (.aload_n 0, 1) := by decide +kernel
theorem dMO_item_6 : decode bMO_item 6 = .ok (.iload_n 1, 1) := by decide +kernel
theorem dMO_item_7 : decode bMO_item 7 = .ok (.invokevirtual 70, 3) := by decide +kernel
theorem dMO_item_10 : decode bMO_item 10 = .ok (.ifCond .eq 16, 3) := by decide +kernel
theorem dMO_item_13 : decode bMO_item 13 = .ok (.iload_n 2, 1) := by decide +kernel
theorem dMO_item_14 : decode bMO_item 14 = .ok (.ifCond .lt 12, 3) := by decide +kernel
theorem dMO_item_17 : decode bMO_item 17 = .ok (.aload_n 0, 1) := by decide +kernel
theorem dMO_item_18 : decode bMO_item 18 = .ok (.iload_n 1, 1) := by decide +kernel
theorem dMO_item_19 : decode bMO_item 19 = .ok (.iload_n 2, 1) := by decide +kernel
theorem dMO_item_20 : decode bMO_item 20 = .ok (.invokevirtual 75, 3) := by decide +kernel
theorem dMO_item_23 : decode bMO_item 23 = .ok (.goto 4, 3) := by decide +kernel
theorem dMO_item_26 : decode bMO_item 26 = .ok (.iconst (-1), 1) := by decide +kernel
theorem dMO_item_27 : decode bMO_item 27 = .ok (.istore_n 3, 1) := by decide +kernel
theorem dMO_item_28 : decode bMO_item 28 = .ok (.iload_n 3, 1) := by decide +kernel
theorem dMO_item_29 : decode bMO_item 29 = .ok (.ifCond .ge 9, 3) := by decide +kernel
theorem dMO_item_32 : decode bMO_item 32 = .ok (.ldc2_w 79, 3) := by decide +kernel
theorem dMO_item_35 : decode bMO_item 35 = .ok (.goto 13, 3) := by decide +kernel
theorem dMO_item_38 : decode bMO_item 38 = .ok (.aload_n 0, 1) := by decide +kernel
theorem dMO_item_39 : decode bMO_item 39 = .ok (.getfield 7, 3) := by decide +kernel
theorem dMO_item_42 : decode bMO_item 42 = .ok (.sipush 780, 3) := by decide +kernel
theorem dMO_item_45 : decode bMO_item 45 = .ok (.iload_n 3, 1) := by decide +kernel
theorem dMO_item_46 : decode bMO_item 46 = .ok (.iadd, 1) := by decide +kernel
theorem dMO_item_47 : decode bMO_item 47 = .ok (.laload, 1) := by decide +kernel
theorem dMO_item_48 : decode bMO_item 48 = .ok (.lreturn, 1) := by decide +kernel
theorem dMO_itemAt_0 : decode bMO_itemAt 0 = .ok (.iconst 0, 1) := by decide +kernel
theorem dMO_itemAt_1 : decode bMO_itemAt 1 = .ok (.istore_n 3, 1) := by decide +kernel
theorem dMO_itemAt_2 : decode bMO_itemAt 2 = .ok (.iload_n 3, 1) := by decide +kernel
theorem dMO_itemAt_3 : decode bMO_itemAt 3 = .ok (.sipush 240, 3) := by decide +kernel
theorem dMO_itemAt_6 : decode bMO_itemAt 6 = .ok (.if_icmp .ge 76, 3) := by decide +kernel
theorem dMO_itemAt_9 : decode bMO_itemAt 9 = .ok (.aload_n 0, 1) := by decide +kernel
theorem dMO_itemAt_10 : decode bMO_itemAt 10 = .ok (.iload_n 3, 1) := by decide +kernel
theorem dMO_itemAt_11 : decode bMO_itemAt 11 = .ok (.iload_n 1, 1) := by decide +kernel
theorem dMO_itemAt_12 : decode bMO_itemAt 12 = .ok (.invokevirtual 64, 3) := by decide +kernel
theorem dMO_itemAt_15 : decode bMO_itemAt 15 = .ok (.ifCond .eq 61, 3) := by decide +kernel
theorem dMO_itemAt_18 : decode bMO_itemAt 18 = .ok (.iconst 0, 1) := by decide +kernel
theorem dMO_itemAt_19 : decode bMO_itemAt 19 = .ok (.istore 4, 2) := by decide +kernel
theorem dMO_itemAt_21 : decode bMO_itemAt 21 = .ok (.iconst 0, 1) := by decide +kernel
theorem dMO_itemAt_22 : decode bMO_itemAt 22 = .ok (.istore 5, 2) := by decide +kernel
theorem dMO_itemAt_24 : decode bMO_itemAt 24 = .ok (.iload 5, 2) := by decide +kernel
theorem dMO_itemAt_26 : decode bMO_itemAt 26 = .ok (.sipush 240, 3) := by decide +kernel
theorem dMO_itemAt_29 : decode bMO_itemAt 29 = .ok (.if_icmp .ge 39, 3) := by decide +kernel
theorem dMO_itemAt_32 : decode bMO_itemAt 32 = .ok (.iload 4, 2) := by decide +kernel
theorem dMO_itemAt_34 : decode bMO_itemAt 34 = .ok (.aload_n 0, 1) := by decide +kernel
theorem dMO_itemAt_35 : decode bMO_itemAt 35 = .ok (.iload 5, 2) := by decide +kernel
theorem dMO_itemAt_37 : decode bMO_itemAt 37 = .ok (.iload_n 1, 1) := by decide +kernel
theorem dMO_itemAt_38 : decode bMO_itemAt 38 = .ok (.invokevirtual 64, 3) := by decide +kernel
theorem dMO_itemAt_41 : decode bMO_itemAt 41 = .ok (.ifCond .eq 17, 3) := by decide +kernel
theorem dMO_itemAt_44 : decode bMO_itemAt 44 = .ok (.aload_n 0, 1) := by decide +kernel
theorem dMO_itemAt_45 : decode bMO_itemAt 45 = .ok (.iload 5, 2) := by decide +kernel
theorem dMO_itemAt_47 : decode bMO_itemAt 47 = .ok (.iload_n 3, 1) := by decide +kernel
theorem dMO_itemAt_48 : decode bMO_itemAt 48 = .ok (.invokevirtual 67, 3) := by decide +kernel
theorem dMO_itemAt_51 : decode bMO_itemAt 51 = .ok (.ifCond .eq 7, 3) := by decide +kernel
theorem dMO_itemAt_54 : decode bMO_itemAt 54 = .ok (.iconst 1, 1) := by decide +kernel
theorem dMO_itemAt_55 : decode bMO_itemAt 55 = .ok (.goto 4, 3) := by decide +kernel
theorem dMO_itemAt_58 : decode bMO_itemAt 58 = .ok (.iconst 0, 1) := by decide +kernel
theorem dMO_itemAt_59 : decode bMO_itemAt 59 = .ok (.iadd, 1) := by decide +kernel
theorem dMO_itemAt_60 : decode bMO_itemAt 60 = .ok (.istore 4, 2) := by decide +kernel
theorem dMO_itemAt_62 : decode bMO_itemAt 62 = .ok (.iinc 5 1, 3) := by decide +kernel
theorem dMO_itemAt_65 : decode bMO_itemAt 65 = .ok (.goto (-41), 3) := by decide +kernel
theorem dMO_itemAt_68 : decode bMO_itemAt 68 = .ok (.iload 4, 2) := by decide +kernel
theorem dMO_itemAt_70 : decode bMO_itemAt 70 = .ok (.iload_n 2, 1) := by decide +kernel
theorem dMO_itemAt_71 : decode bMO_itemAt 71 = .ok (.if_icmp .ne 5, 3) := by decide +kernel
theorem dMO_itemAt_74 : decode bMO_itemAt 74 = .ok (.iload_n 3, 1) := by decide +kernel
theorem dMO_itemAt_75 : decode bMO_itemAt 75 = .ok (.ireturn, 1) := by decide +kernel
theorem dMO_itemAt_76 : decode bMO_itemAt 76 = .ok (.iinc 3 1, 3) := by decide +kernel
theorem dMO_itemAt_79 : decode bMO_itemAt 79 = .ok (.goto (-77), 3) := by decide +kernel
theorem dMO_itemAt_82 : decode bMO_itemAt 82 = .ok (.iconst (-1), 1) := by decide +kernel
theorem dMO_itemAt_83 : decode bMO_itemAt 83 = .ok (.ireturn, 1) := by decide +kernel
theorem dMO_move_0 : decode bMO_move 0 = .ok (.aload_n 0, 1) := by decide +kernel
theorem dMO_move_1 : decode bMO_move 1 = .ok (.iconst 0, 1) := by decide +kernel
theorem dMO_move_2 : decode bMO_move 2 = .ok (.putfield 16, 3) := by decide +kernel
theorem dMO_move_5 : decode bMO_move 5 = .ok (.aload_n 0, 1) := by decide +kernel
theorem dMO_move_6 : decode bMO_move 6 = .ok (.iload_n 1, 1) := by decide +kernel
theorem dMO_move_7 : decode bMO_move 7 = .ok (.invokevirtual 70, 3) := by decide +kernel
theorem dMO_move_10 : decode bMO_move 10 = .ok (.ifCond .eq 39, 3) := by decide +kernel
theorem dMO_move_13 : decode bMO_move 13 = .ok (.aload_n 0, 1) := by decide +kernel
theorem dMO_move_14 : decode bMO_move 14 = .ok (.iload_n 2, 1) := by decide +kernel
theorem dMO_move_15 : decode bMO_move 15 = .ok (.invokevirtual 70, 3) := by decide +kernel
theorem dMO_move_18 : decode bMO_move 18 = .ok (.ifCond .eq 31, 3) := by decide +kernel
theorem dMO_move_21 : decode bMO_move 21 = .ok (.iload_n 1, 1) := by decide +kernel
theorem dMO_move_22 : decode bMO_move 22 = .ok (.iload_n 2, 1) := by decide +kernel
theorem dMO_move_23 : decode bMO_move 23 = .ok (.if_icmp .eq 26, 3) := by decide +kernel
theorem dMO_move_26 : decode bMO_move 26 = .ok (.lload_n 3, 1) := by decide +kernel
theorem dMO_move_27 : decode bMO_move 27 = .ok (.invokestatic 36, 3) := by decide +kernel
theorem dMO_move_30 : decode bMO_move 30 = .ok (.ifCond .eq 19, 3) := by decide +kernel
theorem dMO_move_33 : decode bMO_move 33 = .ok (.aload_n 0, 1) := by decide +kernel
theorem dMO_move_34 : decode bMO_move 34 = .ok (.iload_n 1, 1) := by decide +kernel
theorem dMO_move_35 : decode bMO_move 35 = .ok (.invokevirtual 100, 3) := by decide +kernel
theorem dMO_move_38 : decode bMO_move 38 = .ok (.ifCond .ne 11, 3) := by decide +kernel
theorem dMO_move_41 : decode bMO_move 41 = .ok (.aload_n 0, 1) := by decide +kernel
theorem dMO_move_42 : decode bMO_move 42 = .ok (.iload_n 2, 1) := by decide +kernel
theorem dMO_move_43 : decode bMO_move 43 = .ok (.invokevirtual 100, 3) := by decide +kernel
theorem dMO_move_46 : decode bMO_move 46 = .ok (.ifCond .eq 5, 3) := by decide +kernel
theorem dMO_move_49 : decode bMO_move 49 = .ok (.iconst 0, 1) := by decide +kernel
theorem dMO_move_50 : decode bMO_move 50 = .ok (.ireturn, 1) := by decide +kernel
theorem dMO_move_51 : decode bMO_move 51 = .ok (.aload_n 0, 1) := by decide +kernel
theorem dMO_move_52 : decode bMO_move 52 = .ok (.getfield 7, 3) := by decide +kernel
theorem dMO_move_55 : decode bMO_move 55 = .ok (.bipush 70, 2) := by decide +kernel
theorem dMO_move_57 : decode bMO_move 57 = .ok (.iload_n 1, 1) := by decide +kernel
theorem dMO_move_58 : decode bMO_move 58 = .ok (.iadd, 1) := by decide +kernel
theorem dMO_move_59 : decode bMO_move 59 = .ok (.lload_n 3, 1) := by decide +kernel
theorem dMO_move_60 : decode bMO_move 60 = .ok (.lconst 1, 1) := by decide +kernel
theorem dMO_move_61 : decode bMO_move 61 = .ok (.ladd, 1) := by decide +kernel
theorem dMO_move_62 : decode bMO_move 62 = .ok (.lastore, 1) := by decide +kernel
theorem dMO_move_63 : decode bMO_move 63 = .ok (.aload_n 0, 1) := by decide +kernel
theorem dMO_move_64 : decode bMO_move 64 = .ok (.getfield 7, 3) := by decide +kernel
theorem dMO_move_67 : decode bMO_move 67 = .ok (.bipush 80, 2) := by decide +kernel
theorem dMO_move_69 : decode bMO_move 69 = .ok (.iload_n 2, 1) := by decide +kernel
theorem dMO_move_70 : decode bMO_move 70 = .ok (.iadd, 1) := by decide +kernel
theorem dMO_move_71 : decode bMO_move 71 = .ok (.lload_n 3, 1) := by decide +kernel
theorem dMO_move_72 : decode bMO_move 72 = .ok (.lconst 1, 1) := by decide +kernel
theorem dMO_move_73 : decode bMO_move 73 = .ok (.ladd, 1) := by decide +kernel
theorem dMO_move_74 : decode bMO_move 74 = .ok (.lastore, 1) := by decide +kernel
theorem dMO_move_75 : decode bMO_move 75 = .ok (.iconst 1, 1) := by decide +kernel
theorem dMO_move_76 : decode bMO_move 76 = .ok (.ireturn, 1) := by decide +kernel
theorem dMO_opened_0 : decode bMO_opened 0 = .ok (.aload_n 0, 1) := by decide +kernel
theorem dMO_opened_1 : decode bMO_opened 1 = .ok (.iconst 0, 1) := by decide +kernel
theorem dMO_opened_2 : decode bMO_opened 2 = .ok (.putfield 16, 3) := by decide +kernel
theorem dMO_opened_5 : decode bMO_opened 5 = .ok (.iconst 0, 1) := by decide +kernel
theorem dMO_opened_6 : decode bMO_opened 6 = .ok (.istore_n 3, 1) := by decide +kernel
theorem dMO_opened_7 : decode bMO_opened 7 = .ok (.iload_n 3, 1) := by decide +kernel
theorem dMO_opened_8 : decode bMO_opened 8 = .ok (.sipush 240, 3) := by decide +kernel
theorem dMO_opened_11 : decode bMO_opened 11 = .ok (.if_icmp .ge 95, 3) := by decide +kernel
theorem dMO_opened_14 : decode bMO_opened 14 = .ok (.aload_n 0, 1) := by decide +kernel
theorem dMO_opened_15 : decode bMO_opened 15 = .ok (.iload_n 1, 1) := by decide +kernel
theorem dMO_opened_16 : decode bMO_opened 16 = .ok (.invokevirtual 47, 3) := by decide +kernel
theorem dMO_opened_19 : decode bMO_opened 19 = .ok (.ifCond .eq 87, 3) := by decide +kernel
theorem dMO_opened_22 : decode bMO_opened 22 = .ok (.aload_n 0, 1) := by decide +kernel
theorem dMO_opened_23 : decode bMO_opened 23 = .ok (.iload_n 1, 1) := by decide +kernel
theorem dMO_opened_24 : decode bMO_opened 24 = .ok (.iload_n 3, 1) := by decide +kernel
theorem dMO_opened_25 : decode bMO_opened 25 = .ok (.invokevirtual 81, 3) := by decide +kernel
theorem dMO_opened_28 : decode bMO_opened 28 = .ok (.ifCond .eq 72, 3) := by decide +kernel
theorem dMO_opened_31 : decode bMO_opened 31 = .ok (.iconst 0, 1) := by decide +kernel
theorem dMO_opened_32 : decode bMO_opened 32 = .ok (.istore 4, 2) := by decide +kernel
theorem dMO_opened_34 : decode bMO_opened 34 = .ok (.iconst 0, 1) := by decide +kernel
theorem dMO_opened_35 : decode bMO_opened 35 = .ok (.istore 5, 2) := by decide +kernel
theorem dMO_opened_37 : decode bMO_opened 37 = .ok (.iload 5, 2) := by decide +kernel
theorem dMO_opened_39 : decode bMO_opened 39 = .ok (.sipush 240, 3) := by decide +kernel
theorem dMO_opened_42 : decode bMO_opened 42 = .ok (.if_icmp .ge 39, 3) := by decide +kernel
theorem dMO_opened_45 : decode bMO_opened 45 = .ok (.iload 4, 2) := by decide +kernel
theorem dMO_opened_47 : decode bMO_opened 47 = .ok (.aload_n 0, 1) := by decide +kernel
theorem dMO_opened_48 : decode bMO_opened 48 = .ok (.iload_n 1, 1) := by decide +kernel
theorem dMO_opened_49 : decode bMO_opened 49 = .ok (.iload 5, 2) := by decide +kernel
theorem dMO_opened_51 : decode bMO_opened 51 = .ok (.invokevirtual 81, 3) := by decide +kernel
theorem dMO_opened_54 : decode bMO_opened 54 = .ok (.ifCond .eq 17, 3) := by decide +kernel
theorem dMO_opened_57 : decode bMO_opened 57 = .ok (.aload_n 0, 1) := by decide +kernel
theorem dMO_opened_58 : decode bMO_opened 58 = .ok (.iload 5, 2) := by decide +kernel
theorem dMO_opened_60 : decode bMO_opened 60 = .ok (.iload_n 3, 1) := by decide +kernel
theorem dMO_opened_61 : decode bMO_opened 61 = .ok (.invokevirtual 67, 3) := by decide +kernel
theorem dMO_opened_64 : decode bMO_opened 64 = .ok (.ifCond .eq 7, 3) := by decide +kernel
theorem dMO_opened_67 : decode bMO_opened 67 = .ok (.iconst 1, 1) := by decide +kernel
theorem dMO_opened_68 : decode bMO_opened 68 = .ok (.goto 4, 3) := by decide +kernel
theorem dMO_opened_71 : decode bMO_opened 71 = .ok (.iconst 0, 1) := by decide +kernel
theorem dMO_opened_72 : decode bMO_opened 72 = .ok (.iadd, 1) := by decide +kernel
theorem dMO_opened_73 : decode bMO_opened 73 = .ok (.istore 4, 2) := by decide +kernel
theorem dMO_opened_75 : decode bMO_opened 75 = .ok (.iinc 5 1, 3) := by decide +kernel
theorem dMO_opened_78 : decode bMO_opened 78 = .ok (.goto (-41), 3) := by decide +kernel
theorem dMO_opened_81 : decode bMO_opened 81 = .ok (.iload 4, 2) := by decide +kernel
theorem dMO_opened_83 : decode bMO_opened 83 = .ok (.iload_n 2, 1) := by decide +kernel
theorem dMO_opened_84 : decode bMO_opened 84 = .ok (.if_icmp .ne 16, 3) := by decide +kernel
theorem dMO_opened_87 : decode bMO_opened 87 = .ok (.bipush 10, 2) := by decide +kernel
theorem dMO_opened_89 : decode bMO_opened 89 = .ok (.iload_n 3, 1) := by decide +kernel
theorem dMO_opened_90 : decode bMO_opened 90 = .ok (.bipush 6, 2) := by decide +kernel
theorem dMO_opened_92 : decode bMO_opened 92 = .ok (.idiv, 1) := by decide +kernel
theorem dMO_opened_93 : decode bMO_opened 93 = .ok (.imul, 1) := by decide +kernel
theorem dMO_opened_94 : decode bMO_opened 94 = .ok (.iload_n 3, 1) := by decide +kernel
theorem dMO_opened_95 : decode bMO_opened 95 = .ok (.bipush 6, 2) := by decide +kernel
theorem dMO_opened_97 : decode bMO_opened 97 = .ok (.irem, 1) := by decide +kernel
theorem dMO_opened_98 : decode bMO_opened 98 = .ok (.iadd, 1) := by decide +kernel
theorem dMO_opened_99 : decode bMO_opened 99 = .ok (.ireturn, 1) := by decide +kernel
theorem dMO_opened_100 : decode bMO_opened 100 = .ok (.iinc 3 1, 3) := by decide +kernel
theorem dMO_opened_103 : decode bMO_opened 103 = .ok (.goto (-96), 3) := by decide +kernel
theorem dMO_opened_106 : decode bMO_opened 106 = .ok (.iconst (-1), 1) := by decide +kernel
theorem dMO_opened_107 : decode bMO_opened 107 = .ok (.ireturn, 1) := by decide +kernel
theorem dMO_part_0 : decode bMO_part 0 = .ok (.lload_n 0, 1) := by decide +kernel
theorem dMO_part_1 : decode bMO_part 1 = .ok (.lload_n 2, 1) := by decide +kernel
theorem dMO_part_2 : decode bMO_part 2 = .ok (.invokestatic 103, 3) := by decide +kernel
theorem dMO_part_5 : decode bMO_part 5 = .ok (.lstore 5, 2) := by decide +kernel
theorem dMO_part_7 : decode bMO_part 7 = .ok (.iload 4, 2) := by decide +kernel
theorem dMO_part_9 : decode bMO_part 9 = .ok (.ifCond .ne 10, 3) := by decide +kernel
theorem dMO_part_12 : decode bMO_part 12 = .ok (.lload_n 0, 1) := by decide +kernel
theorem dMO_part_13 : decode bMO_part 13 = .ok (.lload 5, 2) := by decide +kernel
theorem dMO_part_15 : decode bMO_part 15 = .ok (.ldiv, 1) := by decide +kernel
theorem dMO_part_16 : decode bMO_part 16 = .ok (.goto 7, 3) := by decide +kernel
theorem dMO_part_19 : decode bMO_part 19 = .ok (.lload_n 2, 1) := by decide +kernel
theorem dMO_part_20 : decode bMO_part 20 = .ok (.lload 5, 2) := by decide +kernel
theorem dMO_part_22 : decode bMO_part 22 = .ok (.ldiv, 1) := by decide +kernel
theorem dMO_part_23 : decode bMO_part 23 = .ok (.lreturn, 1) := by decide +kernel
theorem dMO_payment_0 : decode bMO_payment 0 = .ok (.aload_n 0, 1) := by decide +kernel
theorem dMO_payment_1 : decode bMO_payment 1 = .ok (.iconst 0, 1) := by decide +kernel
theorem dMO_payment_2 : decode bMO_payment 2 = .ok (.putfield 16, 3) := by decide +kernel
theorem dMO_payment_5 : decode bMO_payment 5 = .ok (.iconst 0, 1) := by decide +kernel
theorem dMO_payment_6 : decode bMO_payment 6 = .ok (.istore 6, 2) := by decide +kernel
theorem dMO_payment_8 : decode bMO_payment 8 = .ok (.aload_n 0, 1) := by decide +kernel
theorem dMO_payment_9 : decode bMO_payment 9 = .ok (.iload 6, 2) := by decide +kernel
theorem dMO_payment_11 : decode bMO_payment 11 = .ok (.invokevirtual 20, 3) := by decide +kernel
theorem dMO_payment_14 : decode bMO_payment 14 = .ok (.ifCond .eq 24, 3) := by decide +kernel
theorem dMO_payment_17 : decode bMO_payment 17 = .ok (.aload_n 0, 1) := by decide +kernel
theorem dMO_payment_18 : decode bMO_payment 18 = .ok (.getfield 7, 3) := by decide +kernel
theorem dMO_payment_21 : decode bMO_payment 21 = .ok (.bipush 10, 2) := by decide +kernel
theorem dMO_payment_23 : decode bMO_payment 23 = .ok (.iload 6, 2) := by decide +kernel
theorem dMO_payment_25 : decode bMO_payment 25 = .ok (.iadd, 1) := by decide +kernel
theorem dMO_payment_26 : decode bMO_payment 26 = .ok (.laload, 1) := by decide +kernel
theorem dMO_payment_27 : decode bMO_payment 27 = .ok (.lconst 0, 1) := by decide +kernel
theorem dMO_payment_28 : decode bMO_payment 28 = .ok (.lcmp, 1) := by decide +kernel
theorem dMO_payment_29 : decode bMO_payment 29 = .ok (.ifCond .eq 9, 3) := by decide +kernel
theorem dMO_payment_32 : decode bMO_payment 32 = .ok (.iinc 6 1, 3) := by decide +kernel
theorem dMO_payment_35 : decode bMO_payment 35 = .ok (.goto (-27), 3) := by decide +kernel
theorem dMO_payment_38 : decode bMO_payment 38 = .ok (.lload_n 2, 1) := by decide +kernel
theorem dMO_payment_39 : decode bMO_payment 39 = .ok (.lconst 1, 1) := by decide +kernel
theorem dMO_payment_40 : decode bMO_payment 40 = .ok (.ldc2_w 54, 3) := by decide +kernel
theorem dMO_payment_43 : decode bMO_payment 43 = .ok (.invokestatic 26, 3) := by decide +kernel
theorem dMO_payment_46 : decode bMO_payment 46 = .ok (.ifCond .eq 42, 3) := by decide +kernel
theorem dMO_payment_49 : decode bMO_payment 49 = .ok (.lload 4, 2) := by decide +kernel
theorem dMO_payment_51 : decode bMO_payment 51 = .ok (.invokestatic 36, 3) := by decide +kernel
theorem dMO_payment_54 : decode bMO_payment 54 = .ok (.ifCond .eq 34, 3) := by decide +kernel
theorem dMO_payment_57 : decode bMO_payment 57 = .ok (.aload_n 0, 1) := by decide +kernel
theorem dMO_payment_58 : decode bMO_payment 58 = .ok (.lload 4, 2) := by decide +kernel
theorem dMO_payment_60 : decode bMO_payment 60 = .ok (.invokevirtual 40, 3) := by decide +kernel
theorem dMO_payment_63 : decode bMO_payment 63 = .ok (.ifCond .ne 25, 3) := by decide +kernel
theorem dMO_payment_66 : decode bMO_payment 66 = .ok (.aload_n 0, 1) := by decide +kernel
theorem dMO_payment_67 : decode bMO_payment 67 = .ok (.iload 6, 2) := by decide +kernel
theorem dMO_payment_69 : decode bMO_payment 69 = .ok (.invokevirtual 20, 3) := by decide +kernel
theorem dMO_payment_72 : decode bMO_payment 72 = .ok (.ifCond .eq 16, 3) := by decide +kernel
theorem dMO_payment_75 : decode bMO_payment 75 = .ok (.aload_n 0, 1) := by decide +kernel
theorem dMO_payment_76 : decode bMO_payment 76 = .ok (.getfield 7, 3) := by decide +kernel
theorem dMO_payment_79 : decode bMO_payment 79 = .ok (.iconst 1, 1) := by decide +kernel
theorem dMO_payment_80 : decode bMO_payment 80 = .ok (.laload, 1) := by decide +kernel
theorem dMO_payment_81 : decode bMO_payment 81 = .ok (.ldc2_w 34, 3) := by decide +kernel
theorem dMO_payment_84 : decode bMO_payment 84 = .ok (.lcmp, 1) := by decide +kernel
theorem dMO_payment_85 : decode bMO_payment 85 = .ok (.ifCond .ne 5, 3) := by decide +kernel
theorem dMO_payment_88 : decode bMO_payment 88 = .ok (.iconst (-1), 1) := by decide +kernel
theorem dMO_payment_89 : decode bMO_payment 89 = .ok (.ireturn, 1) := by decide +kernel
theorem dMO_payment_90 : decode bMO_payment 90 = .ok (.aload_n 0, 1) := by decide +kernel
theorem dMO_payment_91 : decode bMO_payment 91 = .ok (.iload_n 1, 1) := by decide +kernel
theorem dMO_payment_92 : decode bMO_payment 92 = .ok (.invokevirtual 70, 3) := by decide +kernel
theorem dMO_payment_95 : decode bMO_payment 95 = .ok (.ifCond .ne 45, 3) := by decide +kernel
theorem dMO_payment_98 : decode bMO_payment 98 = .ok (.aload_n 0, 1) := by decide +kernel
theorem dMO_payment_99 : decode bMO_payment 99 = .ok (.getfield 7, 3) := by decide +kernel
theorem dMO_payment_102 : decode bMO_payment 102 = .ok (.iconst 4, 1) := by decide +kernel
theorem dMO_payment_103 : decode bMO_payment 103 = .ok (.laload, 1) := by decide +kernel
theorem dMO_payment_104 : decode bMO_payment 104 = .ok (.ldc2_w 73, 3) := by decide +kernel
theorem dMO_payment_107 : decode bMO_payment 107 = .ok (.lcmp, 1) := by decide +kernel
theorem dMO_payment_108 : decode bMO_payment 108 = .ok (.ifCond .ge 30, 3) := by decide +kernel
theorem dMO_payment_111 : decode bMO_payment 111 = .ok (.aload_n 0, 1) := by decide +kernel
theorem dMO_payment_112 : decode bMO_payment 112 = .ok (.getfield 7, 3) := by decide +kernel
theorem dMO_payment_115 : decode bMO_payment 115 = .ok (.sipush 1200, 3) := by decide +kernel
theorem dMO_payment_118 : decode bMO_payment 118 = .ok (.aload_n 0, 1) := by decide +kernel
theorem dMO_payment_119 : decode bMO_payment 119 = .ok (.getfield 7, 3) := by decide +kernel
theorem dMO_payment_122 : decode bMO_payment 122 = .ok (.iconst 4, 1) := by decide +kernel
theorem dMO_payment_123 : decode bMO_payment 123 = .ok (.laload, 1) := by decide +kernel
theorem dMO_payment_124 : decode bMO_payment 124 = .ok (.l2i, 1) := by decide +kernel
theorem dMO_payment_125 : decode bMO_payment 125 = .ok (.iadd, 1) := by decide +kernel
theorem dMO_payment_126 : decode bMO_payment 126 = .ok (.lload_n 2, 1) := by decide +kernel
theorem dMO_payment_127 : decode bMO_payment 127 = .ok (.lastore, 1) := by decide +kernel
theorem dMO_payment_128 : decode bMO_payment 128 = .ok (.aload_n 0, 1) := by decide +kernel
theorem dMO_payment_129 : decode bMO_payment 129 = .ok (.getfield 7, 3) := by decide +kernel
theorem dMO_payment_132 : decode bMO_payment 132 = .ok (.iconst 4, 1) := by decide +kernel
theorem dMO_payment_133 : decode bMO_payment 133 = .ok (.dup2, 1) := by decide +kernel
theorem dMO_payment_134 : decode bMO_payment 134 = .ok (.laload, 1) := by decide +kernel
theorem dMO_payment_135 : decode bMO_payment 135 = .ok (.lconst 1, 1) := by decide +kernel
theorem dMO_payment_136 : decode bMO_payment 136 = .ok (.ladd, 1) := by decide +kernel
theorem dMO_payment_137 : decode bMO_payment 137 = .ok (.lastore, 1) := by decide +kernel
theorem dMO_payment_138 : decode bMO_payment 138 = .ok (.iconst (-1), 1) := by decide +kernel
theorem dMO_payment_139 : decode bMO_payment 139 = .ok (.ireturn, 1) := by decide +kernel
theorem dMO_payment_140 : decode bMO_payment 140 = .ok (.aload_n 0, 1) := by decide +kernel
theorem dMO_payment_141 : decode bMO_payment 141 = .ok (.lload 4, 2) := by decide +kernel
theorem dMO_payment_143 : decode bMO_payment 143 = .ok (.iconst 1, 1) := by decide +kernel
theorem dMO_payment_144 : decode bMO_payment 144 = .ok (.invokevirtual 43, 3) := by decide +kernel
theorem dMO_payment_147 : decode bMO_payment 147 = .ok (.istore 7, 2) := by decide +kernel
theorem dMO_payment_149 : decode bMO_payment 149 = .ok (.aload_n 0, 1) := by decide +kernel
theorem dMO_payment_150 : decode bMO_payment 150 = .ok (.iload 7, 2) := by decide +kernel
theorem dMO_payment_152 : decode bMO_payment 152 = .ok (.iload 6, 2) := by decide +kernel
theorem dMO_payment_154 : decode bMO_payment 154 = .ok (.lload_n 2, 1) := by decide +kernel
theorem dMO_payment_155 : decode bMO_payment 155 = .ok (.invokevirtual 56, 3) := by decide +kernel
theorem dMO_payment_158 : decode bMO_payment 158 = .ok (.aload_n 0, 1) := by decide +kernel
theorem dMO_payment_159 : decode bMO_payment 159 = .ok (.iload 7, 2) := by decide +kernel
theorem dMO_payment_161 : decode bMO_payment 161 = .ok (.iload_n 1, 1) := by decide +kernel
theorem dMO_payment_162 : decode bMO_payment 162 = .ok (.lload_n 2, 1) := by decide +kernel
theorem dMO_payment_163 : decode bMO_payment 163 = .ok (.lneg, 1) := by decide +kernel
theorem dMO_payment_164 : decode bMO_payment 164 = .ok (.invokevirtual 56, 3) := by decide +kernel
theorem dMO_payment_167 : decode bMO_payment 167 = .ok (.aload_n 0, 1) := by decide +kernel
theorem dMO_payment_168 : decode bMO_payment 168 = .ok (.getfield 7, 3) := by decide +kernel
theorem dMO_payment_171 : decode bMO_payment 171 = .ok (.sipush 140, 3) := by decide +kernel
theorem dMO_payment_174 : decode bMO_payment 174 = .ok (.iload 7, 2) := by decide +kernel
theorem dMO_payment_176 : decode bMO_payment 176 = .ok (.iadd, 1) := by decide +kernel
theorem dMO_payment_177 : decode bMO_payment 177 = .ok (.lconst 1, 1) := by decide +kernel
theorem dMO_payment_178 : decode bMO_payment 178 = .ok (.lastore, 1) := by decide +kernel
theorem dMO_payment_179 : decode bMO_payment 179 = .ok (.lload_n 2, 1) := by decide +kernel
theorem dMO_payment_180 : decode bMO_payment 180 = .ok (.lstore 8, 2) := by decide +kernel
theorem dMO_payment_182 : decode bMO_payment 182 = .ok (.iconst 0, 1) := by decide +kernel
theorem dMO_payment_183 : decode bMO_payment 183 = .ok (.istore 10, 2) := by decide +kernel
theorem dMO_payment_185 : decode bMO_payment 185 = .ok (.aload_n 0, 1) := by decide +kernel
theorem dMO_payment_186 : decode bMO_payment 186 = .ok (.iload_n 1, 1) := by decide +kernel
theorem dMO_payment_187 : decode bMO_payment 187 = .ok (.iload 10, 2) := by decide +kernel
theorem dMO_payment_189 : decode bMO_payment 189 = .ok (.invokevirtual 75, 3) := by decide +kernel
theorem dMO_payment_192 : decode bMO_payment 192 = .ok (.ifCond .lt 112, 3) := by decide +kernel
theorem dMO_payment_195 : decode bMO_payment 195 = .ok (.aload_n 0, 1) := by decide +kernel
theorem dMO_payment_196 : decode bMO_payment 196 = .ok (.iload_n 1, 1) := by decide +kernel
theorem dMO_payment_197 : decode bMO_payment 197 = .ok (.iload 10, 2) := by decide +kernel
theorem dMO_payment_199 : decode bMO_payment 199 = .ok (.invokevirtual 75, 3) := by decide +kernel
theorem dMO_payment_202 : decode bMO_payment 202 = .ok (.istore 11, 2) := by decide +kernel
theorem dMO_payment_204 : decode bMO_payment 204 = .ok (.lload 8, 2) := by decide +kernel
theorem dMO_payment_206 : decode bMO_payment 206 = .ok (.aload_n 0, 1) := by decide +kernel
theorem dMO_payment_207 : decode bMO_payment 207 = .ok (.getfield 7, 3) := by decide +kernel
theorem dMO_payment_210 : decode bMO_payment 210 = .ok (.sipush 780, 3) := by decide +kernel
theorem dMO_payment_213 : decode bMO_payment 213 = .ok (.iload 11, 2) := by decide +kernel
theorem dMO_payment_215 : decode bMO_payment 215 = .ok (.iadd, 1) := by decide +kernel
theorem dMO_payment_216 : decode bMO_payment 216 = .ok (.laload, 1) := by decide +kernel
theorem dMO_payment_217 : decode bMO_payment 217 = .ok (.lcmp, 1) := by decide +kernel
theorem dMO_payment_218 : decode bMO_payment 218 = .ok (.ifCond .ge 8, 3) := by decide +kernel
theorem dMO_payment_221 : decode bMO_payment 221 = .ok (.lload 8, 2) := by decide +kernel
theorem dMO_payment_223 : decode bMO_payment 223 = .ok (.goto 14, 3) := by decide +kernel
theorem dMO_payment_226 : decode bMO_payment 226 = .ok (.aload_n 0, 1) := by decide +kernel
theorem dMO_payment_227 : decode bMO_payment 227 = .ok (.getfield 7, 3) := by decide +kernel
theorem dMO_payment_230 : decode bMO_payment 230 = .ok (.sipush 780, 3) := by decide +kernel
theorem dMO_payment_233 : decode bMO_payment 233 = .ok (.iload 11, 2) := by decide +kernel
theorem dMO_payment_235 : decode bMO_payment 235 = .ok (.iadd, 1) := by decide +kernel
theorem dMO_payment_236 : decode bMO_payment 236 = .ok (.laload, 1) := by decide +kernel
theorem dMO_payment_237 : decode bMO_payment 237 = .ok (.lstore 12, 2) := by decide +kernel
theorem dMO_payment_239 : decode bMO_payment 239 = .ok (.lload 12, 2) := by decide +kernel
theorem dMO_payment_241 : decode bMO_payment 241 = .ok (.lconst 0, 1) := by decide +kernel
theorem dMO_payment_242 : decode bMO_payment 242 = .ok (.lcmp, 1) := by decide +kernel
theorem dMO_payment_243 : decode bMO_payment 243 = .ok (.ifCond .le 55, 3) := by decide +kernel
theorem dMO_payment_246 : decode bMO_payment 246 = .ok (.aload_n 0, 1) := by decide +kernel
theorem dMO_payment_247 : decode bMO_payment 247 = .ok (.getfield 7, 3) := by decide +kernel
theorem dMO_payment_250 : decode bMO_payment 250 = .ok (.sipush 780, 3) := by decide +kernel
theorem dMO_payment_253 : decode bMO_payment 253 = .ok (.iload 11, 2) := by decide +kernel
theorem dMO_payment_255 : decode bMO_payment 255 = .ok (.iadd, 1) := by decide +kernel
theorem dMO_payment_256 : decode bMO_payment 256 = .ok (.dup2, 1) := by decide +kernel
theorem dMO_payment_257 : decode bMO_payment 257 = .ok (.laload, 1) := by decide +kernel
theorem dMO_payment_258 : decode bMO_payment 258 = .ok (.lload 12, 2) := by decide +kernel
theorem dMO_payment_260 : decode bMO_payment 260 = .ok (.lsub, 1) := by decide +kernel
theorem dMO_payment_261 : decode bMO_payment 261 = .ok (.lastore, 1) := by decide +kernel
theorem dMO_payment_262 : decode bMO_payment 262 = .ok (.lload 8, 2) := by decide +kernel
theorem dMO_payment_264 : decode bMO_payment 264 = .ok (.lload 12, 2) := by decide +kernel
theorem dMO_payment_266 : decode bMO_payment 266 = .ok (.lsub, 1) := by decide +kernel
theorem dMO_payment_267 : decode bMO_payment 267 = .ok (.lstore 8, 2) := by decide +kernel
theorem dMO_payment_269 : decode bMO_payment 269 = .ok (.aload_n 0, 1) := by decide +kernel
theorem dMO_payment_270 : decode bMO_payment 270 = .ok (.getfield 7, 3) := by decide +kernel
theorem dMO_payment_273 : decode bMO_payment 273 = .ok (.sipush 1020, 3) := by decide +kernel
theorem dMO_payment_276 : decode bMO_payment 276 = .ok (.iconst 4, 1) := by decide +kernel
theorem dMO_payment_277 : decode bMO_payment 277 = .ok (.iload 7, 2) := by decide +kernel
theorem dMO_payment_279 : decode bMO_payment 279 = .ok (.imul, 1) := by decide +kernel
theorem dMO_payment_280 : decode bMO_payment 280 = .ok (.iadd, 1) := by decide +kernel
theorem dMO_payment_281 : decode bMO_payment 281 = .ok (.iload 11, 2) := by decide +kernel
theorem dMO_payment_283 : decode bMO_payment 283 = .ok (.bipush 60, 2) := by decide +kernel
theorem dMO_payment_285 : decode bMO_payment 285 = .ok (.idiv, 1) := by decide +kernel
theorem dMO_payment_286 : decode bMO_payment 286 = .ok (.iadd, 1) := by decide +kernel
theorem dMO_payment_287 : decode bMO_payment 287 = .ok (.dup2, 1) := by decide +kernel
theorem dMO_payment_288 : decode bMO_payment 288 = .ok (.laload, 1) := by decide +kernel
theorem dMO_payment_289 : decode bMO_payment 289 = .ok (.lconst 1, 1) := by decide +kernel
theorem dMO_payment_290 : decode bMO_payment 290 = .ok (.iload 11, 2) := by decide +kernel
theorem dMO_payment_292 : decode bMO_payment 292 = .ok (.bipush 60, 2) := by decide +kernel
theorem dMO_payment_294 : decode bMO_payment 294 = .ok (.irem, 1) := by decide +kernel
theorem dMO_payment_295 : decode bMO_payment 295 = .ok (.lshl, 1) := by decide +kernel
theorem dMO_payment_296 : decode bMO_payment 296 = .ok (.lor, 1) := by decide +kernel
theorem dMO_payment_297 : decode bMO_payment 297 = .ok (.lastore, 1) := by decide +kernel
theorem dMO_payment_298 : decode bMO_payment 298 = .ok (.iinc 10 1, 3) := by decide +kernel
theorem dMO_payment_301 : decode bMO_payment 301 = .ok (.goto (-116), 3) := by decide +kernel
theorem dMO_payment_304 : decode bMO_payment 304 = .ok (.iload 7, 2) := by decide +kernel
theorem dMO_payment_306 : decode bMO_payment 306 = .ok (.ireturn, 1) := by decide +kernel
theorem dMO_rate_0 : decode bMO_rate 0 = .ok (.aload_n 0, 1) := by decide +kernel
theorem dMO_rate_1 : decode bMO_rate 1 = .ok (.iconst 0, 1) := by decide +kernel
theorem dMO_rate_2 : decode bMO_rate 2 = .ok (.putfield 16, 3) := by decide +kernel
theorem dMO_rate_5 : decode bMO_rate 5 = .ok (.lload_n 1, 1) := by decide +kernel
theorem dMO_rate_6 : decode bMO_rate 6 = .ok (.lconst 0, 1) := by decide +kernel
theorem dMO_rate_7 : decode bMO_rate 7 = .ok (.ldc2_w 127, 3) := by decide +kernel
theorem dMO_rate_10 : decode bMO_rate 10 = .ok (.invokestatic 26, 3) := by decide +kernel
theorem dMO_rate_13 : decode bMO_rate 13 = .ok (.ifCond .eq 14, 3) := by decide +kernel
theorem dMO_rate_16 : decode bMO_rate 16 = .ok (.lload_n 3, 1) := by decide +kernel
theorem dMO_rate_17 : decode bMO_rate 17 = .ok (.lconst 1, 1) := by decide +kernel
theorem dMO_rate_18 : decode bMO_rate 18 = .ok (.ldc2_w 127, 3) := by decide +kernel
theorem dMO_rate_21 : decode bMO_rate 21 = .ok (.invokestatic 26, 3) := by decide +kernel
theorem dMO_rate_24 : decode bMO_rate 24 = .ok (.ifCond .ne 5, 3) := by decide +kernel
theorem dMO_rate_27 : decode bMO_rate 27 = .ok (.iconst 0, 1) := by decide +kernel
theorem dMO_rate_28 : decode bMO_rate 28 = .ok (.ireturn, 1) := by decide +kernel
theorem dMO_rate_29 : decode bMO_rate 29 = .ok (.aload_n 0, 1) := by decide +kernel
theorem dMO_rate_30 : decode bMO_rate 30 = .ok (.getfield 7, 3) := by decide +kernel
theorem dMO_rate_33 : decode bMO_rate 33 = .ok (.iconst 5, 1) := by decide +kernel
theorem dMO_rate_34 : decode bMO_rate 34 = .ok (.lload_n 1, 1) := by decide +kernel
theorem dMO_rate_35 : decode bMO_rate 35 = .ok (.lastore, 1) := by decide +kernel
theorem dMO_rate_36 : decode bMO_rate 36 = .ok (.aload_n 0, 1) := by decide +kernel
theorem dMO_rate_37 : decode bMO_rate 37 = .ok (.getfield 7, 3) := by decide +kernel
theorem dMO_rate_40 : decode bMO_rate 40 = .ok (.bipush 6, 2) := by decide +kernel
theorem dMO_rate_42 : decode bMO_rate 42 = .ok (.lload_n 3, 1) := by decide +kernel
theorem dMO_rate_43 : decode bMO_rate 43 = .ok (.lastore, 1) := by decide +kernel
theorem dMO_rate_44 : decode bMO_rate 44 = .ok (.iconst 1, 1) := by decide +kernel
theorem dMO_rate_45 : decode bMO_rate 45 = .ok (.ireturn, 1) := by decide +kernel
theorem dMO_reverse_0 : decode bMO_reverse 0 = .ok (.aload_n 0, 1) := by decide +kernel
theorem dMO_reverse_1 : decode bMO_reverse 1 = .ok (.iconst 0, 1) := by decide +kernel
theorem dMO_reverse_2 : decode bMO_reverse 2 = .ok (.putfield 16, 3) := by decide +kernel
theorem dMO_reverse_5 : decode bMO_reverse 5 = .ok (.aload_n 0, 1) := by decide +kernel
theorem dMO_reverse_6 : decode bMO_reverse 6 = .ok (.iload_n 1, 1) := by decide +kernel
theorem dMO_reverse_7 : decode bMO_reverse 7 = .ok (.invokevirtual 47, 3) := by decide +kernel
theorem dMO_reverse_10 : decode bMO_reverse 10 = .ok (.ifCond .eq 76, 3) := by decide +kernel
theorem dMO_reverse_13 : decode bMO_reverse 13 = .ok (.aload_n 0, 1) := by decide +kernel
theorem dMO_reverse_14 : decode bMO_reverse 14 = .ok (.getfield 7, 3) := by decide +kernel
theorem dMO_reverse_17 : decode bMO_reverse 17 = .ok (.sipush 140, 3) := by decide +kernel
theorem dMO_reverse_20 : decode bMO_reverse 20 = .ok (.iload_n 1, 1) := by decide +kernel
theorem dMO_reverse_21 : decode bMO_reverse 21 = .ok (.iadd, 1) := by decide +kernel
theorem dMO_reverse_22 : decode bMO_reverse 22 = .ok (.laload, 1) := by decide +kernel
theorem dMO_reverse_23 : decode bMO_reverse 23 = .ok (.lconst 0, 1) := by decide +kernel
theorem dMO_reverse_24 : decode bMO_reverse 24 = .ok (.lcmp, 1) := by decide +kernel
theorem dMO_reverse_25 : decode bMO_reverse 25 = .ok (.ifCond .eq 61, 3) := by decide +kernel
theorem dMO_reverse_28 : decode bMO_reverse 28 = .ok (.aload_n 0, 1) := by decide +kernel
theorem dMO_reverse_29 : decode bMO_reverse 29 = .ok (.getfield 7, 3) := by decide +kernel
theorem dMO_reverse_32 : decode bMO_reverse 32 = .ok (.sipush 220, 3) := by decide +kernel
theorem dMO_reverse_35 : decode bMO_reverse 35 = .ok (.iload_n 1, 1) := by decide +kernel
theorem dMO_reverse_36 : decode bMO_reverse 36 = .ok (.iadd, 1) := by decide +kernel

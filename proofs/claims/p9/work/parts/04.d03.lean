theorem dJO_daysLate_3 : decode bJO_daysLate 3 = .ok (.getfield 15, 3) := by decide +kernel
theorem dJO_daysLate_6 : decode bJO_daysLate 6 = .ok (.iload_n 1, 1) := by decide +kernel
theorem dJO_daysLate_7 : decode bJO_daysLate 7 = .ok (.bipush 6, 2) := by decide +kernel
theorem dJO_daysLate_9 : decode bJO_daysLate 9 = .ok (.idiv, 1) := by decide +kernel
theorem dJO_daysLate_10 : decode bJO_daysLate 10 = .ok (.iaload, 1) := by decide +kernel
theorem dJO_daysLate_11 : decode bJO_daysLate 11 = .ok (.isub, 1) := by decide +kernel
theorem dJO_daysLate_12 : decode bJO_daysLate 12 = .ok (.bipush 30, 2) := by decide +kernel
theorem dJO_daysLate_14 : decode bJO_daysLate 14 = .ok (.isub, 1) := by decide +kernel
theorem dJO_daysLate_15 : decode bJO_daysLate 15 = .ok (.invokestatic 90, 3) := by decide +kernel
theorem dJO_daysLate_18 : decode bJO_daysLate 18 = .ok (.ireturn, 1) := by decide +kernel
theorem dJO_dueOf_0 : decode bJO_dueOf 0 = .ok (.lconst 0, 1) := by decide +kernel
theorem dJO_dueOf_1 : decode bJO_dueOf 1 = .ok (.lstore_n 2, 1) := by decide +kernel
theorem dJO_dueOf_2 : decode bJO_dueOf 2 = .ok (.aload_n 0, 1) := by decide +kernel
theorem dJO_dueOf_3 : decode bJO_dueOf 3 = .ok (.getfield 9, 3) := by decide +kernel
theorem dJO_dueOf_6 : decode bJO_dueOf 6 = .ok (.bipush 6, 2) := by decide +kernel
theorem dJO_dueOf_8 : decode bJO_dueOf 8 = .ok (.imul, 1) := by decide +kernel
theorem dJO_dueOf_9 : decode bJO_dueOf 9 = .ok (.istore 4, 2) := by decide +kernel
theorem dJO_dueOf_11 : decode bJO_dueOf 11 = .ok (.iconst 0, 1) := by decide +kernel
theorem dJO_dueOf_12 : decode bJO_dueOf 12 = .ok (.istore 5, 2) := by decide +kernel
theorem dJO_dueOf_14 : decode bJO_dueOf 14 = .ok (.iload 5, 2) := by decide +kernel
theorem dJO_dueOf_16 : decode bJO_dueOf 16 = .ok (.iload 4, 2) := by decide +kernel
theorem dJO_dueOf_18 : decode bJO_dueOf 18 = .ok (.if_icmp .ge 34, 3) := by decide +kernel
theorem dJO_dueOf_21 : decode bJO_dueOf 21 = .ok (.aload_n 0, 1) := by decide +kernel
theorem dJO_dueOf_22 : decode bJO_dueOf 22 = .ok (.iload 5, 2) := by decide +kernel
theorem dJO_dueOf_24 : decode bJO_dueOf 24 = .ok (.iload_n 1, 1) := by decide +kernel
theorem dJO_dueOf_25 : decode bJO_dueOf 25 = .ok (.invokevirtual 73, 3) := by decide +kernel
theorem dJO_dueOf_28 : decode bJO_dueOf 28 = .ok (.istore 6, 2) := by decide +kernel
theorem dJO_dueOf_30 : decode bJO_dueOf 30 = .ok (.iload 6, 2) := by decide +kernel
theorem dJO_dueOf_32 : decode bJO_dueOf 32 = .ok (.iconst (-1), 1) := by decide +kernel
theorem dJO_dueOf_33 : decode bJO_dueOf 33 = .ok (.if_icmp .eq 13, 3) := by decide +kernel
theorem dJO_dueOf_36 : decode bJO_dueOf 36 = .ok (.lload_n 2, 1) := by decide +kernel
theorem dJO_dueOf_37 : decode bJO_dueOf 37 = .ok (.aload_n 0, 1) := by decide +kernel
theorem dJO_dueOf_38 : decode bJO_dueOf 38 = .ok (.getfield 35, 3) := by decide +kernel
theorem dJO_dueOf_41 : decode bJO_dueOf 41 = .ok (.iload 6, 2) := by decide +kernel
theorem dJO_dueOf_43 : decode bJO_dueOf 43 = .ok (.laload, 1) := by decide +kernel
theorem dJO_dueOf_44 : decode bJO_dueOf 44 = .ok (.ladd, 1) := by decide +kernel
theorem dJO_dueOf_45 : decode bJO_dueOf 45 = .ok (.lstore_n 2, 1) := by decide +kernel
theorem dJO_dueOf_46 : decode bJO_dueOf 46 = .ok (.iinc 5 1, 3) := by decide +kernel
theorem dJO_dueOf_49 : decode bJO_dueOf 49 = .ok (.goto (-35), 3) := by decide +kernel
theorem dJO_dueOf_52 : decode bJO_dueOf 52 = .ok (.lload_n 2, 1) := by decide +kernel
theorem dJO_dueOf_53 : decode bJO_dueOf 53 = .ok (.lreturn, 1) := by decide +kernel
theorem dJO_isFull_0 : decode bJO_isFull 0 = .ok (.aload_n 0, 1) := by decide +kernel
theorem dJO_isFull_1 : decode bJO_isFull 1 = .ok (.getfield 9, 3) := by decide +kernel
theorem dJO_isFull_4 : decode bJO_isFull 4 = .ok (.bipush 40, 2) := by decide +kernel
theorem dJO_isFull_6 : decode bJO_isFull 6 = .ok (.if_icmp .lt 7, 3) := by decide +kernel
theorem dJO_isFull_9 : decode bJO_isFull 9 = .ok (.iconst 1, 1) := by decide +kernel
theorem dJO_isFull_10 : decode bJO_isFull 10 = .ok (.goto 4, 3) := by decide +kernel
theorem dJO_isFull_13 : decode bJO_isFull 13 = .ok (.iconst 0, 1) := by decide +kernel
theorem dJO_isFull_14 : decode bJO_isFull 14 = .ok (.ireturn, 1) := by decide +kernel
theorem dJO_isOpen_0 : decode bJO_isOpen 0 = .ok (.iload_n 1, 1) := by decide +kernel
theorem dJO_isOpen_1 : decode bJO_isOpen 1 = .ok (.ifCond .lt 24, 3) := by decide +kernel
theorem dJO_isOpen_4 : decode bJO_isOpen 4 = .ok (.iload_n 1, 1) := by decide +kernel
theorem dJO_isOpen_5 : decode bJO_isOpen 5 = .ok (.aload_n 0, 1) := by decide +kernel
theorem dJO_isOpen_6 : decode bJO_isOpen 6 = .ok (.getfield 9, 3) := by decide +kernel
theorem dJO_isOpen_9 : decode bJO_isOpen 9 = .ok (.if_icmp .ge 16, 3) := by decide +kernel
theorem dJO_isOpen_12 : decode bJO_isOpen 12 = .ok (.aload_n 0, 1) := by decide +kernel
theorem dJO_isOpen_13 : decode bJO_isOpen 13 = .ok (.getfield 19, 3) := by decide +kernel
theorem dJO_isOpen_16 : decode bJO_isOpen 16 = .ok (.iload_n 1, 1) := by decide +kernel
theorem dJO_isOpen_17 : decode bJO_isOpen 17 = .ok (.iaload, 1) := by decide +kernel
theorem dJO_isOpen_18 : decode bJO_isOpen 18 = .ok (.ifCond .ne 7, 3) := by decide +kernel
theorem dJO_isOpen_21 : decode bJO_isOpen 21 = .ok (.iconst 1, 1) := by decide +kernel
theorem dJO_isOpen_22 : decode bJO_isOpen 22 = .ok (.goto 4, 3) := by decide +kernel
theorem dJO_isOpen_25 : decode bJO_isOpen 25 = .ok (.iconst 0, 1) := by decide +kernel
theorem dJO_isOpen_26 : decode bJO_isOpen 26 = .ok (.ireturn, 1) := by decide +kernel
theorem dJO_isOverdue_0 : decode bJO_isOverdue 0 = .ok (.aload_n 0, 1) := by decide +kernel
theorem dJO_isOverdue_1 : decode bJO_isOverdue 1 = .ok (.getfield 9, 3) := by decide +kernel
theorem dJO_isOverdue_4 : decode bJO_isOverdue 4 = .ok (.bipush 6, 2) := by decide +kernel
theorem dJO_isOverdue_6 : decode bJO_isOverdue 6 = .ok (.imul, 1) := by decide +kernel
theorem dJO_isOverdue_7 : decode bJO_isOverdue 7 = .ok (.istore_n 3, 1) := by decide +kernel
theorem dJO_isOverdue_8 : decode bJO_isOverdue 8 = .ok (.iconst 0, 1) := by decide +kernel
theorem dJO_isOverdue_9 : decode bJO_isOverdue 9 = .ok (.istore 4, 2) := by decide +kernel
theorem dJO_isOverdue_11 : decode bJO_isOverdue 11 = .ok (.iload 4, 2) := by decide +kernel
theorem dJO_isOverdue_13 : decode bJO_isOverdue 13 = .ok (.iload_n 3, 1) := by decide +kernel
theorem dJO_isOverdue_14 : decode bJO_isOverdue 14 = .ok (.if_icmp .ge 48, 3) := by decide +kernel
theorem dJO_isOverdue_17 : decode bJO_isOverdue 17 = .ok (.aload_n 0, 1) := by decide +kernel
theorem dJO_isOverdue_18 : decode bJO_isOverdue 18 = .ok (.iload 4, 2) := by decide +kernel
theorem dJO_isOverdue_20 : decode bJO_isOverdue 20 = .ok (.iload_n 1, 1) := by decide +kernel
theorem dJO_isOverdue_21 : decode bJO_isOverdue 21 = .ok (.invokevirtual 73, 3) := by decide +kernel
theorem dJO_isOverdue_24 : decode bJO_isOverdue 24 = .ok (.istore 5, 2) := by decide +kernel
theorem dJO_isOverdue_26 : decode bJO_isOverdue 26 = .ok (.iload 5, 2) := by decide +kernel
theorem dJO_isOverdue_28 : decode bJO_isOverdue 28 = .ok (.iconst (-1), 1) := by decide +kernel
theorem dJO_isOverdue_29 : decode bJO_isOverdue 29 = .ok (.if_icmp .eq 27, 3) := by decide +kernel
theorem dJO_isOverdue_32 : decode bJO_isOverdue 32 = .ok (.aload_n 0, 1) := by decide +kernel
theorem dJO_isOverdue_33 : decode bJO_isOverdue 33 = .ok (.getfield 35, 3) := by decide +kernel
theorem dJO_isOverdue_36 : decode bJO_isOverdue 36 = .ok (.iload 5, 2) := by decide +kernel
theorem dJO_isOverdue_38 : decode bJO_isOverdue 38 = .ok (.laload, 1) := by decide +kernel
theorem dJO_isOverdue_39 : decode bJO_isOverdue 39 = .ok (.lconst 0, 1) := by decide +kernel
theorem dJO_isOverdue_40 : decode bJO_isOverdue 40 = .ok (.lcmp, 1) := by decide +kernel
theorem dJO_isOverdue_41 : decode bJO_isOverdue 41 = .ok (.ifCond .le 15, 3) := by decide +kernel
theorem dJO_isOverdue_44 : decode bJO_isOverdue 44 = .ok (.aload_n 0, 1) := by decide +kernel
theorem dJO_isOverdue_45 : decode bJO_isOverdue 45 = .ok (.iload 5, 2) := by decide +kernel
theorem dJO_isOverdue_47 : decode bJO_isOverdue 47 = .ok (.iload_n 2, 1) := by decide +kernel
theorem dJO_isOverdue_48 : decode bJO_isOverdue 48 = .ok (.invokevirtual 87, 3) := by decide +kernel
theorem dJO_isOverdue_51 : decode bJO_isOverdue 51 = .ok (.ifCond .le 5, 3) := by decide +kernel
theorem dJO_isOverdue_54 : decode bJO_isOverdue 54 = .ok (.iconst 1, 1) := by decide +kernel
theorem dJO_isOverdue_55 : decode bJO_isOverdue 55 = .ok (.ireturn, 1) := by decide +kernel
theorem dJO_isOverdue_56 : decode bJO_isOverdue 56 = .ok (.iinc 4 1, 3) := by decide +kernel
theorem dJO_isOverdue_59 : decode bJO_isOverdue 59 = .ok (.goto (-48), 3) := by decide +kernel
theorem dJO_isOverdue_62 : decode bJO_isOverdue 62 = .ok (.iconst 0, 1) := by decide +kernel
theorem dJO_isOverdue_63 : decode bJO_isOverdue 63 = .ok (.ireturn, 1) := by decide +kernel
theorem dJO_isPostedRow_0 : decode bJO_isPostedRow 0 = .ok (.iload_n 1, 1) := by decide +kernel
theorem dJO_isPostedRow_1 : decode bJO_isPostedRow 1 = .ok (.bipush 6, 2) := by decide +kernel
theorem dJO_isPostedRow_3 : decode bJO_isPostedRow 3 = .ok (.idiv, 1) := by decide +kernel
theorem dJO_isPostedRow_4 : decode bJO_isPostedRow 4 = .ok (.istore_n 3, 1) := by decide +kernel
theorem dJO_isPostedRow_5 : decode bJO_isPostedRow 5 = .ok (.aload_n 0, 1) := by decide +kernel
theorem dJO_isPostedRow_6 : decode bJO_isPostedRow 6 = .ok (.getfield 19, 3) := by decide +kernel
theorem dJO_isPostedRow_9 : decode bJO_isPostedRow 9 = .ok (.iload_n 3, 1) := by decide +kernel
theorem dJO_isPostedRow_10 : decode bJO_isPostedRow 10 = .ok (.iaload, 1) := by decide +kernel
theorem dJO_isPostedRow_11 : decode bJO_isPostedRow 11 = .ok (.ifCond .eq 30, 3) := by decide +kernel
theorem dJO_isPostedRow_14 : decode bJO_isPostedRow 14 = .ok (.iload_n 1, 1) := by decide +kernel
theorem dJO_isPostedRow_15 : decode bJO_isPostedRow 15 = .ok (.bipush 6, 2) := by decide +kernel
theorem dJO_isPostedRow_17 : decode bJO_isPostedRow 17 = .ok (.irem, 1) := by decide +kernel
theorem dJO_isPostedRow_18 : decode bJO_isPostedRow 18 = .ok (.aload_n 0, 1) := by decide +kernel
theorem dJO_isPostedRow_19 : decode bJO_isPostedRow 19 = .ok (.getfield 22, 3) := by decide +kernel
theorem dJO_isPostedRow_22 : decode bJO_isPostedRow 22 = .ok (.iload_n 3, 1) := by decide +kernel
theorem dJO_isPostedRow_23 : decode bJO_isPostedRow 23 = .ok (.iaload, 1) := by decide +kernel
theorem dJO_isPostedRow_24 : decode bJO_isPostedRow 24 = .ok (.if_icmp .ge 17, 3) := by decide +kernel
theorem dJO_isPostedRow_27 : decode bJO_isPostedRow 27 = .ok (.aload_n 0, 1) := by decide +kernel
theorem dJO_isPostedRow_28 : decode bJO_isPostedRow 28 = .ok (.getfield 28, 3) := by decide +kernel
theorem dJO_isPostedRow_31 : decode bJO_isPostedRow 31 = .ok (.iload_n 1, 1) := by decide +kernel
theorem dJO_isPostedRow_32 : decode bJO_isPostedRow 32 = .ok (.iaload, 1) := by decide +kernel
theorem dJO_isPostedRow_33 : decode bJO_isPostedRow 33 = .ok (.iload_n 2, 1) := by decide +kernel
theorem dJO_isPostedRow_34 : decode bJO_isPostedRow 34 = .ok (.if_icmp .ne 7, 3) := by decide +kernel
theorem dJO_isPostedRow_37 : decode bJO_isPostedRow 37 = .ok (.iconst 1, 1) := by decide +kernel
theorem dJO_isPostedRow_38 : decode bJO_isPostedRow 38 = .ok (.goto 4, 3) := by decide +kernel
theorem dJO_isPostedRow_41 : decode bJO_isPostedRow 41 = .ok (.iconst 0, 1) := by decide +kernel
theorem dJO_isPostedRow_42 : decode bJO_isPostedRow 42 = .ok (.ireturn, 1) := by decide +kernel
theorem dJO_isPostedRowIn_0 : decode bJO_isPostedRowIn 0 = .ok (.aload_n 0, 1) := by decide +kernel
theorem dJO_isPostedRowIn_1 : decode bJO_isPostedRowIn 1 = .ok (.getfield 15, 3) := by decide +kernel
theorem dJO_isPostedRowIn_4 : decode bJO_isPostedRowIn 4 = .ok (.iload_n 1, 1) := by decide +kernel
theorem dJO_isPostedRowIn_5 : decode bJO_isPostedRowIn 5 = .ok (.bipush 6, 2) := by decide +kernel
theorem dJO_isPostedRowIn_7 : decode bJO_isPostedRowIn 7 = .ok (.idiv, 1) := by decide +kernel
theorem dJO_isPostedRowIn_8 : decode bJO_isPostedRowIn 8 = .ok (.iaload, 1) := by decide +kernel
theorem dJO_isPostedRowIn_9 : decode bJO_isPostedRowIn 9 = .ok (.bipush 30, 2) := by decide +kernel
theorem dJO_isPostedRowIn_11 : decode bJO_isPostedRowIn 11 = .ok (.idiv, 1) := by decide +kernel
theorem dJO_isPostedRowIn_12 : decode bJO_isPostedRowIn 12 = .ok (.iload_n 3, 1) := by decide +kernel
theorem dJO_isPostedRowIn_13 : decode bJO_isPostedRowIn 13 = .ok (.if_icmp .ne 16, 3) := by decide +kernel
theorem dJO_isPostedRowIn_16 : decode bJO_isPostedRowIn 16 = .ok (.aload_n 0, 1) := by decide +kernel
theorem dJO_isPostedRowIn_17 : decode bJO_isPostedRowIn 17 = .ok (.iload_n 1, 1) := by decide +kernel
theorem dJO_isPostedRowIn_18 : decode bJO_isPostedRowIn 18 = .ok (.iload_n 2, 1) := by decide +kernel
theorem dJO_isPostedRowIn_19 : decode bJO_isPostedRowIn 19 = .ok (.invokevirtual 61, 3) := by decide +kernel
theorem dJO_isPostedRowIn_22 : decode bJO_isPostedRowIn 22 = .ok (.ifCond .eq 7, 3) := by decide +kernel
theorem dJO_isPostedRowIn_25 : decode bJO_isPostedRowIn 25 = .ok (.iconst 1, 1) := by decide +kernel
theorem dJO_isPostedRowIn_26 : decode bJO_isPostedRowIn 26 = .ok (.goto 4, 3) := by decide +kernel
theorem dJO_isPostedRowIn_29 : decode bJO_isPostedRowIn 29 = .ok (.iconst 0, 1) := by decide +kernel
theorem dJO_isPostedRowIn_30 : decode bJO_isPostedRowIn 30 = .ok (.ireturn, 1) := by decide +kernel
theorem dJO_isReversible_0 : decode bJO_isReversible 0 = .ok (.iload_n 1, 1) := by decide +kernel
theorem dJO_isReversible_1 : decode bJO_isReversible 1 = .ok (.ifCond .lt 21, 3) := by decide +kernel
theorem dJO_isReversible_4 : decode bJO_isReversible 4 = .ok (.iload_n 1, 1) := by decide +kernel
theorem dJO_isReversible_5 : decode bJO_isReversible 5 = .ok (.aload_n 0, 1) := by decide +kernel
theorem dJO_isReversible_6 : decode bJO_isReversible 6 = .ok (.getfield 9, 3) := by decide +kernel
theorem dJO_isReversible_9 : decode bJO_isReversible 9 = .ok (.if_icmp .ge 13, 3) := by decide +kernel
theorem dJO_isReversible_12 : decode bJO_isReversible 12 = .ok (.aload_n 0, 1) := by decide +kernel
theorem dJO_isReversible_13 : decode bJO_isReversible 13 = .ok (.getfield 19, 3) := by decide +kernel
theorem dJO_isReversible_16 : decode bJO_isReversible 16 = .ok (.iload_n 1, 1) := by decide +kernel
theorem dJO_isReversible_17 : decode bJO_isReversible 17 = .ok (.iaload, 1) := by decide +kernel
theorem dJO_isReversible_18 : decode bJO_isReversible 18 = .ok (.iconst 1, 1) := by decide +kernel
theorem dJO_isReversible_19 : decode bJO_isReversible 19 = .ok (.if_icmp .eq 5, 3) := by decide +kernel
theorem dJO_isReversible_22 : decode bJO_isReversible 22 = .ok (.iconst 0, 1) := by decide +kernel
theorem dJO_isReversible_23 : decode bJO_isReversible 23 = .ok (.ireturn, 1) := by decide +kernel
theorem dJO_isReversible_24 : decode bJO_isReversible 24 = .ok (.iload_n 1, 1) := by decide +kernel
theorem dJO_isReversible_25 : decode bJO_isReversible 25 = .ok (.bipush 6, 2) := by decide +kernel
theorem dJO_isReversible_27 : decode bJO_isReversible 27 = .ok (.imul, 1) := by decide +kernel
theorem dJO_isReversible_28 : decode bJO_isReversible 28 = .ok (.istore_n 2, 1) := by decide +kernel
theorem dJO_isReversible_29 : decode bJO_isReversible 29 = .ok (.iload_n 2, 1) := by decide +kernel
theorem dJO_isReversible_30 : decode bJO_isReversible 30 = .ok (.aload_n 0, 1) := by decide +kernel
theorem dJO_isReversible_31 : decode bJO_isReversible 31 = .ok (.getfield 22, 3) := by decide +kernel
theorem dJO_isReversible_34 : decode bJO_isReversible 34 = .ok (.iload_n 1, 1) := by decide +kernel
theorem dJO_isReversible_35 : decode bJO_isReversible 35 = .ok (.iaload, 1) := by decide +kernel
theorem dJO_isReversible_36 : decode bJO_isReversible 36 = .ok (.iadd, 1) := by decide +kernel
theorem dJO_isReversible_37 : decode bJO_isReversible 37 = .ok (.istore_n 3, 1) := by decide +kernel
theorem dJO_isReversible_38 : decode bJO_isReversible 38 = .ok (.iload_n 2, 1) := by decide +kernel
theorem dJO_isReversible_39 : decode bJO_isReversible 39 = .ok (.istore 4, 2) := by decide +kernel
theorem dJO_isReversible_41 : decode bJO_isReversible 41 = .ok (.iload 4, 2) := by decide +kernel
theorem dJO_isReversible_43 : decode bJO_isReversible 43 = .ok (.iload_n 3, 1) := by decide +kernel
theorem dJO_isReversible_44 : decode bJO_isReversible 44 = .ok (.if_icmp .ge 43, 3) := by decide +kernel
theorem dJO_isReversible_47 : decode bJO_isReversible 47 = .ok (.aload_n 0, 1) := by decide +kernel
theorem dJO_isReversible_48 : decode bJO_isReversible 48 = .ok (.getfield 35, 3) := by decide +kernel
theorem dJO_isReversible_51 : decode bJO_isReversible 51 = .ok (.iload 4, 2) := by decide +kernel
theorem dJO_isReversible_53 : decode bJO_isReversible 53 = .ok (.laload, 1) := by decide +kernel
theorem dJO_isReversible_54 : decode bJO_isReversible 54 = .ok (.ldc2_w 59, 3) := by decide +kernel
theorem dJO_isReversible_57 : decode bJO_isReversible 57 = .ok (.lcmp, 1) := by decide +kernel
theorem dJO_isReversible_58 : decode bJO_isReversible 58 = .ok (.ifCond .eq 23, 3) := by decide +kernel
theorem dJO_isReversible_61 : decode bJO_isReversible 61 = .ok (.aload_n 0, 1) := by decide +kernel
theorem dJO_isReversible_62 : decode bJO_isReversible 62 = .ok (.getfield 35, 3) := by decide +kernel
theorem dJO_isReversible_65 : decode bJO_isReversible 65 = .ok (.iload 4, 2) := by decide +kernel
theorem dJO_isReversible_67 : decode bJO_isReversible 67 = .ok (.laload, 1) := by decide +kernel
theorem dJO_isReversible_68 : decode bJO_isReversible 68 = .ok (.aload_n 0, 1) := by decide +kernel
theorem dJO_isReversible_69 : decode bJO_isReversible 69 = .ok (.getfield 31, 3) := by decide +kernel
theorem dJO_isReversible_72 : decode bJO_isReversible 72 = .ok (.iload 4, 2) := by decide +kernel
theorem dJO_isReversible_74 : decode bJO_isReversible 74 = .ok (.laload, 1) := by decide +kernel
theorem dJO_isReversible_75 : decode bJO_isReversible 75 = .ok (.lcmp, 1) := by decide +kernel
theorem dJO_isReversible_76 : decode bJO_isReversible 76 = .ok (.ifCond .eq 5, 3) := by decide +kernel
theorem dJO_isReversible_79 : decode bJO_isReversible 79 = .ok (.iconst 0, 1) := by decide +kernel
theorem dJO_isReversible_80 : decode bJO_isReversible 80 = .ok (.ireturn, 1) := by decide +kernel
theorem dJO_isReversible_81 : decode bJO_isReversible 81 = .ok (.iinc 4 1, 3) := by decide +kernel
theorem dJO_isReversible_84 : decode bJO_isReversible 84 = .ok (.goto (-43), 3) := by decide +kernel
theorem dJO_isReversible_87 : decode bJO_isReversible 87 = .ok (.iconst 1, 1) := by decide +kernel
theorem dJO_isReversible_88 : decode bJO_isReversible 88 = .ok (.ireturn, 1) := by decide +kernel
theorem dJO_itemAt_0 : decode bJO_itemAt 0 = .ok (.aload_n 0, 1) := by decide +kernel
theorem dJO_itemAt_1 : decode bJO_itemAt 1 = .ok (.getfield 25, 3) := by decide +kernel
theorem dJO_itemAt_4 : decode bJO_itemAt 4 = .ok (.iload_n 1, 1) := by decide +kernel
theorem dJO_itemAt_5 : decode bJO_itemAt 5 = .ok (.bipush 6, 2) := by decide +kernel
theorem dJO_itemAt_7 : decode bJO_itemAt 7 = .ok (.idiv, 1) := by decide +kernel
theorem dJO_itemAt_8 : decode bJO_itemAt 8 = .ok (.iaload, 1) := by decide +kernel
theorem dJO_itemAt_9 : decode bJO_itemAt 9 = .ok (.istore_n 3, 1) := by decide +kernel
theorem dJO_itemAt_10 : decode bJO_itemAt 10 = .ok (.iload_n 1, 1) := by decide +kernel
theorem dJO_itemAt_11 : decode bJO_itemAt 11 = .ok (.bipush 6, 2) := by decide +kernel
theorem dJO_itemAt_13 : decode bJO_itemAt 13 = .ok (.irem, 1) := by decide +kernel
theorem dJO_itemAt_14 : decode bJO_itemAt 14 = .ok (.istore 4, 2) := by decide +kernel
theorem dJO_itemAt_16 : decode bJO_itemAt 16 = .ok (.iload_n 3, 1) := by decide +kernel
theorem dJO_itemAt_17 : decode bJO_itemAt 17 = .ok (.bipush 6, 2) := by decide +kernel
theorem dJO_itemAt_19 : decode bJO_itemAt 19 = .ok (.imul, 1) := by decide +kernel
theorem dJO_itemAt_20 : decode bJO_itemAt 20 = .ok (.iload 4, 2) := by decide +kernel
theorem dJO_itemAt_22 : decode bJO_itemAt 22 = .ok (.iadd, 1) := by decide +kernel
theorem dJO_itemAt_23 : decode bJO_itemAt 23 = .ok (.istore 5, 2) := by decide +kernel
theorem dJO_itemAt_25 : decode bJO_itemAt 25 = .ok (.iload 4, 2) := by decide +kernel
theorem dJO_itemAt_27 : decode bJO_itemAt 27 = .ok (.aload_n 0, 1) := by decide +kernel
theorem dJO_itemAt_28 : decode bJO_itemAt 28 = .ok (.getfield 22, 3) := by decide +kernel
theorem dJO_itemAt_31 : decode bJO_itemAt 31 = .ok (.iload_n 3, 1) := by decide +kernel
theorem dJO_itemAt_32 : decode bJO_itemAt 32 = .ok (.iaload, 1) := by decide +kernel
theorem dJO_itemAt_33 : decode bJO_itemAt 33 = .ok (.if_icmp .ge 14, 3) := by decide +kernel
theorem dJO_itemAt_36 : decode bJO_itemAt 36 = .ok (.aload_n 0, 1) := by decide +kernel
theorem dJO_itemAt_37 : decode bJO_itemAt 37 = .ok (.getfield 28, 3) := by decide +kernel
theorem dJO_itemAt_40 : decode bJO_itemAt 40 = .ok (.iload 5, 2) := by decide +kernel
theorem dJO_itemAt_42 : decode bJO_itemAt 42 = .ok (.iaload, 1) := by decide +kernel
theorem dJO_itemAt_43 : decode bJO_itemAt 43 = .ok (.iload_n 2, 1) := by decide +kernel
theorem dJO_itemAt_44 : decode bJO_itemAt 44 = .ok (.if_icmp .eq 5, 3) := by decide +kernel
theorem dJO_itemAt_47 : decode bJO_itemAt 47 = .ok (.iconst (-1), 1) := by decide +kernel
theorem dJO_itemAt_48 : decode bJO_itemAt 48 = .ok (.ireturn, 1) := by decide +kernel
theorem dJO_itemAt_49 : decode bJO_itemAt 49 = .ok (.aload_n 0, 1) := by decide +kernel
theorem dJO_itemAt_50 : decode bJO_itemAt 50 = .ok (.getfield 35, 3) := by decide +kernel
theorem dJO_itemAt_53 : decode bJO_itemAt 53 = .ok (.iload 5, 2) := by decide +kernel
theorem dJO_itemAt_55 : decode bJO_itemAt 55 = .ok (.laload, 1) := by decide +kernel
theorem dJO_itemAt_56 : decode bJO_itemAt 56 = .ok (.ldc2_w 59, 3) := by decide +kernel
theorem dJO_itemAt_59 : decode bJO_itemAt 59 = .ok (.lcmp, 1) := by decide +kernel
theorem dJO_itemAt_60 : decode bJO_itemAt 60 = .ok (.ifCond .ne 7, 3) := by decide +kernel
theorem dJO_itemAt_63 : decode bJO_itemAt 63 = .ok (.iconst (-1), 1) := by decide +kernel
theorem dJO_itemAt_64 : decode bJO_itemAt 64 = .ok (.goto 5, 3) := by decide +kernel
theorem dJO_itemAt_67 : decode bJO_itemAt 67 = .ok (.iload 5, 2) := by decide +kernel
theorem dJO_itemAt_69 : decode bJO_itemAt 69 = .ok (.ireturn, 1) := by decide +kernel
theorem dJO_itemOf_0 : decode bJO_itemOf 0 = .ok (.iconst 0, 1) := by decide +kernel
theorem dJO_itemOf_1 : decode bJO_itemOf 1 = .ok (.istore_n 3, 1) := by decide +kernel
theorem dJO_itemOf_2 : decode bJO_itemOf 2 = .ok (.aload_n 0, 1) := by decide +kernel
theorem dJO_itemOf_3 : decode bJO_itemOf 3 = .ok (.getfield 9, 3) := by decide +kernel
theorem dJO_itemOf_6 : decode bJO_itemOf 6 = .ok (.bipush 6, 2) := by decide +kernel
theorem dJO_itemOf_8 : decode bJO_itemOf 8 = .ok (.imul, 1) := by decide +kernel
theorem dJO_itemOf_9 : decode bJO_itemOf 9 = .ok (.istore 4, 2) := by decide +kernel
theorem dJO_itemOf_11 : decode bJO_itemOf 11 = .ok (.iconst 0, 1) := by decide +kernel
theorem dJO_itemOf_12 : decode bJO_itemOf 12 = .ok (.istore 5, 2) := by decide +kernel
theorem dJO_itemOf_14 : decode bJO_itemOf 14 = .ok (.iload 5, 2) := by decide +kernel
theorem dJO_itemOf_16 : decode bJO_itemOf 16 = .ok (.iload 4, 2) := by decide +kernel
theorem dJO_itemOf_18 : decode bJO_itemOf 18 = .ok (.if_icmp .ge 35, 3) := by decide +kernel
theorem dJO_itemOf_21 : decode bJO_itemOf 21 = .ok (.aload_n 0, 1) := by decide +kernel
theorem dJO_itemOf_22 : decode bJO_itemOf 22 = .ok (.iload 5, 2) := by decide +kernel
theorem dJO_itemOf_24 : decode bJO_itemOf 24 = .ok (.iload_n 1, 1) := by decide +kernel
theorem dJO_itemOf_25 : decode bJO_itemOf 25 = .ok (.invokevirtual 73, 3) := by decide +kernel
theorem dJO_itemOf_28 : decode bJO_itemOf 28 = .ok (.istore 6, 2) := by decide +kernel
theorem dJO_itemOf_30 : decode bJO_itemOf 30 = .ok (.iload 6, 2) := by decide +kernel
theorem dJO_itemOf_32 : decode bJO_itemOf 32 = .ok (.iconst (-1), 1) := by decide +kernel
theorem dJO_itemOf_33 : decode bJO_itemOf 33 = .ok (.if_icmp .eq 14, 3) := by decide +kernel
theorem dJO_itemOf_36 : decode bJO_itemOf 36 = .ok (.iload_n 3, 1) := by decide +kernel
theorem dJO_itemOf_37 : decode bJO_itemOf 37 = .ok (.iload_n 2, 1) := by decide +kernel
theorem dJO_itemOf_38 : decode bJO_itemOf 38 = .ok (.if_icmp .ne 6, 3) := by decide +kernel
theorem dJO_itemOf_41 : decode bJO_itemOf 41 = .ok (.iload 6, 2) := by decide +kernel
theorem dJO_itemOf_43 : decode bJO_itemOf 43 = .ok (.ireturn, 1) := by decide +kernel
theorem dJO_itemOf_44 : decode bJO_itemOf 44 = .ok (.iinc 3 1, 3) := by decide +kernel
theorem dJO_itemOf_47 : decode bJO_itemOf 47 = .ok (.iinc 5 1, 3) := by decide +kernel
theorem dJO_itemOf_50 : decode bJO_itemOf 50 = .ok (.goto (-36), 3) := by decide +kernel
theorem dJO_itemOf_53 : decode bJO_itemOf 53 = .ok (.iconst (-1), 1) := by decide +kernel
theorem dJO_itemOf_54 : decode bJO_itemOf 54 = .ok (.ireturn, 1) := by decide +kernel
theorem dJO_keepGift_0 : decode bJO_keepGift 0 = .ok (.aload_n 0, 1) := by decide +kernel
theorem dJO_keepGift_1 : decode bJO_keepGift 1 = .ok (.getfield 38, 3) := by decide +kernel
theorem dJO_keepGift_4 : decode bJO_keepGift 4 = .ok (.sipush 280, 3) := by decide +kernel
theorem dJO_keepGift_7 : decode bJO_keepGift 7 = .ok (.if_icmp .ge 33, 3) := by decide +kernel
theorem dJO_keepGift_10 : decode bJO_keepGift 10 = .ok (.aload_n 0, 1) := by decide +kernel
theorem dJO_keepGift_11 : decode bJO_keepGift 11 = .ok (.getfield 41, 3) := by decide +kernel
theorem dJO_keepGift_14 : decode bJO_keepGift 14 = .ok (.aload_n 0, 1) := by decide +kernel
theorem dJO_keepGift_15 : decode bJO_keepGift 15 = .ok (.getfield 38, 3) := by decide +kernel
theorem dJO_keepGift_18 : decode bJO_keepGift 18 = .ok (.iload_n 1, 1) := by decide +kernel
theorem dJO_keepGift_19 : decode bJO_keepGift 19 = .ok (.iastore, 1) := by decide +kernel
theorem dJO_keepGift_20 : decode bJO_keepGift 20 = .ok (.aload_n 0, 1) := by decide +kernel
theorem dJO_keepGift_21 : decode bJO_keepGift 21 = .ok (.getfield 44, 3) := by decide +kernel
theorem dJO_keepGift_24 : decode bJO_keepGift 24 = .ok (.aload_n 0, 1) := by decide +kernel
theorem dJO_keepGift_25 : decode bJO_keepGift 25 = .ok (.getfield 38, 3) := by decide +kernel
theorem dJO_keepGift_28 : decode bJO_keepGift 28 = .ok (.iload_n 2, 1) := by decide +kernel
theorem dJO_keepGift_29 : decode bJO_keepGift 29 = .ok (.iastore, 1) := by decide +kernel
theorem dJO_keepGift_30 : decode bJO_keepGift 30 = .ok (.aload_n 0, 1) := by decide +kernel
theorem dJO_keepGift_31 : decode bJO_keepGift 31 = .ok (.dup, 1) := by decide +kernel
theorem dJO_keepGift_32 : decode bJO_keepGift 32 = .ok (.getfield 38, 3) := by decide +kernel
theorem dJO_keepGift_35 : decode bJO_keepGift 35 = .ok (.iconst 1, 1) := by decide +kernel
theorem dJO_keepGift_36 : decode bJO_keepGift 36 = .ok (.iadd, 1) := by decide +kernel
theorem dJO_keepGift_37 : decode bJO_keepGift 37 = .ok (.putfield 38, 3) := by decide +kernel
theorem dJO_keepGift_40 : decode bJO_keepGift 40 = .ok (.return_, 1) := by decide +kernel
theorem dJO_payItems_0 : decode bJO_payItems 0 = .ok (.lload_n 3, 1) := by decide +kernel
theorem dJO_payItems_1 : decode bJO_payItems 1 = .ok (.lstore 5, 2) := by decide +kernel
theorem dJO_payItems_3 : decode bJO_payItems 3 = .ok (.aload_n 0, 1) := by decide +kernel
theorem dJO_payItems_4 : decode bJO_payItems 4 = .ok (.getfield 9, 3) := by decide +kernel
theorem dJO_payItems_7 : decode bJO_payItems 7 = .ok (.bipush 6, 2) := by decide +kernel
theorem dJO_payItems_9 : decode bJO_payItems 9 = .ok (.imul, 1) := by decide +kernel
theorem dJO_payItems_10 : decode bJO_payItems 10 = .ok (.istore 7, 2) := by decide +kernel
theorem dJO_payItems_12 : decode bJO_payItems 12 = .ok (.iconst 0, 1) := by decide +kernel
theorem dJO_payItems_13 : decode bJO_payItems 13 = .ok (.istore 8, 2) := by decide +kernel
theorem dJO_payItems_15 : decode bJO_payItems 15 = .ok (.iload 8, 2) := by decide +kernel
theorem dJO_payItems_17 : decode bJO_payItems 17 = .ok (.iload 7, 2) := by decide +kernel
theorem dJO_payItems_19 : decode bJO_payItems 19 = .ok (.if_icmp .ge 83, 3) := by decide +kernel
theorem dJO_payItems_22 : decode bJO_payItems 22 = .ok (.lload 5, 2) := by decide +kernel
theorem dJO_payItems_24 : decode bJO_payItems 24 = .ok (.lconst 0, 1) := by decide +kernel
theorem dJO_payItems_25 : decode bJO_payItems 25 = .ok (.lcmp, 1) := by decide +kernel
theorem dJO_payItems_26 : decode bJO_payItems 26 = .ok (.ifCond .le 76, 3) := by decide +kernel
theorem dJO_payItems_29 : decode bJO_payItems 29 = .ok (.aload_n 0, 1) := by decide +kernel
theorem dJO_payItems_30 : decode bJO_payItems 30 = .ok (.iload 8, 2) := by decide +kernel
theorem dJO_payItems_32 : decode bJO_payItems 32 = .ok (.iload_n 2, 1) := by decide +kernel
theorem dJO_payItems_33 : decode bJO_payItems 33 = .ok (.invokevirtual 73, 3) := by decide +kernel
theorem dJO_payItems_36 : decode bJO_payItems 36 = .ok (.istore 9, 2) := by decide +kernel
theorem dJO_payItems_38 : decode bJO_payItems 38 = .ok (.iload 9, 2) := by decide +kernel
theorem dJO_payItems_40 : decode bJO_payItems 40 = .ok (.iconst (-1), 1) := by decide +kernel
theorem dJO_payItems_41 : decode bJO_payItems 41 = .ok (.if_icmp .eq 55, 3) := by decide +kernel
theorem dJO_payItems_44 : decode bJO_payItems 44 = .ok (.aload_n 0, 1) := by decide +kernel
theorem dJO_payItems_45 : decode bJO_payItems 45 = .ok (.getfield 35, 3) := by decide +kernel
theorem dJO_payItems_48 : decode bJO_payItems 48 = .ok (.iload 9, 2) := by decide +kernel
theorem dJO_payItems_50 : decode bJO_payItems 50 = .ok (.laload, 1) := by decide +kernel
theorem dJO_payItems_51 : decode bJO_payItems 51 = .ok (.lconst 0, 1) := by decide +kernel
theorem dJO_payItems_52 : decode bJO_payItems 52 = .ok (.lcmp, 1) := by decide +kernel
theorem dJO_payItems_53 : decode bJO_payItems 53 = .ok (.ifCond .le 43, 3) := by decide +kernel
theorem dJO_payItems_56 : decode bJO_payItems 56 = .ok (.lload 5, 2) := by decide +kernel
theorem dJO_payItems_58 : decode bJO_payItems 58 = .ok (.aload_n 0, 1) := by decide +kernel
theorem dJO_payItems_59 : decode bJO_payItems 59 = .ok (.getfield 35, 3) := by decide +kernel
theorem dJO_payItems_62 : decode bJO_payItems 62 = .ok (.iload 9, 2) := by decide +kernel
theorem dJO_payItems_64 : decode bJO_payItems 64 = .ok (.laload, 1) := by decide +kernel
theorem dJO_payItems_65 : decode bJO_payItems 65 = .ok (.invokestatic 77, 3) := by decide +kernel
theorem dJO_payItems_68 : decode bJO_payItems 68 = .ok (.lstore 10, 2) := by decide +kernel
theorem dJO_payItems_70 : decode bJO_payItems 70 = .ok (.aload_n 0, 1) := by decide +kernel
theorem dJO_payItems_71 : decode bJO_payItems 71 = .ok (.getfield 35, 3) := by decide +kernel
theorem dJO_payItems_74 : decode bJO_payItems 74 = .ok (.iload 9, 2) := by decide +kernel
theorem dJO_payItems_76 : decode bJO_payItems 76 = .ok (.dup2, 1) := by decide +kernel
theorem dJO_payItems_77 : decode bJO_payItems 77 = .ok (.laload, 1) := by decide +kernel
theorem dJO_payItems_78 : decode bJO_payItems 78 = .ok (.lload 10, 2) := by decide +kernel
theorem dJO_payItems_80 : decode bJO_payItems 80 = .ok (.lsub, 1) := by decide +kernel
theorem dJO_payItems_81 : decode bJO_payItems 81 = .ok (.lastore, 1) := by decide +kernel
theorem dJO_payItems_82 : decode bJO_payItems 82 = .ok (.lload 5, 2) := by decide +kernel
theorem dJO_payItems_84 : decode bJO_payItems 84 = .ok (.lload 10, 2) := by decide +kernel
theorem dJO_payItems_86 : decode bJO_payItems 86 = .ok (.lsub, 1) := by decide +kernel
theorem dJO_payItems_87 : decode bJO_payItems 87 = .ok (.lstore 5, 2) := by decide +kernel
theorem dJO_payItems_89 : decode bJO_payItems 89 = .ok (.aload_n 0, 1) := by decide +kernel
theorem dJO_payItems_90 : decode bJO_payItems 90 = .ok (.iload_n 1, 1) := by decide +kernel
theorem dJO_payItems_91 : decode bJO_payItems 91 = .ok (.iload 9, 2) := by decide +kernel
theorem dJO_payItems_93 : decode bJO_payItems 93 = .ok (.invokevirtual 83, 3) := by decide +kernel
theorem dJO_payItems_96 : decode bJO_payItems 96 = .ok (.iinc 8 1, 3) := by decide +kernel
theorem dJO_payItems_99 : decode bJO_payItems 99 = .ok (.goto (-84), 3) := by decide +kernel
theorem dJO_payItems_102 : decode bJO_payItems 102 = .ok (.return_, 1) := by decide +kernel
theorem dJO_sumIn_0 : decode bJO_sumIn 0 = .ok (.lconst 0, 1) := by decide +kernel
theorem dJO_sumIn_1 : decode bJO_sumIn 1 = .ok (.lstore_n 3, 1) := by decide +kernel
theorem dJO_sumIn_2 : decode bJO_sumIn 2 = .ok (.aload_n 0, 1) := by decide +kernel
theorem dJO_sumIn_3 : decode bJO_sumIn 3 = .ok (.getfield 9, 3) := by decide +kernel
theorem dJO_sumIn_6 : decode bJO_sumIn 6 = .ok (.bipush 6, 2) := by decide +kernel
theorem dJO_sumIn_8 : decode bJO_sumIn 8 = .ok (.imul, 1) := by decide +kernel
theorem dJO_sumIn_9 : decode bJO_sumIn 9 = .ok (.istore 5, 2) := by decide +kernel
theorem dJO_sumIn_11 : decode bJO_sumIn 11 = .ok (.iconst 0, 1) := by decide +kernel
theorem dJO_sumIn_12 : decode bJO_sumIn 12 = .ok (.istore 6, 2) := by decide +kernel
theorem dJO_sumIn_14 : decode bJO_sumIn 14 = .ok (.iload 6, 2) := by decide +kernel
theorem dJO_sumIn_16 : decode bJO_sumIn 16 = .ok (.iload 5, 2) := by decide +kernel
theorem dJO_sumIn_18 : decode bJO_sumIn 18 = .ok (.if_icmp .ge 30, 3) := by decide +kernel
theorem dJO_sumIn_21 : decode bJO_sumIn 21 = .ok (.aload_n 0, 1) := by decide +kernel
theorem dJO_sumIn_22 : decode bJO_sumIn 22 = .ok (.iload 6, 2) := by decide +kernel
theorem dJO_sumIn_24 : decode bJO_sumIn 24 = .ok (.iload_n 1, 1) := by decide +kernel
theorem dJO_sumIn_25 : decode bJO_sumIn 25 = .ok (.iload_n 2, 1) := by decide +kernel
theorem dJO_sumIn_26 : decode bJO_sumIn 26 = .ok (.invokevirtual 65, 3) := by decide +kernel
theorem dJO_sumIn_29 : decode bJO_sumIn 29 = .ok (.ifCond .eq 13, 3) := by decide +kernel
theorem dJO_sumIn_32 : decode bJO_sumIn 32 = .ok (.lload_n 3, 1) := by decide +kernel
theorem dJO_sumIn_33 : decode bJO_sumIn 33 = .ok (.aload_n 0, 1) := by decide +kernel
theorem dJO_sumIn_34 : decode bJO_sumIn 34 = .ok (.getfield 31, 3) := by decide +kernel
theorem dJO_sumIn_37 : decode bJO_sumIn 37 = .ok (.iload 6, 2) := by decide +kernel
theorem dJO_sumIn_39 : decode bJO_sumIn 39 = .ok (.laload, 1) := by decide +kernel
theorem dJO_sumIn_40 : decode bJO_sumIn 40 = .ok (.ladd, 1) := by decide +kernel
theorem dJO_sumIn_41 : decode bJO_sumIn 41 = .ok (.lstore_n 3, 1) := by decide +kernel
theorem dJO_sumIn_42 : decode bJO_sumIn 42 = .ok (.iinc 6 1, 3) := by decide +kernel
theorem dJO_sumIn_45 : decode bJO_sumIn 45 = .ok (.goto (-31), 3) := by decide +kernel
theorem dJO_sumIn_48 : decode bJO_sumIn 48 = .ok (.lload_n 3, 1) := by decide +kernel
theorem dJO_sumIn_49 : decode bJO_sumIn 49 = .ok (.lreturn, 1) := by decide +kernel
theorem dJO_sumOf_0 : decode bJO_sumOf 0 = .ok (.lconst 0, 1) := by decide +kernel
theorem dJO_sumOf_1 : decode bJO_sumOf 1 = .ok (.lstore_n 2, 1) := by decide +kernel
theorem dJO_sumOf_2 : decode bJO_sumOf 2 = .ok (.iload_n 1, 1) := by decide +kernel
theorem dJO_sumOf_3 : decode bJO_sumOf 3 = .ok (.bipush 6, 2) := by decide +kernel
theorem dJO_sumOf_5 : decode bJO_sumOf 5 = .ok (.imul, 1) := by decide +kernel
theorem dJO_sumOf_6 : decode bJO_sumOf 6 = .ok (.istore 4, 2) := by decide +kernel
theorem dJO_sumOf_8 : decode bJO_sumOf 8 = .ok (.iload 4, 2) := by decide +kernel
theorem dJO_sumOf_10 : decode bJO_sumOf 10 = .ok (.aload_n 0, 1) := by decide +kernel
theorem dJO_sumOf_11 : decode bJO_sumOf 11 = .ok (.getfield 22, 3) := by decide +kernel
theorem dJO_sumOf_14 : decode bJO_sumOf 14 = .ok (.iload_n 1, 1) := by decide +kernel
theorem dJO_sumOf_15 : decode bJO_sumOf 15 = .ok (.iaload, 1) := by decide +kernel
theorem dJO_sumOf_16 : decode bJO_sumOf 16 = .ok (.iadd, 1) := by decide +kernel
theorem dJO_sumOf_17 : decode bJO_sumOf 17 = .ok (.istore 5, 2) := by decide +kernel
theorem dJO_sumOf_19 : decode bJO_sumOf 19 = .ok (.iload 4, 2) := by decide +kernel
theorem dJO_sumOf_21 : decode bJO_sumOf 21 = .ok (.istore 6, 2) := by decide +kernel
theorem dJO_sumOf_23 : decode bJO_sumOf 23 = .ok (.iload 6, 2) := by decide +kernel
theorem dJO_sumOf_25 : decode bJO_sumOf 25 = .ok (.iload 5, 2) := by decide +kernel
theorem dJO_sumOf_27 : decode bJO_sumOf 27 = .ok (.if_icmp .ge 19, 3) := by decide +kernel
theorem dJO_sumOf_30 : decode bJO_sumOf 30 = .ok (.lload_n 2, 1) := by decide +kernel
theorem dJO_sumOf_31 : decode bJO_sumOf 31 = .ok (.aload_n 0, 1) := by decide +kernel
theorem dJO_sumOf_32 : decode bJO_sumOf 32 = .ok (.getfield 31, 3) := by decide +kernel
theorem dJO_sumOf_35 : decode bJO_sumOf 35 = .ok (.iload 6, 2) := by decide +kernel
theorem dJO_sumOf_37 : decode bJO_sumOf 37 = .ok (.laload, 1) := by decide +kernel
theorem dJO_sumOf_38 : decode bJO_sumOf 38 = .ok (.ladd, 1) := by decide +kernel
theorem dJO_sumOf_39 : decode bJO_sumOf 39 = .ok (.lstore_n 2, 1) := by decide +kernel
theorem dJO_sumOf_40 : decode bJO_sumOf 40 = .ok (.iinc 6 1, 3) := by decide +kernel
theorem dJO_sumOf_43 : decode bJO_sumOf 43 = .ok (.goto (-20), 3) := by decide +kernel
theorem dJO_sumOf_46 : decode bJO_sumOf 46 = .ok (.lload_n 2, 1) := by decide +kernel
theorem dJO_sumOf_47 : decode bJO_sumOf 47 = .ok (.lreturn, 1) := by decide +kernel
theorem dJO_sumUntil_0 : decode bJO_sumUntil 0 = .ok (.lconst 0, 1) := by decide +kernel
theorem dJO_sumUntil_1 : decode bJO_sumUntil 1 = .ok (.lstore_n 3, 1) := by decide +kernel
theorem dJO_sumUntil_2 : decode bJO_sumUntil 2 = .ok (.aload_n 0, 1) := by decide +kernel
theorem dJO_sumUntil_3 : decode bJO_sumUntil 3 = .ok (.getfield 9, 3) := by decide +kernel
theorem dJO_sumUntil_6 : decode bJO_sumUntil 6 = .ok (.bipush 6, 2) := by decide +kernel
theorem dJO_sumUntil_8 : decode bJO_sumUntil 8 = .ok (.imul, 1) := by decide +kernel
theorem dJO_sumUntil_9 : decode bJO_sumUntil 9 = .ok (.istore 5, 2) := by decide +kernel
theorem dJO_sumUntil_11 : decode bJO_sumUntil 11 = .ok (.iconst 0, 1) := by decide +kernel
theorem dJO_sumUntil_12 : decode bJO_sumUntil 12 = .ok (.istore 6, 2) := by decide +kernel
theorem dJO_sumUntil_14 : decode bJO_sumUntil 14 = .ok (.iload 6, 2) := by decide +kernel
theorem dJO_sumUntil_16 : decode bJO_sumUntil 16 = .ok (.iload 5, 2) := by decide +kernel
theorem dJO_sumUntil_18 : decode bJO_sumUntil 18 = .ok (.if_icmp .ge 43, 3) := by decide +kernel
theorem dJO_sumUntil_21 : decode bJO_sumUntil 21 = .ok (.aload_n 0, 1) := by decide +kernel
theorem dJO_sumUntil_22 : decode bJO_sumUntil 22 = .ok (.getfield 15, 3) := by decide +kernel
theorem dJO_sumUntil_25 : decode bJO_sumUntil 25 = .ok (.iload 6, 2) := by decide +kernel
theorem dJO_sumUntil_27 : decode bJO_sumUntil 27 = .ok (.bipush 6, 2) := by decide +kernel
theorem dJO_sumUntil_29 : decode bJO_sumUntil 29 = .ok (.idiv, 1) := by decide +kernel
theorem dJO_sumUntil_30 : decode bJO_sumUntil 30 = .ok (.iaload, 1) := by decide +kernel
theorem dJO_sumUntil_31 : decode bJO_sumUntil 31 = .ok (.iload_n 2, 1) := by decide +kernel
theorem dJO_sumUntil_32 : decode bJO_sumUntil 32 = .ok (.if_icmp .gt 23, 3) := by decide +kernel
theorem dJO_sumUntil_35 : decode bJO_sumUntil 35 = .ok (.aload_n 0, 1) := by decide +kernel
theorem dJO_sumUntil_36 : decode bJO_sumUntil 36 = .ok (.iload 6, 2) := by decide +kernel
theorem dJO_sumUntil_38 : decode bJO_sumUntil 38 = .ok (.iload_n 1, 1) := by decide +kernel
theorem dJO_sumUntil_39 : decode bJO_sumUntil 39 = .ok (.invokevirtual 61, 3) := by decide +kernel
theorem dJO_sumUntil_42 : decode bJO_sumUntil 42 = .ok (.ifCond .eq 13, 3) := by decide +kernel
theorem dJO_sumUntil_45 : decode bJO_sumUntil 45 = .ok (.lload_n 3, 1) := by decide +kernel
theorem dJO_sumUntil_46 : decode bJO_sumUntil 46 = .ok (.aload_n 0, 1) := by decide +kernel
theorem dJO_sumUntil_47 : decode bJO_sumUntil 47 = .ok (.getfield 31, 3) := by decide +kernel
theorem dJO_sumUntil_50 : decode bJO_sumUntil 50 = .ok (.iload 6, 2) := by decide +kernel
theorem dJO_sumUntil_52 : decode bJO_sumUntil 52 = .ok (.laload, 1) := by decide +kernel
theorem dJO_sumUntil_53 : decode bJO_sumUntil 53 = .ok (.ladd, 1) := by decide +kernel
theorem dJO_sumUntil_54 : decode bJO_sumUntil 54 = .ok (.lstore_n 3, 1) := by decide +kernel
theorem dJO_sumUntil_55 : decode bJO_sumUntil 55 = .ok (.iinc 6 1, 3) := by decide +kernel
theorem dJO_sumUntil_58 : decode bJO_sumUntil 58 = .ok (.goto (-44), 3) := by decide +kernel
theorem dJO_sumUntil_61 : decode bJO_sumUntil 61 = .ok (.lload_n 3, 1) := by decide +kernel
theorem dJO_sumUntil_62 : decode bJO_sumUntil 62 = .ok (.lreturn, 1) := by decide +kernel
theorem dJO_told_0 : decode bJO_told 0 = .ok (.iload_n 0, 1) := by decide +kernel
theorem dJO_told_1 : decode bJO_told 1 = .ok (.bipush 6, 2) := by decide +kernel
theorem dJO_told_3 : decode bJO_told 3 = .ok (.idiv, 1) := by decide +kernel
theorem dJO_told_4 : decode bJO_told 4 = .ok (.bipush 10, 2) := by decide +kernel
theorem dJO_told_6 : decode bJO_told 6 = .ok (.imul, 1) := by decide +kernel
theorem dJO_told_7 : decode bJO_told 7 = .ok (.iload_n 0, 1) := by decide +kernel
theorem dJO_told_8 : decode bJO_told 8 = .ok (.bipush 6, 2) := by decide +kernel
theorem dJO_told_10 : decode bJO_told 10 = .ok (.irem, 1) := by decide +kernel
theorem dJO_told_11 : decode bJO_told 11 = .ok (.iadd, 1) := by decide +kernel
theorem dJO_told_12 : decode bJO_told 12 = .ok (.ireturn, 1) := by decide +kernel
theorem dJO_toldGift_0 : decode bJO_toldGift 0 = .ok (.iconst 0, 1) := by decide +kernel
theorem dJO_toldGift_1 : decode bJO_toldGift 1 = .ok (.istore_n 3, 1) := by decide +kernel
theorem dJO_toldGift_2 : decode bJO_toldGift 2 = .ok (.iconst 0, 1) := by decide +kernel
theorem dJO_toldGift_3 : decode bJO_toldGift 3 = .ok (.istore 4, 2) := by decide +kernel
theorem dJO_toldGift_5 : decode bJO_toldGift 5 = .ok (.iload 4, 2) := by decide +kernel
theorem dJO_toldGift_7 : decode bJO_toldGift 7 = .ok (.aload_n 0, 1) := by decide +kernel
theorem dJO_toldGift_8 : decode bJO_toldGift 8 = .ok (.getfield 38, 3) := by decide +kernel
theorem dJO_toldGift_11 : decode bJO_toldGift 11 = .ok (.if_icmp .ge 39, 3) := by decide +kernel
theorem dJO_toldGift_14 : decode bJO_toldGift 14 = .ok (.aload_n 0, 1) := by decide +kernel
theorem dJO_toldGift_15 : decode bJO_toldGift 15 = .ok (.getfield 41, 3) := by decide +kernel
theorem dJO_toldGift_18 : decode bJO_toldGift 18 = .ok (.iload 4, 2) := by decide +kernel
theorem dJO_toldGift_20 : decode bJO_toldGift 20 = .ok (.iaload, 1) := by decide +kernel
theorem dJO_toldGift_21 : decode bJO_toldGift 21 = .ok (.iload_n 1, 1) := by decide +kernel
theorem dJO_toldGift_22 : decode bJO_toldGift 22 = .ok (.if_icmp .ne 22, 3) := by decide +kernel
theorem dJO_toldGift_25 : decode bJO_toldGift 25 = .ok (.iload_n 3, 1) := by decide +kernel
theorem dJO_toldGift_26 : decode bJO_toldGift 26 = .ok (.iload_n 2, 1) := by decide +kernel
theorem dJO_toldGift_27 : decode bJO_toldGift 27 = .ok (.if_icmp .ne 14, 3) := by decide +kernel
theorem dJO_toldGift_30 : decode bJO_toldGift 30 = .ok (.aload_n 0, 1) := by decide +kernel
theorem dJO_toldGift_31 : decode bJO_toldGift 31 = .ok (.getfield 44, 3) := by decide +kernel
theorem dJO_toldGift_34 : decode bJO_toldGift 34 = .ok (.iload 4, 2) := by decide +kernel
theorem dJO_toldGift_36 : decode bJO_toldGift 36 = .ok (.iaload, 1) := by decide +kernel
theorem dJO_toldGift_37 : decode bJO_toldGift 37 = .ok (.invokestatic 69, 3) := by decide +kernel
theorem dJO_toldGift_40 : decode bJO_toldGift 40 = .ok (.ireturn, 1) := by decide +kernel
theorem dJO_toldGift_41 : decode bJO_toldGift 41 = .ok (.iinc 3 1, 3) := by decide +kernel
theorem dJO_toldGift_44 : decode bJO_toldGift 44 = .ok (.iinc 4 1, 3) := by decide +kernel
theorem dJO_toldGift_47 : decode bJO_toldGift 47 = .ok (.goto (-42), 3) := by decide +kernel
theorem dJO_toldGift_50 : decode bJO_toldGift 50 = .ok (.iconst (-1), 1) := by decide +kernel
theorem dJO_toldGift_51 : decode bJO_toldGift 51 = .ok (.ireturn, 1) := by decide +kernel
theorem dJO_toldRow_0 : decode bJO_toldRow 0 = .ok (.iconst 0, 1) := by decide +kernel
theorem dJO_toldRow_1 : decode bJO_toldRow 1 = .ok (.istore 4, 2) := by decide +kernel
theorem dJO_toldRow_3 : decode bJO_toldRow 3 = .ok (.aload_n 0, 1) := by decide +kernel
theorem dJO_toldRow_4 : decode bJO_toldRow 4 = .ok (.getfield 9, 3) := by decide +kernel
theorem dJO_toldRow_7 : decode bJO_toldRow 7 = .ok (.bipush 6, 2) := by decide +kernel
theorem dJO_toldRow_9 : decode bJO_toldRow 9 = .ok (.imul, 1) := by decide +kernel
theorem dJO_toldRow_10 : decode bJO_toldRow 10 = .ok (.istore 5, 2) := by decide +kernel
theorem dJO_toldRow_12 : decode bJO_toldRow 12 = .ok (.iconst 0, 1) := by decide +kernel
theorem dJO_toldRow_13 : decode bJO_toldRow 13 = .ok (.istore 6, 2) := by decide +kernel
theorem dJO_toldRow_15 : decode bJO_toldRow 15 = .ok (.iload 6, 2) := by decide +kernel
theorem dJO_toldRow_17 : decode bJO_toldRow 17 = .ok (.iload 5, 2) := by decide +kernel
theorem dJO_toldRow_19 : decode bJO_toldRow 19 = .ok (.if_icmp .ge 35, 3) := by decide +kernel
theorem dJO_toldRow_22 : decode bJO_toldRow 22 = .ok (.aload_n 0, 1) := by decide +kernel
theorem dJO_toldRow_23 : decode bJO_toldRow 23 = .ok (.iload 6, 2) := by decide +kernel
theorem dJO_toldRow_25 : decode bJO_toldRow 25 = .ok (.iload_n 1, 1) := by decide +kernel
theorem dJO_toldRow_26 : decode bJO_toldRow 26 = .ok (.iload_n 2, 1) := by decide +kernel
theorem dJO_toldRow_27 : decode bJO_toldRow 27 = .ok (.invokevirtual 65, 3) := by decide +kernel

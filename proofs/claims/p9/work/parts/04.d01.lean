theorem dHL_balance_22 : decode bHL_balance 22 = .ok (.lreturn, 1) := by decide +kernel
theorem dHL_balance_23 : decode bHL_balance 23 = .ok (.aload_n 0, 1) := by decide +kernel
theorem dHL_balance_24 : decode bHL_balance 24 = .ok (.getfield 10, 3) := by decide +kernel
theorem dHL_balance_27 : decode bHL_balance 27 = .ok (.getfield 41, 3) := by decide +kernel
theorem dHL_balance_30 : decode bHL_balance 30 = .ok (.iload_n 1, 1) := by decide +kernel
theorem dHL_balance_31 : decode bHL_balance 31 = .ok (.lload_n 2, 1) := by decide +kernel
theorem dHL_balance_32 : decode bHL_balance 32 = .ok (.l2i, 1) := by decide +kernel
theorem dHL_balance_33 : decode bHL_balance 33 = .ok (.invokevirtual 93, 3) := by decide +kernel
theorem dHL_balance_36 : decode bHL_balance 36 = .ok (.lreturn, 1) := by decide +kernel
theorem dHL_batch_0 : decode bHL_batch 0 = .ok (.aload_n 0, 1) := by decide +kernel
theorem dHL_batch_1 : decode bHL_batch 1 = .ok (.getfield 19, 3) := by decide +kernel
theorem dHL_batch_4 : decode bHL_batch 4 = .ok (.ifCond .eq 5, 3) := by decide +kernel
theorem dHL_batch_7 : decode bHL_batch 7 = .ok (.iconst (-1), 1) := by decide +kernel
theorem dHL_batch_8 : decode bHL_batch 8 = .ok (.ireturn, 1) := by decide +kernel
theorem dHL_batch_9 : decode bHL_batch 9 = .ok (.aload_n 0, 1) := by decide +kernel
theorem dHL_batch_10 : decode bHL_batch 10 = .ok (.getfield 16, 3) := by decide +kernel
theorem dHL_batch_13 : decode bHL_batch 13 = .ok (.aload_n 0, 1) := by decide +kernel
theorem dHL_batch_14 : decode bHL_batch 14 = .ok (.getfield 10, 3) := by decide +kernel
theorem dHL_batch_17 : decode bHL_batch 17 = .ok (.invokevirtual 184, 3) := by decide +kernel
theorem dHL_batch_20 : decode bHL_batch 20 = .ok (.aload_n 0, 1) := by decide +kernel
theorem dHL_batch_21 : decode bHL_batch 21 = .ok (.iconst 1, 1) := by decide +kernel
theorem dHL_batch_22 : decode bHL_batch 22 = .ok (.putfield 19, 3) := by decide +kernel
theorem dHL_batch_25 : decode bHL_batch 25 = .ok (.aload_n 0, 1) := by decide +kernel
theorem dHL_batch_26 : decode bHL_batch 26 = .ok (.dup, 1) := by decide +kernel
theorem dHL_batch_27 : decode bHL_batch 27 = .ok (.getfield 23, 3) := by decide +kernel
theorem dHL_batch_30 : decode bHL_batch 30 = .ok (.iconst 1, 1) := by decide +kernel
theorem dHL_batch_31 : decode bHL_batch 31 = .ok (.iadd, 1) := by decide +kernel
theorem dHL_batch_32 : decode bHL_batch 32 = .ok (.putfield 23, 3) := by decide +kernel
theorem dHL_batch_35 : decode bHL_batch 35 = .ok (.aload_n 0, 1) := by decide +kernel
theorem dHL_batch_36 : decode bHL_batch 36 = .ok (.getfield 23, 3) := by decide +kernel
theorem dHL_batch_39 : decode bHL_batch 39 = .ok (.iconst 1, 1) := by decide +kernel
theorem dHL_batch_40 : decode bHL_batch 40 = .ok (.isub, 1) := by decide +kernel
theorem dHL_batch_41 : decode bHL_batch 41 = .ok (.ireturn, 1) := by decide +kernel
theorem dHL_close_0 : decode bHL_close 0 = .ok (.aload_n 0, 1) := by decide +kernel
theorem dHL_close_1 : decode bHL_close 1 = .ok (.getfield 10, 3) := by decide +kernel
theorem dHL_close_4 : decode bHL_close 4 = .ok (.getfield 41, 3) := by decide +kernel
theorem dHL_close_7 : decode bHL_close 7 = .ok (.astore_n 2, 1) := by decide +kernel
theorem dHL_close_8 : decode bHL_close 8 = .ok (.aload_n 2, 1) := by decide +kernel
theorem dHL_close_9 : decode bHL_close 9 = .ok (.iload_n 1, 1) := by decide +kernel
theorem dHL_close_10 : decode bHL_close 10 = .ok (.invokevirtual 50, 3) := by decide +kernel
theorem dHL_close_13 : decode bHL_close 13 = .ok (.ifCond .eq 20, 3) := by decide +kernel
theorem dHL_close_16 : decode bHL_close 16 = .ok (.aload_n 0, 1) := by decide +kernel
theorem dHL_close_17 : decode bHL_close 17 = .ok (.getfield 10, 3) := by decide +kernel
theorem dHL_close_20 : decode bHL_close 20 = .ok (.aload_n 2, 1) := by decide +kernel
theorem dHL_close_21 : decode bHL_close 21 = .ok (.getfield 65, 3) := by decide +kernel
theorem dHL_close_24 : decode bHL_close 24 = .ok (.iload_n 1, 1) := by decide +kernel
theorem dHL_close_25 : decode bHL_close 25 = .ok (.iaload, 1) := by decide +kernel
theorem dHL_close_26 : decode bHL_close 26 = .ok (.i2l, 1) := by decide +kernel
theorem dHL_close_27 : decode bHL_close 27 = .ok (.invokevirtual 37, 3) := by decide +kernel
theorem dHL_close_30 : decode bHL_close 30 = .ok (.ifCond .ne 5, 3) := by decide +kernel
theorem dHL_close_33 : decode bHL_close 33 = .ok (.iconst (-1), 1) := by decide +kernel
theorem dHL_close_34 : decode bHL_close 34 = .ok (.ireturn, 1) := by decide +kernel
theorem dHL_close_35 : decode bHL_close 35 = .ok (.aload_n 2, 1) := by decide +kernel
theorem dHL_close_36 : decode bHL_close 36 = .ok (.iload_n 1, 1) := by decide +kernel
theorem dHL_close_37 : decode bHL_close 37 = .ok (.invokevirtual 69, 3) := by decide +kernel
theorem dHL_close_40 : decode bHL_close 40 = .ok (.lconst 0, 1) := by decide +kernel
theorem dHL_close_41 : decode bHL_close 41 = .ok (.lcmp, 1) := by decide +kernel
theorem dHL_close_42 : decode bHL_close 42 = .ok (.ifCond .eq 13, 3) := by decide +kernel
theorem dHL_close_45 : decode bHL_close 45 = .ok (.new 73, 3) := by decide +kernel
theorem dHL_close_55 : decode bHL_close 55 = .ok (.aload_n 2, 1) := by decide +kernel
theorem dHL_close_56 : decode bHL_close 56 = .ok (.getfield 80, 3) := by decide +kernel
theorem dHL_close_59 : decode bHL_close 59 = .ok (.iload_n 1, 1) := by decide +kernel
theorem dHL_close_60 : decode bHL_close 60 = .ok (.iconst 1, 1) := by decide +kernel
theorem dHL_close_61 : decode bHL_close 61 = .ok (.iastore, 1) := by decide +kernel
theorem dHL_close_62 : decode bHL_close 62 = .ok (.aload_n 0, 1) := by decide +kernel
theorem dHL_close_63 : decode bHL_close 63 = .ok (.getfield 10, 3) := by decide +kernel
theorem dHL_close_66 : decode bHL_close 66 = .ok (.iload_n 1, 1) := by decide +kernel
theorem dHL_close_67 : decode bHL_close 67 = .ok (.invokevirtual 83, 3) := by decide +kernel
theorem dHL_close_70 : decode bHL_close 70 = .ok (.aload_n 2, 1) := by decide +kernel
theorem dHL_close_71 : decode bHL_close 71 = .ok (.getfield 87, 3) := by decide +kernel
theorem dHL_close_74 : decode bHL_close 74 = .ok (.iload_n 1, 1) := by decide +kernel
theorem dHL_close_75 : decode bHL_close 75 = .ok (.iaload, 1) := by decide +kernel
theorem dHL_close_76 : decode bHL_close 76 = .ok (.ireturn, 1) := by decide +kernel
theorem dHL_closeMonth_0 : decode bHL_closeMonth 0 = .ok (.iload_n 1, 1) := by decide +kernel
theorem dHL_closeMonth_1 : decode bHL_closeMonth 1 = .ok (.aload_n 0, 1) := by decide +kernel
theorem dHL_closeMonth_2 : decode bHL_closeMonth 2 = .ok (.getfield 10, 3) := by decide +kernel
theorem dHL_closeMonth_5 : decode bHL_closeMonth 5 = .ok (.getfield 188, 3) := by decide +kernel
theorem dHL_closeMonth_8 : decode bHL_closeMonth 8 = .ok (.if_icmp .ne 15, 3) := by decide +kernel
theorem dHL_closeMonth_11 : decode bHL_closeMonth 11 = .ok (.aload_n 0, 1) := by decide +kernel
theorem dHL_closeMonth_12 : decode bHL_closeMonth 12 = .ok (.getfield 10, 3) := by decide +kernel
theorem dHL_closeMonth_15 : decode bHL_closeMonth 15 = .ok (.getfield 188, 3) := by decide +kernel
theorem dHL_closeMonth_18 : decode bHL_closeMonth 18 = .ok (.bipush 120, 2) := by decide +kernel
theorem dHL_closeMonth_20 : decode bHL_closeMonth 20 = .ok (.if_icmp .lt 5, 3) := by decide +kernel
theorem dHL_closeMonth_23 : decode bHL_closeMonth 23 = .ok (.iconst 0, 1) := by decide +kernel
theorem dHL_closeMonth_24 : decode bHL_closeMonth 24 = .ok (.ireturn, 1) := by decide +kernel
theorem dHL_closeMonth_25 : decode bHL_closeMonth 25 = .ok (.aload_n 0, 1) := by decide +kernel
theorem dHL_closeMonth_26 : decode bHL_closeMonth 26 = .ok (.getfield 10, 3) := by decide +kernel
theorem dHL_closeMonth_29 : decode bHL_closeMonth 29 = .ok (.dup, 1) := by decide +kernel
theorem dHL_closeMonth_30 : decode bHL_closeMonth 30 = .ok (.getfield 188, 3) := by decide +kernel
theorem dHL_closeMonth_33 : decode bHL_closeMonth 33 = .ok (.iconst 1, 1) := by decide +kernel
theorem dHL_closeMonth_34 : decode bHL_closeMonth 34 = .ok (.iadd, 1) := by decide +kernel
theorem dHL_closeMonth_35 : decode bHL_closeMonth 35 = .ok (.putfield 188, 3) := by decide +kernel
theorem dHL_closeMonth_38 : decode bHL_closeMonth 38 = .ok (.iconst 1, 1) := by decide +kernel
theorem dHL_closeMonth_39 : decode bHL_closeMonth 39 = .ok (.ireturn, 1) := by decide +kernel
theorem dHL_commonDivisor_0 : decode bHL_commonDivisor 0 = .ok (.lload_n 0, 1) := by decide +kernel
theorem dHL_commonDivisor_1 : decode bHL_commonDivisor 1 = .ok (.lstore 4, 2) := by decide +kernel
theorem dHL_commonDivisor_3 : decode bHL_commonDivisor 3 = .ok (.lload_n 2, 1) := by decide +kernel
theorem dHL_commonDivisor_4 : decode bHL_commonDivisor 4 = .ok (.lstore 6, 2) := by decide +kernel
theorem dHL_commonDivisor_6 : decode bHL_commonDivisor 6 = .ok (.iconst 0, 1) := by decide +kernel
theorem dHL_commonDivisor_7 : decode bHL_commonDivisor 7 = .ok (.istore 8, 2) := by decide +kernel
theorem dHL_commonDivisor_9 : decode bHL_commonDivisor 9 = .ok (.iload 8, 2) := by decide +kernel
theorem dHL_commonDivisor_11 : decode bHL_commonDivisor 11 = .ok (.bipush 100, 2) := by decide +kernel
theorem dHL_commonDivisor_13 : decode bHL_commonDivisor 13 = .ok (.if_icmp .ge 31, 3) := by decide +kernel
theorem dHL_commonDivisor_16 : decode bHL_commonDivisor 16 = .ok (.lload 6, 2) := by decide +kernel
theorem dHL_commonDivisor_18 : decode bHL_commonDivisor 18 = .ok (.lconst 0, 1) := by decide +kernel
theorem dHL_commonDivisor_19 : decode bHL_commonDivisor 19 = .ok (.lcmp, 1) := by decide +kernel
theorem dHL_commonDivisor_20 : decode bHL_commonDivisor 20 = .ok (.ifCond .eq 24, 3) := by decide +kernel
theorem dHL_commonDivisor_23 : decode bHL_commonDivisor 23 = .ok (.lload 4, 2) := by decide +kernel
theorem dHL_commonDivisor_25 : decode bHL_commonDivisor 25 = .ok (.lload 6, 2) := by decide +kernel
theorem dHL_commonDivisor_27 : decode bHL_commonDivisor 27 = .ok (.lrem, 1) := by decide +kernel
theorem dHL_commonDivisor_28 : decode bHL_commonDivisor 28 = .ok (.lstore 9, 2) := by decide +kernel
theorem dHL_commonDivisor_30 : decode bHL_commonDivisor 30 = .ok (.lload 6, 2) := by decide +kernel
theorem dHL_commonDivisor_32 : decode bHL_commonDivisor 32 = .ok (.lstore 4, 2) := by decide +kernel
theorem dHL_commonDivisor_34 : decode bHL_commonDivisor 34 = .ok (.lload 9, 2) := by decide +kernel
theorem dHL_commonDivisor_36 : decode bHL_commonDivisor 36 = .ok (.lstore 6, 2) := by decide +kernel
theorem dHL_commonDivisor_38 : decode bHL_commonDivisor 38 = .ok (.iinc 8 1, 3) := by decide +kernel
theorem dHL_commonDivisor_41 : decode bHL_commonDivisor 41 = .ok (.goto (-32), 3) := by decide +kernel
theorem dHL_commonDivisor_44 : decode bHL_commonDivisor 44 = .ok (.lload 4, 2) := by decide +kernel
theorem dHL_commonDivisor_46 : decode bHL_commonDivisor 46 = .ok (.lreturn, 1) := by decide +kernel
theorem dHL_copyInts_0 : decode bHL_copyInts 0 = .ok (.aload_n 0, 1) := by decide +kernel
theorem dHL_copyInts_1 : decode bHL_copyInts 1 = .ok (.iconst 0, 1) := by decide +kernel
theorem dHL_copyInts_2 : decode bHL_copyInts 2 = .ok (.aload_n 1, 1) := by decide +kernel
theorem dHL_copyInts_3 : decode bHL_copyInts 3 = .ok (.iconst 0, 1) := by decide +kernel
theorem dHL_copyInts_4 : decode bHL_copyInts 4 = .ok (.aload_n 0, 1) := by decide +kernel
theorem dHL_copyInts_5 : decode bHL_copyInts 5 = .ok (.arraylength, 1) := by decide +kernel
theorem dHL_copyInts_6 : decode bHL_copyInts 6 = .ok (.aload_n 1, 1) := by decide +kernel
theorem dHL_copyInts_7 : decode bHL_copyInts 7 = .ok (.arraylength, 1) := by decide +kernel
theorem dHL_copyInts_8 : decode bHL_copyInts 8 = .ok (.invokestatic 242, 3) := by decide +kernel
theorem dHL_copyInts_11 : decode bHL_copyInts 11 = .ok (.invokestatic 245, 3) := by decide +kernel
theorem dHL_copyInts_14 : decode bHL_copyInts 14 = .ok (.return_, 1) := by decide +kernel
theorem dHL_copyLongs_0 : decode bHL_copyLongs 0 = .ok (.aload_n 0, 1) := by decide +kernel
theorem dHL_copyLongs_1 : decode bHL_copyLongs 1 = .ok (.iconst 0, 1) := by decide +kernel
theorem dHL_copyLongs_2 : decode bHL_copyLongs 2 = .ok (.aload_n 1, 1) := by decide +kernel
theorem dHL_copyLongs_3 : decode bHL_copyLongs 3 = .ok (.iconst 0, 1) := by decide +kernel
theorem dHL_copyLongs_4 : decode bHL_copyLongs 4 = .ok (.aload_n 0, 1) := by decide +kernel
theorem dHL_copyLongs_5 : decode bHL_copyLongs 5 = .ok (.arraylength, 1) := by decide +kernel
theorem dHL_copyLongs_6 : decode bHL_copyLongs 6 = .ok (.aload_n 1, 1) := by decide +kernel
theorem dHL_copyLongs_7 : decode bHL_copyLongs 7 = .ok (.arraylength, 1) := by decide +kernel
theorem dHL_copyLongs_8 : decode bHL_copyLongs 8 = .ok (.invokestatic 242, 3) := by decide +kernel
theorem dHL_copyLongs_11 : decode bHL_copyLongs 11 = .ok (.invokestatic 245, 3) := by decide +kernel
theorem dHL_copyLongs_14 : decode bHL_copyLongs 14 = .ok (.return_, 1) := by decide +kernel
theorem dHL_due_0 : decode bHL_due 0 = .ok (.aload_n 0, 1) := by decide +kernel
theorem dHL_due_1 : decode bHL_due 1 = .ok (.getfield 10, 3) := by decide +kernel
theorem dHL_due_4 : decode bHL_due 4 = .ok (.getfield 151, 3) := by decide +kernel
theorem dHL_due_7 : decode bHL_due 7 = .ok (.iload_n 1, 1) := by decide +kernel
theorem dHL_due_8 : decode bHL_due 8 = .ok (.iload_n 2, 1) := by decide +kernel
theorem dHL_due_9 : decode bHL_due 9 = .ok (.invokevirtual 160, 3) := by decide +kernel
theorem dHL_due_12 : decode bHL_due 12 = .ok (.lreturn, 1) := by decide +kernel
theorem dHL_dun_0 : decode bHL_dun 0 = .ok (.aload_n 0, 1) := by decide +kernel
theorem dHL_dun_1 : decode bHL_dun 1 = .ok (.getfield 10, 3) := by decide +kernel
theorem dHL_dun_4 : decode bHL_dun 4 = .ok (.getfield 27, 3) := by decide +kernel
theorem dHL_dun_7 : decode bHL_dun 7 = .ok (.iload_n 1, 1) := by decide +kernel
theorem dHL_dun_8 : decode bHL_dun 8 = .ok (.invokevirtual 105, 3) := by decide +kernel
theorem dHL_dun_11 : decode bHL_dun 11 = .ok (.ifCond .eq 10, 3) := by decide +kernel
theorem dHL_dun_14 : decode bHL_dun 14 = .ok (.lload_n 2, 1) := by decide +kernel
theorem dHL_dun_15 : decode bHL_dun 15 = .ok (.invokestatic 90, 3) := by decide +kernel
theorem dHL_dun_18 : decode bHL_dun 18 = .ok (.ifCond .ne 5, 3) := by decide +kernel
theorem dHL_dun_21 : decode bHL_dun 21 = .ok (.iconst (-1), 1) := by decide +kernel
theorem dHL_dun_22 : decode bHL_dun 22 = .ok (.ireturn, 1) := by decide +kernel
theorem dHL_dun_23 : decode bHL_dun 23 = .ok (.aload_n 0, 1) := by decide +kernel
theorem dHL_dun_24 : decode bHL_dun 24 = .ok (.getfield 10, 3) := by decide +kernel
theorem dHL_dun_27 : decode bHL_dun 27 = .ok (.getfield 41, 3) := by decide +kernel
theorem dHL_dun_30 : decode bHL_dun 30 = .ok (.iload_n 1, 1) := by decide +kernel
theorem dHL_dun_31 : decode bHL_dun 31 = .ok (.lload_n 2, 1) := by decide +kernel
theorem dHL_dun_32 : decode bHL_dun 32 = .ok (.l2i, 1) := by decide +kernel
theorem dHL_dun_33 : decode bHL_dun 33 = .ok (.invokevirtual 128, 3) := by decide +kernel
theorem dHL_dun_36 : decode bHL_dun 36 = .ok (.ifCond .ne 19, 3) := by decide +kernel
theorem dHL_dun_39 : decode bHL_dun 39 = .ok (.aload_n 0, 1) := by decide +kernel
theorem dHL_dun_40 : decode bHL_dun 40 = .ok (.getfield 10, 3) := by decide +kernel
theorem dHL_dun_43 : decode bHL_dun 43 = .ok (.getfield 27, 3) := by decide +kernel
theorem dHL_dun_46 : decode bHL_dun 46 = .ok (.getfield 132, 3) := by decide +kernel
theorem dHL_dun_49 : decode bHL_dun 49 = .ok (.iload_n 1, 1) := by decide +kernel
theorem dHL_dun_50 : decode bHL_dun 50 = .ok (.iconst 0, 1) := by decide +kernel
theorem dHL_dun_51 : decode bHL_dun 51 = .ok (.iastore, 1) := by decide +kernel
theorem dHL_dun_52 : decode bHL_dun 52 = .ok (.goto 32, 3) := by decide +kernel
theorem dHL_dun_55 : decode bHL_dun 55 = .ok (.aload_n 0, 1) := by decide +kernel
theorem dHL_dun_56 : decode bHL_dun 56 = .ok (.getfield 10, 3) := by decide +kernel
theorem dHL_dun_59 : decode bHL_dun 59 = .ok (.getfield 27, 3) := by decide +kernel
theorem dHL_dun_62 : decode bHL_dun 62 = .ok (.iload_n 1, 1) := by decide +kernel
theorem dHL_dun_63 : decode bHL_dun 63 = .ok (.lload_n 2, 1) := by decide +kernel
theorem dHL_dun_64 : decode bHL_dun 64 = .ok (.l2i, 1) := by decide +kernel
theorem dHL_dun_65 : decode bHL_dun 65 = .ok (.invokevirtual 135, 3) := by decide +kernel
theorem dHL_dun_68 : decode bHL_dun 68 = .ok (.ifCond .eq 16, 3) := by decide +kernel
theorem dHL_dun_71 : decode bHL_dun 71 = .ok (.aload_n 0, 1) := by decide +kernel
theorem dHL_dun_72 : decode bHL_dun 72 = .ok (.getfield 10, 3) := by decide +kernel
theorem dHL_dun_75 : decode bHL_dun 75 = .ok (.getfield 27, 3) := by decide +kernel
theorem dHL_dun_78 : decode bHL_dun 78 = .ok (.iload_n 1, 1) := by decide +kernel
theorem dHL_dun_79 : decode bHL_dun 79 = .ok (.lload_n 2, 1) := by decide +kernel
theorem dHL_dun_80 : decode bHL_dun 80 = .ok (.l2i, 1) := by decide +kernel
theorem dHL_dun_81 : decode bHL_dun 81 = .ok (.invokevirtual 138, 3) := by decide +kernel
theorem dHL_dun_84 : decode bHL_dun 84 = .ok (.aload_n 0, 1) := by decide +kernel
theorem dHL_dun_85 : decode bHL_dun 85 = .ok (.getfield 10, 3) := by decide +kernel
theorem dHL_dun_88 : decode bHL_dun 88 = .ok (.getfield 27, 3) := by decide +kernel
theorem dHL_dun_91 : decode bHL_dun 91 = .ok (.getfield 132, 3) := by decide +kernel
theorem dHL_dun_94 : decode bHL_dun 94 = .ok (.iload_n 1, 1) := by decide +kernel
theorem dHL_dun_95 : decode bHL_dun 95 = .ok (.iaload, 1) := by decide +kernel
theorem dHL_dun_96 : decode bHL_dun 96 = .ok (.ireturn, 1) := by decide +kernel
theorem dHL_endBatch_0 : decode bHL_endBatch 0 = .ok (.aload_n 0, 1) := by decide +kernel
theorem dHL_endBatch_1 : decode bHL_endBatch 1 = .ok (.getfield 19, 3) := by decide +kernel
theorem dHL_endBatch_4 : decode bHL_endBatch 4 = .ok (.ifCond .ne 5, 3) := by decide +kernel
theorem dHL_endBatch_7 : decode bHL_endBatch 7 = .ok (.iconst 0, 1) := by decide +kernel
theorem dHL_endBatch_8 : decode bHL_endBatch 8 = .ok (.ireturn, 1) := by decide +kernel
theorem dHL_endBatch_9 : decode bHL_endBatch 9 = .ok (.iload_n 1, 1) := by decide +kernel
theorem dHL_endBatch_10 : decode bHL_endBatch 10 = .ok (.ifCond .ne 14, 3) := by decide +kernel
theorem dHL_endBatch_13 : decode bHL_endBatch 13 = .ok (.aload_n 0, 1) := by decide +kernel
theorem dHL_endBatch_14 : decode bHL_endBatch 14 = .ok (.getfield 10, 3) := by decide +kernel
theorem dHL_endBatch_17 : decode bHL_endBatch 17 = .ok (.aload_n 0, 1) := by decide +kernel
theorem dHL_endBatch_18 : decode bHL_endBatch 18 = .ok (.getfield 16, 3) := by decide +kernel
theorem dHL_endBatch_21 : decode bHL_endBatch 21 = .ok (.invokevirtual 184, 3) := by decide +kernel
theorem dHL_endBatch_24 : decode bHL_endBatch 24 = .ok (.aload_n 0, 1) := by decide +kernel
theorem dHL_endBatch_25 : decode bHL_endBatch 25 = .ok (.iconst 0, 1) := by decide +kernel
theorem dHL_endBatch_26 : decode bHL_endBatch 26 = .ok (.putfield 19, 3) := by decide +kernel
theorem dHL_endBatch_29 : decode bHL_endBatch 29 = .ok (.iconst 1, 1) := by decide +kernel
theorem dHL_endBatch_30 : decode bHL_endBatch 30 = .ok (.ireturn, 1) := by decide +kernel
theorem dHL_entry_0 : decode bHL_entry 0 = .ok (.aload_n 0, 1) := by decide +kernel
theorem dHL_entry_1 : decode bHL_entry 1 = .ok (.getfield 10, 3) := by decide +kernel
theorem dHL_entry_4 : decode bHL_entry 4 = .ok (.lload_n 1, 1) := by decide +kernel
theorem dHL_entry_5 : decode bHL_entry 5 = .ok (.invokevirtual 37, 3) := by decide +kernel
theorem dHL_entry_8 : decode bHL_entry 8 = .ok (.ifCond .ne 5, 3) := by decide +kernel
theorem dHL_entry_11 : decode bHL_entry 11 = .ok (.iconst (-1), 1) := by decide +kernel
theorem dHL_entry_12 : decode bHL_entry 12 = .ok (.ireturn, 1) := by decide +kernel
theorem dHL_entry_13 : decode bHL_entry 13 = .ok (.aload_n 0, 1) := by decide +kernel
theorem dHL_entry_14 : decode bHL_entry 14 = .ok (.getfield 10, 3) := by decide +kernel
theorem dHL_entry_17 : decode bHL_entry 17 = .ok (.getfield 41, 3) := by decide +kernel
theorem dHL_entry_20 : decode bHL_entry 20 = .ok (.lload_n 1, 1) := by decide +kernel
theorem dHL_entry_21 : decode bHL_entry 21 = .ok (.l2i, 1) := by decide +kernel
theorem dHL_entry_22 : decode bHL_entry 22 = .ok (.iconst 0, 1) := by decide +kernel
theorem dHL_entry_23 : decode bHL_entry 23 = .ok (.invokevirtual 45, 3) := by decide +kernel
theorem dHL_entry_26 : decode bHL_entry 26 = .ok (.ireturn, 1) := by decide +kernel
theorem dHL_found_0 : decode bHL_found 0 = .ok (.iload_n 1, 1) := by decide +kernel
theorem dHL_found_1 : decode bHL_found 1 = .ok (.ifCond .lt 14, 3) := by decide +kernel
theorem dHL_found_4 : decode bHL_found 4 = .ok (.iload_n 1, 1) := by decide +kernel
theorem dHL_found_5 : decode bHL_found 5 = .ok (.aload_n 0, 1) := by decide +kernel
theorem dHL_found_6 : decode bHL_found 6 = .ok (.getfield 10, 3) := by decide +kernel
theorem dHL_found_9 : decode bHL_found 9 = .ok (.getfield 231, 3) := by decide +kernel
theorem dHL_found_12 : decode bHL_found 12 = .ok (.if_icmp .lt 9, 3) := by decide +kernel
theorem dHL_found_15 : decode bHL_found 15 = .ok (.ldc2_w 116, 3) := by decide +kernel
theorem dHL_found_18 : decode bHL_found 18 = .ok (.goto 12, 3) := by decide +kernel
theorem dHL_found_21 : decode bHL_found 21 = .ok (.aload_n 0, 1) := by decide +kernel
theorem dHL_found_22 : decode bHL_found 22 = .ok (.getfield 10, 3) := by decide +kernel
theorem dHL_found_25 : decode bHL_found 25 = .ok (.getfield 234, 3) := by decide +kernel
theorem dHL_found_28 : decode bHL_found 28 = .ok (.iload_n 1, 1) := by decide +kernel
theorem dHL_found_29 : decode bHL_found 29 = .ok (.laload, 1) := by decide +kernel
theorem dHL_found_30 : decode bHL_found 30 = .ok (.lreturn, 1) := by decide +kernel
theorem dHL_hardship_0 : decode bHL_hardship 0 = .ok (.aload_n 0, 1) := by decide +kernel
theorem dHL_hardship_1 : decode bHL_hardship 1 = .ok (.getfield 10, 3) := by decide +kernel
theorem dHL_hardship_4 : decode bHL_hardship 4 = .ok (.getfield 27, 3) := by decide +kernel
theorem dHL_hardship_7 : decode bHL_hardship 7 = .ok (.iload_n 1, 1) := by decide +kernel
theorem dHL_hardship_8 : decode bHL_hardship 8 = .ok (.invokevirtual 105, 3) := by decide +kernel
theorem dHL_hardship_11 : decode bHL_hardship 11 = .ok (.ifCond .eq 10, 3) := by decide +kernel
theorem dHL_hardship_14 : decode bHL_hardship 14 = .ok (.lload_n 2, 1) := by decide +kernel
theorem dHL_hardship_15 : decode bHL_hardship 15 = .ok (.lload 4, 2) := by decide +kernel
theorem dHL_hardship_17 : decode bHL_hardship 17 = .ok (.lcmp, 1) := by decide +kernel
theorem dHL_hardship_18 : decode bHL_hardship 18 = .ok (.ifCond .le 5, 3) := by decide +kernel
theorem dHL_hardship_21 : decode bHL_hardship 21 = .ok (.iconst 0, 1) := by decide +kernel
theorem dHL_hardship_22 : decode bHL_hardship 22 = .ok (.ireturn, 1) := by decide +kernel
theorem dHL_hardship_23 : decode bHL_hardship 23 = .ok (.aload_n 0, 1) := by decide +kernel
theorem dHL_hardship_24 : decode bHL_hardship 24 = .ok (.getfield 10, 3) := by decide +kernel
theorem dHL_hardship_27 : decode bHL_hardship 27 = .ok (.getfield 27, 3) := by decide +kernel
theorem dHL_hardship_30 : decode bHL_hardship 30 = .ok (.getfield 142, 3) := by decide +kernel
theorem dHL_hardship_33 : decode bHL_hardship 33 = .ok (.iload_n 1, 1) := by decide +kernel
theorem dHL_hardship_34 : decode bHL_hardship 34 = .ok (.lload_n 2, 1) := by decide +kernel
theorem dHL_hardship_35 : decode bHL_hardship 35 = .ok (.lastore, 1) := by decide +kernel
theorem dHL_hardship_36 : decode bHL_hardship 36 = .ok (.aload_n 0, 1) := by decide +kernel
theorem dHL_hardship_37 : decode bHL_hardship 37 = .ok (.getfield 10, 3) := by decide +kernel
theorem dHL_hardship_40 : decode bHL_hardship 40 = .ok (.getfield 27, 3) := by decide +kernel
theorem dHL_hardship_43 : decode bHL_hardship 43 = .ok (.getfield 145, 3) := by decide +kernel
theorem dHL_hardship_46 : decode bHL_hardship 46 = .ok (.iload_n 1, 1) := by decide +kernel
theorem dHL_hardship_47 : decode bHL_hardship 47 = .ok (.lload 4, 2) := by decide +kernel
theorem dHL_hardship_49 : decode bHL_hardship 49 = .ok (.lastore, 1) := by decide +kernel
theorem dHL_hardship_50 : decode bHL_hardship 50 = .ok (.iconst 1, 1) := by decide +kernel
theorem dHL_hardship_51 : decode bHL_hardship 51 = .ok (.ireturn, 1) := by decide +kernel
theorem dHL_inLowestTerms_0 : decode bHL_inLowestTerms 0 = .ok (.lconst 1, 1) := by decide +kernel
theorem dHL_inLowestTerms_1 : decode bHL_inLowestTerms 1 = .ok (.lload_n 0, 1) := by decide +kernel
theorem dHL_inLowestTerms_2 : decode bHL_inLowestTerms 2 = .ok (.lload_n 2, 1) := by decide +kernel
theorem dHL_inLowestTerms_3 : decode bHL_inLowestTerms 3 = .ok (.invokestatic 239, 3) := by decide +kernel
theorem dHL_inLowestTerms_6 : decode bHL_inLowestTerms 6 = .ok (.invokestatic 212, 3) := by decide +kernel
theorem dHL_inLowestTerms_9 : decode bHL_inLowestTerms 9 = .ok (.lstore 5, 2) := by decide +kernel
theorem dHL_inLowestTerms_11 : decode bHL_inLowestTerms 11 = .ok (.iload 4, 2) := by decide +kernel
theorem dHL_inLowestTerms_13 : decode bHL_inLowestTerms 13 = .ok (.ifCond .ne 7, 3) := by decide +kernel
theorem dHL_inLowestTerms_16 : decode bHL_inLowestTerms 16 = .ok (.lload_n 0, 1) := by decide +kernel
theorem dHL_inLowestTerms_17 : decode bHL_inLowestTerms 17 = .ok (.goto 4, 3) := by decide +kernel
theorem dHL_inLowestTerms_20 : decode bHL_inLowestTerms 20 = .ok (.lload_n 2, 1) := by decide +kernel
theorem dHL_inLowestTerms_21 : decode bHL_inLowestTerms 21 = .ok (.lload 5, 2) := by decide +kernel
theorem dHL_inLowestTerms_23 : decode bHL_inLowestTerms 23 = .ok (.ldiv, 1) := by decide +kernel
theorem dHL_inLowestTerms_24 : decode bHL_inLowestTerms 24 = .ok (.lreturn, 1) := by decide +kernel
theorem dHL_instal_0 : decode bHL_instal 0 = .ok (.aload_n 0, 1) := by decide +kernel
theorem dHL_instal_1 : decode bHL_instal 1 = .ok (.getfield 10, 3) := by decide +kernel
theorem dHL_instal_4 : decode bHL_instal 4 = .ok (.getfield 27, 3) := by decide +kernel
theorem dHL_instal_7 : decode bHL_instal 7 = .ok (.iload_n 1, 1) := by decide +kernel
theorem dHL_instal_8 : decode bHL_instal 8 = .ok (.invokevirtual 105, 3) := by decide +kernel
theorem dHL_instal_11 : decode bHL_instal 11 = .ok (.ifCond .eq 14, 3) := by decide +kernel
theorem dHL_instal_14 : decode bHL_instal 14 = .ok (.iload_n 2, 1) := by decide +kernel
theorem dHL_instal_15 : decode bHL_instal 15 = .ok (.iconst 1, 1) := by decide +kernel
theorem dHL_instal_16 : decode bHL_instal 16 = .ok (.if_icmp .lt 9, 3) := by decide +kernel
theorem dHL_instal_19 : decode bHL_instal 19 = .ok (.iload_n 2, 1) := by decide +kernel
theorem dHL_instal_20 : decode bHL_instal 20 = .ok (.bipush 24, 2) := by decide +kernel
theorem dHL_instal_22 : decode bHL_instal 22 = .ok (.if_icmp .le 5, 3) := by decide +kernel
theorem dHL_instal_25 : decode bHL_instal 25 = .ok (.iconst (-1), 1) := by decide +kernel
theorem dHL_instal_26 : decode bHL_instal 26 = .ok (.ireturn, 1) := by decide +kernel
theorem dHL_instal_27 : decode bHL_instal 27 = .ok (.aload_n 0, 1) := by decide +kernel
theorem dHL_instal_28 : decode bHL_instal 28 = .ok (.getfield 10, 3) := by decide +kernel
theorem dHL_instal_31 : decode bHL_instal 31 = .ok (.getfield 41, 3) := by decide +kernel
theorem dHL_instal_34 : decode bHL_instal 34 = .ok (.iload_n 1, 1) := by decide +kernel
theorem dHL_instal_35 : decode bHL_instal 35 = .ok (.invokevirtual 148, 3) := by decide +kernel
theorem dHL_instal_38 : decode bHL_instal 38 = .ok (.lstore_n 3, 1) := by decide +kernel
theorem dHL_instal_39 : decode bHL_instal 39 = .ok (.lload_n 3, 1) := by decide +kernel
theorem dHL_instal_40 : decode bHL_instal 40 = .ok (.lconst 0, 1) := by decide +kernel
theorem dHL_instal_41 : decode bHL_instal 41 = .ok (.lcmp, 1) := by decide +kernel
theorem dHL_instal_42 : decode bHL_instal 42 = .ok (.ifCond .ne 7, 3) := by decide +kernel
theorem dHL_instal_45 : decode bHL_instal 45 = .ok (.iconst (-1), 1) := by decide +kernel
theorem dHL_instal_46 : decode bHL_instal 46 = .ok (.goto 15, 3) := by decide +kernel
theorem dHL_instal_49 : decode bHL_instal 49 = .ok (.aload_n 0, 1) := by decide +kernel
theorem dHL_instal_50 : decode bHL_instal 50 = .ok (.getfield 10, 3) := by decide +kernel
theorem dHL_instal_53 : decode bHL_instal 53 = .ok (.getfield 151, 3) := by decide +kernel
theorem dHL_instal_56 : decode bHL_instal 56 = .ok (.lload_n 3, 1) := by decide +kernel
theorem dHL_instal_57 : decode bHL_instal 57 = .ok (.iload_n 2, 1) := by decide +kernel
theorem dHL_instal_58 : decode bHL_instal 58 = .ok (.invokevirtual 155, 3) := by decide +kernel
theorem dHL_instal_61 : decode bHL_instal 61 = .ok (.ireturn, 1) := by decide +kernel
theorem dHL_interest_0 : decode bHL_interest 0 = .ok (.aload_n 0, 1) := by decide +kernel
theorem dHL_interest_1 : decode bHL_interest 1 = .ok (.getfield 10, 3) := by decide +kernel
theorem dHL_interest_4 : decode bHL_interest 4 = .ok (.getfield 27, 3) := by decide +kernel
theorem dHL_interest_7 : decode bHL_interest 7 = .ok (.iload_n 1, 1) := by decide +kernel
theorem dHL_interest_8 : decode bHL_interest 8 = .ok (.invokevirtual 105, 3) := by decide +kernel
theorem dHL_interest_11 : decode bHL_interest 11 = .ok (.ifCond .eq 21, 3) := by decide +kernel
theorem dHL_interest_14 : decode bHL_interest 14 = .ok (.lload_n 2, 1) := by decide +kernel
theorem dHL_interest_15 : decode bHL_interest 15 = .ok (.invokestatic 90, 3) := by decide +kernel
theorem dHL_interest_18 : decode bHL_interest 18 = .ok (.ifCond .eq 14, 3) := by decide +kernel
theorem dHL_interest_21 : decode bHL_interest 21 = .ok (.iload 4, 2) := by decide +kernel
theorem dHL_interest_23 : decode bHL_interest 23 = .ok (.ifCond .lt 9, 3) := by decide +kernel
theorem dHL_interest_26 : decode bHL_interest 26 = .ok (.iload 4, 2) := by decide +kernel
theorem dHL_interest_28 : decode bHL_interest 28 = .ok (.iconst 2, 1) := by decide +kernel
theorem dHL_interest_29 : decode bHL_interest 29 = .ok (.if_icmp .le 7, 3) := by decide +kernel
theorem dHL_interest_32 : decode bHL_interest 32 = .ok (.ldc2_w 116, 3) := by decide +kernel
theorem dHL_interest_35 : decode bHL_interest 35 = .ok (.lreturn, 1) := by decide +kernel
theorem dHL_interest_36 : decode bHL_interest 36 = .ok (.aload_n 0, 1) := by decide +kernel
theorem dHL_interest_37 : decode bHL_interest 37 = .ok (.getfield 10, 3) := by decide +kernel
theorem dHL_interest_40 : decode bHL_interest 40 = .ok (.getfield 41, 3) := by decide +kernel
theorem dHL_interest_43 : decode bHL_interest 43 = .ok (.iload_n 1, 1) := by decide +kernel
theorem dHL_interest_44 : decode bHL_interest 44 = .ok (.lload_n 2, 1) := by decide +kernel
theorem dHL_interest_45 : decode bHL_interest 45 = .ok (.l2i, 1) := by decide +kernel
theorem dHL_interest_46 : decode bHL_interest 46 = .ok (.invokevirtual 200, 3) := by decide +kernel
theorem dHL_interest_49 : decode bHL_interest 49 = .ok (.aload_n 0, 1) := by decide +kernel
theorem dHL_interest_50 : decode bHL_interest 50 = .ok (.getfield 10, 3) := by decide +kernel
theorem dHL_interest_53 : decode bHL_interest 53 = .ok (.getfield 203, 3) := by decide +kernel
theorem dHL_interest_56 : decode bHL_interest 56 = .ok (.lmul, 1) := by decide +kernel
theorem dHL_interest_57 : decode bHL_interest 57 = .ok (.lstore 5, 2) := by decide +kernel
theorem dHL_interest_59 : decode bHL_interest 59 = .ok (.lconst 1, 1) := by decide +kernel
theorem dHL_interest_60 : decode bHL_interest 60 = .ok (.ldc2_w 207, 3) := by decide +kernel
theorem dHL_interest_63 : decode bHL_interest 63 = .ok (.aload_n 0, 1) := by decide +kernel
theorem dHL_interest_64 : decode bHL_interest 64 = .ok (.getfield 10, 3) := by decide +kernel
theorem dHL_interest_67 : decode bHL_interest 67 = .ok (.getfield 209, 3) := by decide +kernel
theorem dHL_interest_70 : decode bHL_interest 70 = .ok (.lmul, 1) := by decide +kernel
theorem dHL_interest_71 : decode bHL_interest 71 = .ok (.invokestatic 212, 3) := by decide +kernel
theorem dHL_interest_74 : decode bHL_interest 74 = .ok (.lstore 7, 2) := by decide +kernel
theorem dHL_interest_76 : decode bHL_interest 76 = .ok (.iload 4, 2) := by decide +kernel
theorem dHL_interest_78 : decode bHL_interest 78 = .ok (.iconst 2, 1) := by decide +kernel
theorem dHL_interest_79 : decode bHL_interest 79 = .ok (.if_icmp .ne 20, 3) := by decide +kernel
theorem dHL_interest_82 : decode bHL_interest 82 = .ok (.ldc2_w 218, 3) := by decide +kernel
theorem dHL_interest_85 : decode bHL_interest 85 = .ok (.lload 5, 2) := by decide +kernel
theorem dHL_interest_87 : decode bHL_interest 87 = .ok (.lmul, 1) := by decide +kernel
theorem dHL_interest_88 : decode bHL_interest 88 = .ok (.lload 7, 2) := by decide +kernel
theorem dHL_interest_90 : decode bHL_interest 90 = .ok (.ladd, 1) := by decide +kernel
theorem dHL_interest_91 : decode bHL_interest 91 = .ok (.ldc2_w 218, 3) := by decide +kernel
theorem dHL_interest_94 : decode bHL_interest 94 = .ok (.lload 7, 2) := by decide +kernel
theorem dHL_interest_96 : decode bHL_interest 96 = .ok (.lmul, 1) := by decide +kernel
theorem dHL_interest_97 : decode bHL_interest 97 = .ok (.ldiv, 1) := by decide +kernel
theorem dHL_interest_98 : decode bHL_interest 98 = .ok (.lreturn, 1) := by decide +kernel
theorem dHL_interest_99 : decode bHL_interest 99 = .ok (.lload 5, 2) := by decide +kernel
theorem dHL_interest_101 : decode bHL_interest 101 = .ok (.lload 7, 2) := by decide +kernel
theorem dHL_interest_103 : decode bHL_interest 103 = .ok (.iload 4, 2) := by decide +kernel
theorem dHL_interest_105 : decode bHL_interest 105 = .ok (.invokestatic 180, 3) := by decide +kernel
theorem dHL_interest_108 : decode bHL_interest 108 = .ok (.lreturn, 1) := by decide +kernel
theorem dHL_isDay_0 : decode bHL_isDay 0 = .ok (.lload_n 0, 1) := by decide +kernel
theorem dHL_isDay_1 : decode bHL_isDay 1 = .ok (.lconst 0, 1) := by decide +kernel
theorem dHL_isDay_2 : decode bHL_isDay 2 = .ok (.lcmp, 1) := by decide +kernel
theorem dHL_isDay_3 : decode bHL_isDay 3 = .ok (.ifCond .lt 15, 3) := by decide +kernel
theorem dHL_isDay_6 : decode bHL_isDay 6 = .ok (.lload_n 0, 1) := by decide +kernel
theorem dHL_isDay_7 : decode bHL_isDay 7 = .ok (.ldc2_w 237, 3) := by decide +kernel
theorem dHL_isDay_10 : decode bHL_isDay 10 = .ok (.lcmp, 1) := by decide +kernel
theorem dHL_isDay_11 : decode bHL_isDay 11 = .ok (.ifCond .ge 7, 3) := by decide +kernel
theorem dHL_isDay_14 : decode bHL_isDay 14 = .ok (.iconst 1, 1) := by decide +kernel
theorem dHL_isDay_15 : decode bHL_isDay 15 = .ok (.goto 4, 3) := by decide +kernel
theorem dHL_isDay_18 : decode bHL_isDay 18 = .ok (.iconst 0, 1) := by decide +kernel
theorem dHL_isDay_19 : decode bHL_isDay 19 = .ok (.ireturn, 1) := by decide +kernel
theorem dHL_isMonth_0 : decode bHL_isMonth 0 = .ok (.iload_n 0, 1) := by decide +kernel
theorem dHL_isMonth_1 : decode bHL_isMonth 1 = .ok (.ifCond .lt 13, 3) := by decide +kernel
theorem dHL_isMonth_4 : decode bHL_isMonth 4 = .ok (.iload_n 0, 1) := by decide +kernel
theorem dHL_isMonth_5 : decode bHL_isMonth 5 = .ok (.bipush 120, 2) := by decide +kernel
theorem dHL_isMonth_7 : decode bHL_isMonth 7 = .ok (.if_icmp .ge 7, 3) := by decide +kernel
theorem dHL_isMonth_10 : decode bHL_isMonth 10 = .ok (.iconst 1, 1) := by decide +kernel
theorem dHL_isMonth_11 : decode bHL_isMonth 11 = .ok (.goto 4, 3) := by decide +kernel
theorem dHL_isMonth_14 : decode bHL_isMonth 14 = .ok (.iconst 0, 1) := by decide +kernel
theorem dHL_isMonth_15 : decode bHL_isMonth 15 = .ok (.ireturn, 1) := by decide +kernel
theorem dHL_item_0 : decode bHL_item 0 = .ok (.aload_n 0, 1) := by decide +kernel
theorem dHL_item_1 : decode bHL_item 1 = .ok (.getfield 10, 3) := by decide +kernel
theorem dHL_item_4 : decode bHL_item 4 = .ok (.getfield 27, 3) := by decide +kernel
theorem dHL_item_7 : decode bHL_item 7 = .ok (.iload_n 1, 1) := by decide +kernel
theorem dHL_item_8 : decode bHL_item 8 = .ok (.invokevirtual 105, 3) := by decide +kernel
theorem dHL_item_11 : decode bHL_item 11 = .ok (.ifCond .ne 7, 3) := by decide +kernel
theorem dHL_item_14 : decode bHL_item 14 = .ok (.ldc2_w 116, 3) := by decide +kernel
theorem dHL_item_17 : decode bHL_item 17 = .ok (.lreturn, 1) := by decide +kernel
theorem dHL_item_18 : decode bHL_item 18 = .ok (.aload_n 0, 1) := by decide +kernel
theorem dHL_item_19 : decode bHL_item 19 = .ok (.getfield 10, 3) := by decide +kernel
theorem dHL_item_22 : decode bHL_item 22 = .ok (.getfield 41, 3) := by decide +kernel
theorem dHL_item_25 : decode bHL_item 25 = .ok (.iload_n 1, 1) := by decide +kernel
theorem dHL_item_26 : decode bHL_item 26 = .ok (.iload_n 2, 1) := by decide +kernel
theorem dHL_item_27 : decode bHL_item 27 = .ok (.invokevirtual 118, 3) := by decide +kernel
theorem dHL_item_30 : decode bHL_item 30 = .ok (.istore_n 3, 1) := by decide +kernel
theorem dHL_item_31 : decode bHL_item 31 = .ok (.iload_n 3, 1) := by decide +kernel
theorem dHL_item_32 : decode bHL_item 32 = .ok (.iconst (-1), 1) := by decide +kernel
theorem dHL_item_33 : decode bHL_item 33 = .ok (.if_icmp .ne 9, 3) := by decide +kernel
theorem dHL_item_36 : decode bHL_item 36 = .ok (.ldc2_w 116, 3) := by decide +kernel
theorem dHL_item_39 : decode bHL_item 39 = .ok (.goto 15, 3) := by decide +kernel
theorem dHL_item_42 : decode bHL_item 42 = .ok (.aload_n 0, 1) := by decide +kernel
theorem dHL_item_43 : decode bHL_item 43 = .ok (.getfield 10, 3) := by decide +kernel
theorem dHL_item_46 : decode bHL_item 46 = .ok (.getfield 41, 3) := by decide +kernel
theorem dHL_item_49 : decode bHL_item 49 = .ok (.getfield 121, 3) := by decide +kernel
theorem dHL_item_52 : decode bHL_item 52 = .ok (.iload_n 3, 1) := by decide +kernel
theorem dHL_item_53 : decode bHL_item 53 = .ok (.laload, 1) := by decide +kernel
theorem dHL_item_54 : decode bHL_item 54 = .ok (.lreturn, 1) := by decide +kernel
theorem dHL_move_0 : decode bHL_move 0 = .ok (.aload_n 0, 1) := by decide +kernel
theorem dHL_move_1 : decode bHL_move 1 = .ok (.getfield 10, 3) := by decide +kernel
theorem dHL_move_4 : decode bHL_move 4 = .ok (.getfield 27, 3) := by decide +kernel
theorem dHL_move_7 : decode bHL_move 7 = .ok (.astore 5, 2) := by decide +kernel
theorem dHL_move_9 : decode bHL_move 9 = .ok (.aload 5, 2) := by decide +kernel
theorem dHL_move_11 : decode bHL_move 11 = .ok (.iload_n 1, 1) := by decide +kernel
theorem dHL_move_12 : decode bHL_move 12 = .ok (.invokevirtual 105, 3) := by decide +kernel
theorem dHL_move_15 : decode bHL_move 15 = .ok (.ifCond .eq 12, 3) := by decide +kernel
theorem dHL_move_18 : decode bHL_move 18 = .ok (.aload 5, 2) := by decide +kernel
theorem dHL_move_20 : decode bHL_move 20 = .ok (.iload_n 2, 1) := by decide +kernel
theorem dHL_move_21 : decode bHL_move 21 = .ok (.invokevirtual 105, 3) := by decide +kernel
theorem dHL_move_24 : decode bHL_move 24 = .ok (.ifCond .ne 5, 3) := by decide +kernel
theorem dHL_move_27 : decode bHL_move 27 = .ok (.iconst 0, 1) := by decide +kernel
theorem dHL_move_28 : decode bHL_move 28 = .ok (.ireturn, 1) := by decide +kernel
theorem dHL_move_29 : decode bHL_move 29 = .ok (.iload_n 1, 1) := by decide +kernel
theorem dHL_move_30 : decode bHL_move 30 = .ok (.iload_n 2, 1) := by decide +kernel
theorem dHL_move_31 : decode bHL_move 31 = .ok (.if_icmp .eq 10, 3) := by decide +kernel
theorem dHL_move_34 : decode bHL_move 34 = .ok (.lload_n 3, 1) := by decide +kernel
theorem dHL_move_35 : decode bHL_move 35 = .ok (.invokestatic 90, 3) := by decide +kernel
theorem dHL_move_38 : decode bHL_move 38 = .ok (.ifCond .ne 5, 3) := by decide +kernel
theorem dHL_move_41 : decode bHL_move 41 = .ok (.iconst 0, 1) := by decide +kernel
theorem dHL_move_42 : decode bHL_move 42 = .ok (.ireturn, 1) := by decide +kernel
theorem dHL_move_43 : decode bHL_move 43 = .ok (.aload 5, 2) := by decide +kernel
theorem dHL_move_45 : decode bHL_move 45 = .ok (.iload_n 1, 1) := by decide +kernel
theorem dHL_move_46 : decode bHL_move 46 = .ok (.invokevirtual 163, 3) := by decide +kernel
theorem dHL_move_49 : decode bHL_move 49 = .ok (.ifCond .ne 12, 3) := by decide +kernel
theorem dHL_move_52 : decode bHL_move 52 = .ok (.aload 5, 2) := by decide +kernel
theorem dHL_move_54 : decode bHL_move 54 = .ok (.iload_n 2, 1) := by decide +kernel
theorem dHL_move_55 : decode bHL_move 55 = .ok (.invokevirtual 163, 3) := by decide +kernel
theorem dHL_move_58 : decode bHL_move 58 = .ok (.ifCond .eq 5, 3) := by decide +kernel
theorem dHL_move_61 : decode bHL_move 61 = .ok (.iconst 0, 1) := by decide +kernel
theorem dHL_move_62 : decode bHL_move 62 = .ok (.ireturn, 1) := by decide +kernel
theorem dHL_move_63 : decode bHL_move 63 = .ok (.aload 5, 2) := by decide +kernel
theorem dHL_move_65 : decode bHL_move 65 = .ok (.getfield 166, 3) := by decide +kernel
theorem dHL_move_68 : decode bHL_move 68 = .ok (.iload_n 1, 1) := by decide +kernel
theorem dHL_move_69 : decode bHL_move 69 = .ok (.lload_n 3, 1) := by decide +kernel
theorem dHL_move_70 : decode bHL_move 70 = .ok (.l2i, 1) := by decide +kernel
theorem dHL_move_71 : decode bHL_move 71 = .ok (.iastore, 1) := by decide +kernel
theorem dHL_move_72 : decode bHL_move 72 = .ok (.aload 5, 2) := by decide +kernel
theorem dHL_move_74 : decode bHL_move 74 = .ok (.getfield 169, 3) := by decide +kernel
theorem dHL_move_77 : decode bHL_move 77 = .ok (.iload_n 2, 1) := by decide +kernel
theorem dHL_move_78 : decode bHL_move 78 = .ok (.lload_n 3, 1) := by decide +kernel
theorem dHL_move_79 : decode bHL_move 79 = .ok (.l2i, 1) := by decide +kernel
theorem dHL_move_80 : decode bHL_move 80 = .ok (.iastore, 1) := by decide +kernel
theorem dHL_move_81 : decode bHL_move 81 = .ok (.iconst 1, 1) := by decide +kernel
theorem dHL_move_82 : decode bHL_move 82 = .ok (.ireturn, 1) := by decide +kernel
theorem dHL_opened_0 : decode bHL_opened 0 = .ok (.aload_n 0, 1) := by decide +kernel
theorem dHL_opened_1 : decode bHL_opened 1 = .ok (.getfield 10, 3) := by decide +kernel
theorem dHL_opened_4 : decode bHL_opened 4 = .ok (.getfield 41, 3) := by decide +kernel
theorem dHL_opened_7 : decode bHL_opened 7 = .ok (.iload_n 1, 1) := by decide +kernel
theorem dHL_opened_8 : decode bHL_opened 8 = .ok (.iload_n 2, 1) := by decide +kernel
theorem dHL_opened_9 : decode bHL_opened 9 = .ok (.invokevirtual 125, 3) := by decide +kernel
theorem dHL_opened_12 : decode bHL_opened 12 = .ok (.ireturn, 1) := by decide +kernel
theorem dHL_payment_0 : decode bHL_payment 0 = .ok (.aload_n 0, 1) := by decide +kernel
theorem dHL_payment_1 : decode bHL_payment 1 = .ok (.getfield 10, 3) := by decide +kernel
theorem dHL_payment_4 : decode bHL_payment 4 = .ok (.getfield 27, 3) := by decide +kernel
theorem dHL_payment_7 : decode bHL_payment 7 = .ok (.invokevirtual 97, 3) := by decide +kernel
theorem dHL_payment_10 : decode bHL_payment 10 = .ok (.istore 6, 2) := by decide +kernel
theorem dHL_payment_12 : decode bHL_payment 12 = .ok (.lload_n 2, 1) := by decide +kernel
theorem dHL_payment_13 : decode bHL_payment 13 = .ok (.lconst 1, 1) := by decide +kernel
theorem dHL_payment_14 : decode bHL_payment 14 = .ok (.lcmp, 1) := by decide +kernel
theorem dHL_payment_15 : decode bHL_payment 15 = .ok (.ifCond .lt 23, 3) := by decide +kernel
theorem dHL_payment_18 : decode bHL_payment 18 = .ok (.lload_n 2, 1) := by decide +kernel
theorem dHL_payment_19 : decode bHL_payment 19 = .ok (.ldc2_w 59, 3) := by decide +kernel
theorem dHL_payment_22 : decode bHL_payment 22 = .ok (.lcmp, 1) := by decide +kernel
theorem dHL_payment_23 : decode bHL_payment 23 = .ok (.ifCond .gt 15, 3) := by decide +kernel
theorem dHL_payment_26 : decode bHL_payment 26 = .ok (.aload_n 0, 1) := by decide +kernel
theorem dHL_payment_27 : decode bHL_payment 27 = .ok (.getfield 10, 3) := by decide +kernel
theorem dHL_payment_30 : decode bHL_payment 30 = .ok (.lload 4, 2) := by decide +kernel
theorem dHL_payment_32 : decode bHL_payment 32 = .ok (.invokevirtual 37, 3) := by decide +kernel
theorem dHL_payment_35 : decode bHL_payment 35 = .ok (.ifCond .ne 5, 3) := by decide +kernel
theorem dHL_payment_38 : decode bHL_payment 38 = .ok (.iconst (-1), 1) := by decide +kernel
theorem dHL_payment_39 : decode bHL_payment 39 = .ok (.ireturn, 1) := by decide +kernel
theorem dHL_payment_40 : decode bHL_payment 40 = .ok (.iload 6, 2) := by decide +kernel
theorem dHL_payment_42 : decode bHL_payment 42 = .ok (.iconst (-1), 1) := by decide +kernel
theorem dHL_payment_43 : decode bHL_payment 43 = .ok (.if_icmp .eq 16, 3) := by decide +kernel
theorem dHL_payment_46 : decode bHL_payment 46 = .ok (.aload_n 0, 1) := by decide +kernel
theorem dHL_payment_47 : decode bHL_payment 47 = .ok (.getfield 10, 3) := by decide +kernel
theorem dHL_payment_50 : decode bHL_payment 50 = .ok (.getfield 41, 3) := by decide +kernel

theorem dMO_endBatch_36 : decode bMO_endBatch 36 = .ok (.iload_n 2, 1) := by decide +kernel
theorem dMO_endBatch_37 : decode bMO_endBatch 37 = .ok (.aload_n 0, 1) := by decide +kernel
theorem dMO_endBatch_38 : decode bMO_endBatch 38 = .ok (.getfield 13, 3) := by decide +kernel
theorem dMO_endBatch_41 : decode bMO_endBatch 41 = .ok (.iload_n 2, 1) := by decide +kernel
theorem dMO_endBatch_42 : decode bMO_endBatch 42 = .ok (.laload, 1) := by decide +kernel
theorem dMO_endBatch_43 : decode bMO_endBatch 43 = .ok (.lastore, 1) := by decide +kernel
theorem dMO_endBatch_44 : decode bMO_endBatch 44 = .ok (.iinc 2 1, 3) := by decide +kernel
theorem dMO_endBatch_47 : decode bMO_endBatch 47 = .ok (.goto (-26), 3) := by decide +kernel
theorem dMO_endBatch_50 : decode bMO_endBatch 50 = .ok (.iconst 1, 1) := by decide +kernel
theorem dMO_endBatch_51 : decode bMO_endBatch 51 = .ok (.ireturn, 1) := by decide +kernel
theorem dMO_entry_0 : decode bMO_entry 0 = .ok (.aload_n 0, 1) := by decide +kernel
theorem dMO_entry_1 : decode bMO_entry 1 = .ok (.iconst 0, 1) := by decide +kernel
theorem dMO_entry_2 : decode bMO_entry 2 = .ok (.putfield 16, 3) := by decide +kernel
theorem dMO_entry_5 : decode bMO_entry 5 = .ok (.aload_n 0, 1) := by decide +kernel
theorem dMO_entry_6 : decode bMO_entry 6 = .ok (.getfield 7, 3) := by decide +kernel
theorem dMO_entry_9 : decode bMO_entry 9 = .ok (.iconst 1, 1) := by decide +kernel
theorem dMO_entry_10 : decode bMO_entry 10 = .ok (.laload, 1) := by decide +kernel
theorem dMO_entry_11 : decode bMO_entry 11 = .ok (.ldc2_w 34, 3) := by decide +kernel
theorem dMO_entry_14 : decode bMO_entry 14 = .ok (.lcmp, 1) := by decide +kernel
theorem dMO_entry_15 : decode bMO_entry 15 = .ok (.ifCond .eq 18, 3) := by decide +kernel
theorem dMO_entry_18 : decode bMO_entry 18 = .ok (.lload_n 1, 1) := by decide +kernel
theorem dMO_entry_19 : decode bMO_entry 19 = .ok (.invokestatic 36, 3) := by decide +kernel
theorem dMO_entry_22 : decode bMO_entry 22 = .ok (.ifCond .eq 11, 3) := by decide +kernel
theorem dMO_entry_25 : decode bMO_entry 25 = .ok (.aload_n 0, 1) := by decide +kernel
theorem dMO_entry_26 : decode bMO_entry 26 = .ok (.lload_n 1, 1) := by decide +kernel
theorem dMO_entry_27 : decode bMO_entry 27 = .ok (.invokevirtual 40, 3) := by decide +kernel
theorem dMO_entry_30 : decode bMO_entry 30 = .ok (.ifCond .eq 7, 3) := by decide +kernel
theorem dMO_entry_33 : decode bMO_entry 33 = .ok (.iconst (-1), 1) := by decide +kernel
theorem dMO_entry_34 : decode bMO_entry 34 = .ok (.goto 9, 3) := by decide +kernel
theorem dMO_entry_37 : decode bMO_entry 37 = .ok (.aload_n 0, 1) := by decide +kernel
theorem dMO_entry_38 : decode bMO_entry 38 = .ok (.lload_n 1, 1) := by decide +kernel
theorem dMO_entry_39 : decode bMO_entry 39 = .ok (.iconst 0, 1) := by decide +kernel
theorem dMO_entry_40 : decode bMO_entry 40 = .ok (.invokevirtual 43, 3) := by decide +kernel
theorem dMO_entry_43 : decode bMO_entry 43 = .ok (.ireturn, 1) := by decide +kernel
theorem dMO_found_0 : decode bMO_found 0 = .ok (.aload_n 0, 1) := by decide +kernel
theorem dMO_found_1 : decode bMO_found 1 = .ok (.iconst 0, 1) := by decide +kernel
theorem dMO_found_2 : decode bMO_found 2 = .ok (.putfield 16, 3) := by decide +kernel
theorem dMO_found_5 : decode bMO_found 5 = .ok (.iload_n 1, 1) := by decide +kernel
theorem dMO_found_6 : decode bMO_found 6 = .ok (.ifCond .lt 28, 3) := by decide +kernel
theorem dMO_found_9 : decode bMO_found 9 = .ok (.iload_n 1, 1) := by decide +kernel
theorem dMO_found_10 : decode bMO_found 10 = .ok (.i2l, 1) := by decide +kernel
theorem dMO_found_11 : decode bMO_found 11 = .ok (.aload_n 0, 1) := by decide +kernel
theorem dMO_found_12 : decode bMO_found 12 = .ok (.getfield 7, 3) := by decide +kernel
theorem dMO_found_15 : decode bMO_found 15 = .ok (.iconst 4, 1) := by decide +kernel
theorem dMO_found_16 : decode bMO_found 16 = .ok (.laload, 1) := by decide +kernel
theorem dMO_found_17 : decode bMO_found 17 = .ok (.lcmp, 1) := by decide +kernel
theorem dMO_found_18 : decode bMO_found 18 = .ok (.ifCond .ge 16, 3) := by decide +kernel
theorem dMO_found_21 : decode bMO_found 21 = .ok (.aload_n 0, 1) := by decide +kernel
theorem dMO_found_22 : decode bMO_found 22 = .ok (.getfield 7, 3) := by decide +kernel
theorem dMO_found_25 : decode bMO_found 25 = .ok (.sipush 1200, 3) := by decide +kernel
theorem dMO_found_28 : decode bMO_found 28 = .ok (.iload_n 1, 1) := by decide +kernel
theorem dMO_found_29 : decode bMO_found 29 = .ok (.iadd, 1) := by decide +kernel
theorem dMO_found_30 : decode bMO_found 30 = .ok (.laload, 1) := by decide +kernel
theorem dMO_found_31 : decode bMO_found 31 = .ok (.goto 6, 3) := by decide +kernel
theorem dMO_found_34 : decode bMO_found 34 = .ok (.ldc2_w 79, 3) := by decide +kernel
theorem dMO_found_37 : decode bMO_found 37 = .ok (.lreturn, 1) := by decide +kernel
theorem dMO_gave_0 : decode bMO_gave 0 = .ok (.aload_n 0, 1) := by decide +kernel
theorem dMO_gave_1 : decode bMO_gave 1 = .ok (.getfield 7, 3) := by decide +kernel
theorem dMO_gave_4 : decode bMO_gave 4 = .ok (.sipush 1020, 3) := by decide +kernel
theorem dMO_gave_7 : decode bMO_gave 7 = .ok (.iconst 4, 1) := by decide +kernel
theorem dMO_gave_8 : decode bMO_gave 8 = .ok (.iload_n 1, 1) := by decide +kernel
theorem dMO_gave_9 : decode bMO_gave 9 = .ok (.imul, 1) := by decide +kernel
theorem dMO_gave_10 : decode bMO_gave 10 = .ok (.iadd, 1) := by decide +kernel
theorem dMO_gave_11 : decode bMO_gave 11 = .ok (.iload_n 2, 1) := by decide +kernel
theorem dMO_gave_12 : decode bMO_gave 12 = .ok (.bipush 60, 2) := by decide +kernel
theorem dMO_gave_14 : decode bMO_gave 14 = .ok (.idiv, 1) := by decide +kernel
theorem dMO_gave_15 : decode bMO_gave 15 = .ok (.iadd, 1) := by decide +kernel
theorem dMO_gave_16 : decode bMO_gave 16 = .ok (.laload, 1) := by decide +kernel
theorem dMO_gave_17 : decode bMO_gave 17 = .ok (.iload_n 2, 1) := by decide +kernel
theorem dMO_gave_18 : decode bMO_gave 18 = .ok (.bipush 60, 2) := by decide +kernel
theorem dMO_gave_20 : decode bMO_gave 20 = .ok (.irem, 1) := by decide +kernel
theorem dMO_gave_21 : decode bMO_gave 21 = .ok (.lshr, 1) := by decide +kernel
theorem dMO_gave_22 : decode bMO_gave 22 = .ok (.lconst 1, 1) := by decide +kernel
theorem dMO_gave_23 : decode bMO_gave 23 = .ok (.land, 1) := by decide +kernel
theorem dMO_gave_24 : decode bMO_gave 24 = .ok (.lconst 1, 1) := by decide +kernel
theorem dMO_gave_25 : decode bMO_gave 25 = .ok (.lcmp, 1) := by decide +kernel
theorem dMO_gave_26 : decode bMO_gave 26 = .ok (.ifCond .ne 7, 3) := by decide +kernel
theorem dMO_gave_29 : decode bMO_gave 29 = .ok (.iconst 1, 1) := by decide +kernel
theorem dMO_gave_30 : decode bMO_gave 30 = .ok (.goto 4, 3) := by decide +kernel
theorem dMO_gave_33 : decode bMO_gave 33 = .ok (.iconst 0, 1) := by decide +kernel
theorem dMO_gave_34 : decode bMO_gave 34 = .ok (.ireturn, 1) := by decide +kernel
theorem dMO_hardship_0 : decode bMO_hardship 0 = .ok (.aload_n 0, 1) := by decide +kernel
theorem dMO_hardship_1 : decode bMO_hardship 1 = .ok (.iconst 0, 1) := by decide +kernel
theorem dMO_hardship_2 : decode bMO_hardship 2 = .ok (.putfield 16, 3) := by decide +kernel
theorem dMO_hardship_5 : decode bMO_hardship 5 = .ok (.aload_n 0, 1) := by decide +kernel
theorem dMO_hardship_6 : decode bMO_hardship 6 = .ok (.iload_n 1, 1) := by decide +kernel
theorem dMO_hardship_7 : decode bMO_hardship 7 = .ok (.invokevirtual 70, 3) := by decide +kernel
theorem dMO_hardship_10 : decode bMO_hardship 10 = .ok (.ifCond .eq 10, 3) := by decide +kernel
theorem dMO_hardship_13 : decode bMO_hardship 13 = .ok (.lload_n 2, 1) := by decide +kernel
theorem dMO_hardship_14 : decode bMO_hardship 14 = .ok (.lload 4, 2) := by decide +kernel
theorem dMO_hardship_16 : decode bMO_hardship 16 = .ok (.lcmp, 1) := by decide +kernel
theorem dMO_hardship_17 : decode bMO_hardship 17 = .ok (.ifCond .le 5, 3) := by decide +kernel
theorem dMO_hardship_20 : decode bMO_hardship 20 = .ok (.iconst 0, 1) := by decide +kernel
theorem dMO_hardship_21 : decode bMO_hardship 21 = .ok (.ireturn, 1) := by decide +kernel
theorem dMO_hardship_22 : decode bMO_hardship 22 = .ok (.aload_n 0, 1) := by decide +kernel
theorem dMO_hardship_23 : decode bMO_hardship 23 = .ok (.getfield 7, 3) := by decide +kernel
theorem dMO_hardship_26 : decode bMO_hardship 26 = .ok (.bipush 40, 2) := by decide +kernel
theorem dMO_hardship_28 : decode bMO_hardship 28 = .ok (.iload_n 1, 1) := by decide +kernel
theorem dMO_hardship_29 : decode bMO_hardship 29 = .ok (.iadd, 1) := by decide +kernel
theorem dMO_hardship_30 : decode bMO_hardship 30 = .ok (.lconst 1, 1) := by decide +kernel
theorem dMO_hardship_31 : decode bMO_hardship 31 = .ok (.lastore, 1) := by decide +kernel
theorem dMO_hardship_32 : decode bMO_hardship 32 = .ok (.aload_n 0, 1) := by decide +kernel
theorem dMO_hardship_33 : decode bMO_hardship 33 = .ok (.getfield 7, 3) := by decide +kernel
theorem dMO_hardship_36 : decode bMO_hardship 36 = .ok (.bipush 50, 2) := by decide +kernel
theorem dMO_hardship_38 : decode bMO_hardship 38 = .ok (.iload_n 1, 1) := by decide +kernel
theorem dMO_hardship_39 : decode bMO_hardship 39 = .ok (.iadd, 1) := by decide +kernel
theorem dMO_hardship_40 : decode bMO_hardship 40 = .ok (.lload_n 2, 1) := by decide +kernel
theorem dMO_hardship_41 : decode bMO_hardship 41 = .ok (.lastore, 1) := by decide +kernel
theorem dMO_hardship_42 : decode bMO_hardship 42 = .ok (.aload_n 0, 1) := by decide +kernel
theorem dMO_hardship_43 : decode bMO_hardship 43 = .ok (.getfield 7, 3) := by decide +kernel
theorem dMO_hardship_46 : decode bMO_hardship 46 = .ok (.bipush 60, 2) := by decide +kernel
theorem dMO_hardship_48 : decode bMO_hardship 48 = .ok (.iload_n 1, 1) := by decide +kernel
theorem dMO_hardship_49 : decode bMO_hardship 49 = .ok (.iadd, 1) := by decide +kernel
theorem dMO_hardship_50 : decode bMO_hardship 50 = .ok (.lload 4, 2) := by decide +kernel
theorem dMO_hardship_52 : decode bMO_hardship 52 = .ok (.lastore, 1) := by decide +kernel
theorem dMO_hardship_53 : decode bMO_hardship 53 = .ok (.iconst 1, 1) := by decide +kernel
theorem dMO_hardship_54 : decode bMO_hardship 54 = .ok (.ireturn, 1) := by decide +kernel
theorem dMO_hasMoved_0 : decode bMO_hasMoved 0 = .ok (.aload_n 0, 1) := by decide +kernel
theorem dMO_hasMoved_1 : decode bMO_hasMoved 1 = .ok (.getfield 7, 3) := by decide +kernel
theorem dMO_hasMoved_4 : decode bMO_hasMoved 4 = .ok (.bipush 70, 2) := by decide +kernel
theorem dMO_hasMoved_6 : decode bMO_hasMoved 6 = .ok (.iload_n 1, 1) := by decide +kernel
theorem dMO_hasMoved_7 : decode bMO_hasMoved 7 = .ok (.iadd, 1) := by decide +kernel
theorem dMO_hasMoved_8 : decode bMO_hasMoved 8 = .ok (.laload, 1) := by decide +kernel
theorem dMO_hasMoved_9 : decode bMO_hasMoved 9 = .ok (.lconst 0, 1) := by decide +kernel
theorem dMO_hasMoved_10 : decode bMO_hasMoved 10 = .ok (.lcmp, 1) := by decide +kernel
theorem dMO_hasMoved_11 : decode bMO_hasMoved 11 = .ok (.ifCond .gt 17, 3) := by decide +kernel
theorem dMO_hasMoved_14 : decode bMO_hasMoved 14 = .ok (.aload_n 0, 1) := by decide +kernel
theorem dMO_hasMoved_15 : decode bMO_hasMoved 15 = .ok (.getfield 7, 3) := by decide +kernel
theorem dMO_hasMoved_18 : decode bMO_hasMoved 18 = .ok (.bipush 80, 2) := by decide +kernel
theorem dMO_hasMoved_20 : decode bMO_hasMoved 20 = .ok (.iload_n 1, 1) := by decide +kernel
theorem dMO_hasMoved_21 : decode bMO_hasMoved 21 = .ok (.iadd, 1) := by decide +kernel
theorem dMO_hasMoved_22 : decode bMO_hasMoved 22 = .ok (.laload, 1) := by decide +kernel
theorem dMO_hasMoved_23 : decode bMO_hasMoved 23 = .ok (.lconst 0, 1) := by decide +kernel
theorem dMO_hasMoved_24 : decode bMO_hasMoved 24 = .ok (.lcmp, 1) := by decide +kernel
theorem dMO_hasMoved_25 : decode bMO_hasMoved 25 = .ok (.ifCond .le 7, 3) := by decide +kernel
theorem dMO_hasMoved_28 : decode bMO_hasMoved 28 = .ok (.iconst 1, 1) := by decide +kernel
theorem dMO_hasMoved_29 : decode bMO_hasMoved 29 = .ok (.goto 4, 3) := by decide +kernel
theorem dMO_hasMoved_32 : decode bMO_hasMoved 32 = .ok (.iconst 0, 1) := by decide +kernel
theorem dMO_hasMoved_33 : decode bMO_hasMoved 33 = .ok (.ireturn, 1) := by decide +kernel
theorem dMO_hasOld_0 : decode bMO_hasOld 0 = .ok (.iconst 0, 1) := by decide +kernel
theorem dMO_hasOld_1 : decode bMO_hasOld 1 = .ok (.istore 4, 2) := by decide +kernel
theorem dMO_hasOld_3 : decode bMO_hasOld 3 = .ok (.iconst 0, 1) := by decide +kernel
theorem dMO_hasOld_4 : decode bMO_hasOld 4 = .ok (.istore 5, 2) := by decide +kernel
theorem dMO_hasOld_6 : decode bMO_hasOld 6 = .ok (.iload 5, 2) := by decide +kernel
theorem dMO_hasOld_8 : decode bMO_hasOld 8 = .ok (.sipush 240, 3) := by decide +kernel
theorem dMO_hasOld_11 : decode bMO_hasOld 11 = .ok (.if_icmp .ge 69, 3) := by decide +kernel
theorem dMO_hasOld_14 : decode bMO_hasOld 14 = .ok (.iload 4, 2) := by decide +kernel
theorem dMO_hasOld_16 : decode bMO_hasOld 16 = .ok (.ifCond .ne 51, 3) := by decide +kernel
theorem dMO_hasOld_19 : decode bMO_hasOld 19 = .ok (.aload_n 0, 1) := by decide +kernel
theorem dMO_hasOld_20 : decode bMO_hasOld 20 = .ok (.iload 5, 2) := by decide +kernel
theorem dMO_hasOld_22 : decode bMO_hasOld 22 = .ok (.iload_n 1, 1) := by decide +kernel
theorem dMO_hasOld_23 : decode bMO_hasOld 23 = .ok (.invokevirtual 64, 3) := by decide +kernel
theorem dMO_hasOld_26 : decode bMO_hasOld 26 = .ok (.ifCond .eq 45, 3) := by decide +kernel
theorem dMO_hasOld_29 : decode bMO_hasOld 29 = .ok (.aload_n 0, 1) := by decide +kernel
theorem dMO_hasOld_30 : decode bMO_hasOld 30 = .ok (.getfield 7, 3) := by decide +kernel
theorem dMO_hasOld_33 : decode bMO_hasOld 33 = .ok (.bipush 100, 2) := by decide +kernel
theorem dMO_hasOld_35 : decode bMO_hasOld 35 = .ok (.iload 5, 2) := by decide +kernel
theorem dMO_hasOld_37 : decode bMO_hasOld 37 = .ok (.bipush 6, 2) := by decide +kernel
theorem dMO_hasOld_39 : decode bMO_hasOld 39 = .ok (.idiv, 1) := by decide +kernel
theorem dMO_hasOld_40 : decode bMO_hasOld 40 = .ok (.iadd, 1) := by decide +kernel
theorem dMO_hasOld_41 : decode bMO_hasOld 41 = .ok (.laload, 1) := by decide +kernel
theorem dMO_hasOld_42 : decode bMO_hasOld 42 = .ok (.ldc2_w 84, 3) := by decide +kernel
theorem dMO_hasOld_45 : decode bMO_hasOld 45 = .ok (.ladd, 1) := by decide +kernel
theorem dMO_hasOld_46 : decode bMO_hasOld 46 = .ok (.lload_n 2, 1) := by decide +kernel
theorem dMO_hasOld_47 : decode bMO_hasOld 47 = .ok (.lcmp, 1) := by decide +kernel
theorem dMO_hasOld_48 : decode bMO_hasOld 48 = .ok (.ifCond .gt 23, 3) := by decide +kernel
theorem dMO_hasOld_51 : decode bMO_hasOld 51 = .ok (.aload_n 0, 1) := by decide +kernel
theorem dMO_hasOld_52 : decode bMO_hasOld 52 = .ok (.getfield 7, 3) := by decide +kernel
theorem dMO_hasOld_55 : decode bMO_hasOld 55 = .ok (.sipush 780, 3) := by decide +kernel
theorem dMO_hasOld_58 : decode bMO_hasOld 58 = .ok (.iload 5, 2) := by decide +kernel
theorem dMO_hasOld_60 : decode bMO_hasOld 60 = .ok (.iadd, 1) := by decide +kernel
theorem dMO_hasOld_61 : decode bMO_hasOld 61 = .ok (.laload, 1) := by decide +kernel
theorem dMO_hasOld_62 : decode bMO_hasOld 62 = .ok (.lconst 0, 1) := by decide +kernel
theorem dMO_hasOld_63 : decode bMO_hasOld 63 = .ok (.lcmp, 1) := by decide +kernel
theorem dMO_hasOld_64 : decode bMO_hasOld 64 = .ok (.ifCond .le 7, 3) := by decide +kernel
theorem dMO_hasOld_67 : decode bMO_hasOld 67 = .ok (.iconst 1, 1) := by decide +kernel
theorem dMO_hasOld_68 : decode bMO_hasOld 68 = .ok (.goto 4, 3) := by decide +kernel
theorem dMO_hasOld_71 : decode bMO_hasOld 71 = .ok (.iconst 0, 1) := by decide +kernel
theorem dMO_hasOld_72 : decode bMO_hasOld 72 = .ok (.istore 4, 2) := by decide +kernel
theorem dMO_hasOld_74 : decode bMO_hasOld 74 = .ok (.iinc 5 1, 3) := by decide +kernel
theorem dMO_hasOld_77 : decode bMO_hasOld 77 = .ok (.goto (-71), 3) := by decide +kernel
theorem dMO_hasOld_80 : decode bMO_hasOld 80 = .ok (.iload 4, 2) := by decide +kernel
theorem dMO_hasOld_82 : decode bMO_hasOld 82 = .ok (.ireturn, 1) := by decide +kernel
theorem dMO_instal_0 : decode bMO_instal 0 = .ok (.aload_n 0, 1) := by decide +kernel
theorem dMO_instal_1 : decode bMO_instal 1 = .ok (.iconst 0, 1) := by decide +kernel
theorem dMO_instal_2 : decode bMO_instal 2 = .ok (.putfield 16, 3) := by decide +kernel
theorem dMO_instal_5 : decode bMO_instal 5 = .ok (.aload_n 0, 1) := by decide +kernel
theorem dMO_instal_6 : decode bMO_instal 6 = .ok (.iload_n 1, 1) := by decide +kernel
theorem dMO_instal_7 : decode bMO_instal 7 = .ok (.invokevirtual 70, 3) := by decide +kernel
theorem dMO_instal_10 : decode bMO_instal 10 = .ok (.ifCond .eq 37, 3) := by decide +kernel
theorem dMO_instal_13 : decode bMO_instal 13 = .ok (.iload_n 2, 1) := by decide +kernel
theorem dMO_instal_14 : decode bMO_instal 14 = .ok (.iconst 1, 1) := by decide +kernel
theorem dMO_instal_15 : decode bMO_instal 15 = .ok (.if_icmp .lt 32, 3) := by decide +kernel
theorem dMO_instal_18 : decode bMO_instal 18 = .ok (.iload_n 2, 1) := by decide +kernel
theorem dMO_instal_19 : decode bMO_instal 19 = .ok (.bipush 24, 2) := by decide +kernel
theorem dMO_instal_21 : decode bMO_instal 21 = .ok (.if_icmp .gt 26, 3) := by decide +kernel
theorem dMO_instal_24 : decode bMO_instal 24 = .ok (.aload_n 0, 1) := by decide +kernel
theorem dMO_instal_25 : decode bMO_instal 25 = .ok (.getfield 7, 3) := by decide +kernel
theorem dMO_instal_28 : decode bMO_instal 28 = .ok (.iconst 3, 1) := by decide +kernel
theorem dMO_instal_29 : decode bMO_instal 29 = .ok (.laload, 1) := by decide +kernel
theorem dMO_instal_30 : decode bMO_instal 30 = .ok (.ldc2_w 94, 3) := by decide +kernel
theorem dMO_instal_33 : decode bMO_instal 33 = .ok (.lcmp, 1) := by decide +kernel
theorem dMO_instal_34 : decode bMO_instal 34 = .ok (.ifCond .eq 13, 3) := by decide +kernel
theorem dMO_instal_37 : decode bMO_instal 37 = .ok (.aload_n 0, 1) := by decide +kernel
theorem dMO_instal_38 : decode bMO_instal 38 = .ok (.iload_n 1, 1) := by decide +kernel
theorem dMO_instal_39 : decode bMO_instal 39 = .ok (.invokevirtual 96, 3) := by decide +kernel
theorem dMO_instal_42 : decode bMO_instal 42 = .ok (.lconst 0, 1) := by decide +kernel
theorem dMO_instal_43 : decode bMO_instal 43 = .ok (.lcmp, 1) := by decide +kernel
theorem dMO_instal_44 : decode bMO_instal 44 = .ok (.ifCond .ne 5, 3) := by decide +kernel
theorem dMO_instal_47 : decode bMO_instal 47 = .ok (.iconst (-1), 1) := by decide +kernel
theorem dMO_instal_48 : decode bMO_instal 48 = .ok (.ireturn, 1) := by decide +kernel
theorem dMO_instal_49 : decode bMO_instal 49 = .ok (.aload_n 0, 1) := by decide +kernel
theorem dMO_instal_50 : decode bMO_instal 50 = .ok (.getfield 7, 3) := by decide +kernel
theorem dMO_instal_53 : decode bMO_instal 53 = .ok (.iconst 3, 1) := by decide +kernel
theorem dMO_instal_54 : decode bMO_instal 54 = .ok (.laload, 1) := by decide +kernel
theorem dMO_instal_55 : decode bMO_instal 55 = .ok (.l2i, 1) := by decide +kernel
theorem dMO_instal_56 : decode bMO_instal 56 = .ok (.istore_n 3, 1) := by decide +kernel
theorem dMO_instal_57 : decode bMO_instal 57 = .ok (.aload_n 0, 1) := by decide +kernel
theorem dMO_instal_58 : decode bMO_instal 58 = .ok (.getfield 7, 3) := by decide +kernel
theorem dMO_instal_61 : decode bMO_instal 61 = .ok (.sipush 1180, 3) := by decide +kernel
theorem dMO_instal_64 : decode bMO_instal 64 = .ok (.iload_n 3, 1) := by decide +kernel
theorem dMO_instal_65 : decode bMO_instal 65 = .ok (.iadd, 1) := by decide +kernel
theorem dMO_instal_66 : decode bMO_instal 66 = .ok (.aload_n 0, 1) := by decide +kernel
theorem dMO_instal_67 : decode bMO_instal 67 = .ok (.iload_n 1, 1) := by decide +kernel
theorem dMO_instal_68 : decode bMO_instal 68 = .ok (.invokevirtual 96, 3) := by decide +kernel
theorem dMO_instal_71 : decode bMO_instal 71 = .ok (.lastore, 1) := by decide +kernel
theorem dMO_instal_72 : decode bMO_instal 72 = .ok (.aload_n 0, 1) := by decide +kernel
theorem dMO_instal_73 : decode bMO_instal 73 = .ok (.getfield 7, 3) := by decide +kernel
theorem dMO_instal_76 : decode bMO_instal 76 = .ok (.sipush 1190, 3) := by decide +kernel
theorem dMO_instal_79 : decode bMO_instal 79 = .ok (.iload_n 3, 1) := by decide +kernel
theorem dMO_instal_80 : decode bMO_instal 80 = .ok (.iadd, 1) := by decide +kernel
theorem dMO_instal_81 : decode bMO_instal 81 = .ok (.iload_n 2, 1) := by decide +kernel
theorem dMO_instal_82 : decode bMO_instal 82 = .ok (.i2l, 1) := by decide +kernel
theorem dMO_instal_83 : decode bMO_instal 83 = .ok (.lastore, 1) := by decide +kernel
theorem dMO_instal_84 : decode bMO_instal 84 = .ok (.aload_n 0, 1) := by decide +kernel
theorem dMO_instal_85 : decode bMO_instal 85 = .ok (.getfield 7, 3) := by decide +kernel
theorem dMO_instal_88 : decode bMO_instal 88 = .ok (.iconst 3, 1) := by decide +kernel
theorem dMO_instal_89 : decode bMO_instal 89 = .ok (.dup2, 1) := by decide +kernel
theorem dMO_instal_90 : decode bMO_instal 90 = .ok (.laload, 1) := by decide +kernel
theorem dMO_instal_91 : decode bMO_instal 91 = .ok (.lconst 1, 1) := by decide +kernel
theorem dMO_instal_92 : decode bMO_instal 92 = .ok (.ladd, 1) := by decide +kernel
theorem dMO_instal_93 : decode bMO_instal 93 = .ok (.lastore, 1) := by decide +kernel
theorem dMO_instal_94 : decode bMO_instal 94 = .ok (.iload_n 3, 1) := by decide +kernel
theorem dMO_instal_95 : decode bMO_instal 95 = .ok (.ireturn, 1) := by decide +kernel
theorem dMO_interest_0 : decode bMO_interest 0 = .ok (.aload_n 0, 1) := by decide +kernel
theorem dMO_interest_1 : decode bMO_interest 1 = .ok (.iconst 0, 1) := by decide +kernel
theorem dMO_interest_2 : decode bMO_interest 2 = .ok (.putfield 16, 3) := by decide +kernel
theorem dMO_interest_5 : decode bMO_interest 5 = .ok (.aload_n 0, 1) := by decide +kernel
theorem dMO_interest_6 : decode bMO_interest 6 = .ok (.iload_n 1, 1) := by decide +kernel
theorem dMO_interest_7 : decode bMO_interest 7 = .ok (.invokevirtual 70, 3) := by decide +kernel
theorem dMO_interest_10 : decode bMO_interest 10 = .ok (.ifCond .eq 21, 3) := by decide +kernel
theorem dMO_interest_13 : decode bMO_interest 13 = .ok (.lload_n 2, 1) := by decide +kernel
theorem dMO_interest_14 : decode bMO_interest 14 = .ok (.invokestatic 36, 3) := by decide +kernel
theorem dMO_interest_17 : decode bMO_interest 17 = .ok (.ifCond .eq 14, 3) := by decide +kernel
theorem dMO_interest_20 : decode bMO_interest 20 = .ok (.iload 4, 2) := by decide +kernel
theorem dMO_interest_22 : decode bMO_interest 22 = .ok (.ifCond .lt 9, 3) := by decide +kernel
theorem dMO_interest_25 : decode bMO_interest 25 = .ok (.iload 4, 2) := by decide +kernel
theorem dMO_interest_27 : decode bMO_interest 27 = .ok (.iconst 2, 1) := by decide +kernel
theorem dMO_interest_28 : decode bMO_interest 28 = .ok (.if_icmp .le 7, 3) := by decide +kernel
theorem dMO_interest_31 : decode bMO_interest 31 = .ok (.ldc2_w 79, 3) := by decide +kernel
theorem dMO_interest_34 : decode bMO_interest 34 = .ok (.lreturn, 1) := by decide +kernel
theorem dMO_interest_35 : decode bMO_interest 35 = .ok (.lconst 0, 1) := by decide +kernel
theorem dMO_interest_36 : decode bMO_interest 36 = .ok (.lstore 5, 2) := by decide +kernel
theorem dMO_interest_38 : decode bMO_interest 38 = .ok (.iconst 0, 1) := by decide +kernel
theorem dMO_interest_39 : decode bMO_interest 39 = .ok (.istore 7, 2) := by decide +kernel
theorem dMO_interest_41 : decode bMO_interest 41 = .ok (.iload 7, 2) := by decide +kernel
theorem dMO_interest_43 : decode bMO_interest 43 = .ok (.sipush 240, 3) := by decide +kernel
theorem dMO_interest_46 : decode bMO_interest 46 = .ok (.if_icmp .ge 74, 3) := by decide +kernel
theorem dMO_interest_49 : decode bMO_interest 49 = .ok (.aload_n 0, 1) := by decide +kernel
theorem dMO_interest_50 : decode bMO_interest 50 = .ok (.iload 7, 2) := by decide +kernel
theorem dMO_interest_52 : decode bMO_interest 52 = .ok (.iload_n 1, 1) := by decide +kernel
theorem dMO_interest_53 : decode bMO_interest 53 = .ok (.invokevirtual 64, 3) := by decide +kernel
theorem dMO_interest_56 : decode bMO_interest 56 = .ok (.ifCond .eq 25, 3) := by decide +kernel
theorem dMO_interest_59 : decode bMO_interest 59 = .ok (.lload_n 2, 1) := by decide +kernel
theorem dMO_interest_60 : decode bMO_interest 60 = .ok (.aload_n 0, 1) := by decide +kernel
theorem dMO_interest_61 : decode bMO_interest 61 = .ok (.getfield 7, 3) := by decide +kernel
theorem dMO_interest_64 : decode bMO_interest 64 = .ok (.bipush 100, 2) := by decide +kernel
theorem dMO_interest_66 : decode bMO_interest 66 = .ok (.iload 7, 2) := by decide +kernel
theorem dMO_interest_68 : decode bMO_interest 68 = .ok (.bipush 6, 2) := by decide +kernel
theorem dMO_interest_70 : decode bMO_interest 70 = .ok (.idiv, 1) := by decide +kernel
theorem dMO_interest_71 : decode bMO_interest 71 = .ok (.iadd, 1) := by decide +kernel
theorem dMO_interest_72 : decode bMO_interest 72 = .ok (.laload, 1) := by decide +kernel
theorem dMO_interest_73 : decode bMO_interest 73 = .ok (.lsub, 1) := by decide +kernel
theorem dMO_interest_74 : decode bMO_interest 74 = .ok (.ldc2_w 30, 3) := by decide +kernel
theorem dMO_interest_77 : decode bMO_interest 77 = .ok (.lsub, 1) := by decide +kernel
theorem dMO_interest_78 : decode bMO_interest 78 = .ok (.goto 4, 3) := by decide +kernel
theorem dMO_interest_81 : decode bMO_interest 81 = .ok (.lconst 0, 1) := by decide +kernel
theorem dMO_interest_82 : decode bMO_interest 82 = .ok (.lstore 8, 2) := by decide +kernel
theorem dMO_interest_84 : decode bMO_interest 84 = .ok (.lload 5, 2) := by decide +kernel
theorem dMO_interest_86 : decode bMO_interest 86 = .ok (.lload 8, 2) := by decide +kernel
theorem dMO_interest_88 : decode bMO_interest 88 = .ok (.lconst 0, 1) := by decide +kernel
theorem dMO_interest_89 : decode bMO_interest 89 = .ok (.lcmp, 1) := by decide +kernel
theorem dMO_interest_90 : decode bMO_interest 90 = .ok (.ifCond .le 20, 3) := by decide +kernel
theorem dMO_interest_93 : decode bMO_interest 93 = .ok (.lload 8, 2) := by decide +kernel
theorem dMO_interest_95 : decode bMO_interest 95 = .ok (.aload_n 0, 1) := by decide +kernel
theorem dMO_interest_96 : decode bMO_interest 96 = .ok (.getfield 7, 3) := by decide +kernel
theorem dMO_interest_99 : decode bMO_interest 99 = .ok (.sipush 780, 3) := by decide +kernel
theorem dMO_interest_102 : decode bMO_interest 102 = .ok (.iload 7, 2) := by decide +kernel
theorem dMO_interest_104 : decode bMO_interest 104 = .ok (.iadd, 1) := by decide +kernel
theorem dMO_interest_105 : decode bMO_interest 105 = .ok (.laload, 1) := by decide +kernel
theorem dMO_interest_106 : decode bMO_interest 106 = .ok (.lmul, 1) := by decide +kernel
theorem dMO_interest_107 : decode bMO_interest 107 = .ok (.goto 4, 3) := by decide +kernel
theorem dMO_interest_110 : decode bMO_interest 110 = .ok (.lconst 0, 1) := by decide +kernel
theorem dMO_interest_111 : decode bMO_interest 111 = .ok (.ladd, 1) := by decide +kernel
theorem dMO_interest_112 : decode bMO_interest 112 = .ok (.lstore 5, 2) := by decide +kernel
theorem dMO_interest_114 : decode bMO_interest 114 = .ok (.iinc 7 1, 3) := by decide +kernel
theorem dMO_interest_117 : decode bMO_interest 117 = .ok (.goto (-76), 3) := by decide +kernel
theorem dMO_interest_120 : decode bMO_interest 120 = .ok (.lload 5, 2) := by decide +kernel
theorem dMO_interest_122 : decode bMO_interest 122 = .ok (.aload_n 0, 1) := by decide +kernel
theorem dMO_interest_123 : decode bMO_interest 123 = .ok (.getfield 7, 3) := by decide +kernel
theorem dMO_interest_126 : decode bMO_interest 126 = .ok (.iconst 5, 1) := by decide +kernel
theorem dMO_interest_127 : decode bMO_interest 127 = .ok (.laload, 1) := by decide +kernel
theorem dMO_interest_128 : decode bMO_interest 128 = .ok (.lmul, 1) := by decide +kernel
theorem dMO_interest_129 : decode bMO_interest 129 = .ok (.lstore 7, 2) := by decide +kernel
theorem dMO_interest_131 : decode bMO_interest 131 = .ok (.ldc2_w 123, 3) := by decide +kernel
theorem dMO_interest_134 : decode bMO_interest 134 = .ok (.aload_n 0, 1) := by decide +kernel
theorem dMO_interest_135 : decode bMO_interest 135 = .ok (.getfield 7, 3) := by decide +kernel
theorem dMO_interest_138 : decode bMO_interest 138 = .ok (.bipush 6, 2) := by decide +kernel
theorem dMO_interest_140 : decode bMO_interest 140 = .ok (.laload, 1) := by decide +kernel
theorem dMO_interest_141 : decode bMO_interest 141 = .ok (.lmul, 1) := by decide +kernel
theorem dMO_interest_142 : decode bMO_interest 142 = .ok (.lstore 9, 2) := by decide +kernel
theorem dMO_interest_144 : decode bMO_interest 144 = .ok (.iload 4, 2) := by decide +kernel
theorem dMO_interest_146 : decode bMO_interest 146 = .ok (.iconst 2, 1) := by decide +kernel
theorem dMO_interest_147 : decode bMO_interest 147 = .ok (.if_icmp .ge 15, 3) := by decide +kernel
theorem dMO_interest_150 : decode bMO_interest 150 = .ok (.lload 7, 2) := by decide +kernel
theorem dMO_interest_152 : decode bMO_interest 152 = .ok (.lload 9, 2) := by decide +kernel
theorem dMO_interest_154 : decode bMO_interest 154 = .ok (.iload 4, 2) := by decide +kernel
theorem dMO_interest_156 : decode bMO_interest 156 = .ok (.invokestatic 107, 3) := by decide +kernel
theorem dMO_interest_159 : decode bMO_interest 159 = .ok (.goto 19, 3) := by decide +kernel
theorem dMO_interest_162 : decode bMO_interest 162 = .ok (.ldc2_w 125, 3) := by decide +kernel
theorem dMO_interest_165 : decode bMO_interest 165 = .ok (.lload 7, 2) := by decide +kernel
theorem dMO_interest_167 : decode bMO_interest 167 = .ok (.lmul, 1) := by decide +kernel
theorem dMO_interest_168 : decode bMO_interest 168 = .ok (.lload 9, 2) := by decide +kernel
theorem dMO_interest_170 : decode bMO_interest 170 = .ok (.ladd, 1) := by decide +kernel
theorem dMO_interest_171 : decode bMO_interest 171 = .ok (.ldc2_w 125, 3) := by decide +kernel
theorem dMO_interest_174 : decode bMO_interest 174 = .ok (.lload 9, 2) := by decide +kernel
theorem dMO_interest_176 : decode bMO_interest 176 = .ok (.lmul, 1) := by decide +kernel
theorem dMO_interest_177 : decode bMO_interest 177 = .ok (.ldiv, 1) := by decide +kernel
theorem dMO_interest_178 : decode bMO_interest 178 = .ok (.lreturn, 1) := by decide +kernel
theorem dMO_isAccount_0 : decode bMO_isAccount 0 = .ok (.iload_n 1, 1) := by decide +kernel
theorem dMO_isAccount_1 : decode bMO_isAccount 1 = .ok (.ifCond .lt 19, 3) := by decide +kernel
theorem dMO_isAccount_4 : decode bMO_isAccount 4 = .ok (.iload_n 1, 1) := by decide +kernel
theorem dMO_isAccount_5 : decode bMO_isAccount 5 = .ok (.i2l, 1) := by decide +kernel
theorem dMO_isAccount_6 : decode bMO_isAccount 6 = .ok (.aload_n 0, 1) := by decide +kernel
theorem dMO_isAccount_7 : decode bMO_isAccount 7 = .ok (.getfield 7, 3) := by decide +kernel
theorem dMO_isAccount_10 : decode bMO_isAccount 10 = .ok (.iconst 0, 1) := by decide +kernel
theorem dMO_isAccount_11 : decode bMO_isAccount 11 = .ok (.laload, 1) := by decide +kernel
theorem dMO_isAccount_12 : decode bMO_isAccount 12 = .ok (.lcmp, 1) := by decide +kernel
theorem dMO_isAccount_13 : decode bMO_isAccount 13 = .ok (.ifCond .ge 7, 3) := by decide +kernel
theorem dMO_isAccount_16 : decode bMO_isAccount 16 = .ok (.iconst 1, 1) := by decide +kernel
theorem dMO_isAccount_17 : decode bMO_isAccount 17 = .ok (.goto 4, 3) := by decide +kernel
theorem dMO_isAccount_20 : decode bMO_isAccount 20 = .ok (.iconst 0, 1) := by decide +kernel
theorem dMO_isAccount_21 : decode bMO_isAccount 21 = .ok (.ireturn, 1) := by decide +kernel
theorem dMO_isBefore_0 : decode bMO_isBefore 0 = .ok (.aload_n 0, 1) := by decide +kernel
theorem dMO_isBefore_1 : decode bMO_isBefore 1 = .ok (.getfield 7, 3) := by decide +kernel
theorem dMO_isBefore_4 : decode bMO_isBefore 4 = .ok (.bipush 100, 2) := by decide +kernel
theorem dMO_isBefore_6 : decode bMO_isBefore 6 = .ok (.iload_n 1, 1) := by decide +kernel
theorem dMO_isBefore_7 : decode bMO_isBefore 7 = .ok (.bipush 6, 2) := by decide +kernel
theorem dMO_isBefore_9 : decode bMO_isBefore 9 = .ok (.idiv, 1) := by decide +kernel
theorem dMO_isBefore_10 : decode bMO_isBefore 10 = .ok (.iadd, 1) := by decide +kernel
theorem dMO_isBefore_11 : decode bMO_isBefore 11 = .ok (.laload, 1) := by decide +kernel
theorem dMO_isBefore_12 : decode bMO_isBefore 12 = .ok (.lstore_n 3, 1) := by decide +kernel
theorem dMO_isBefore_13 : decode bMO_isBefore 13 = .ok (.aload_n 0, 1) := by decide +kernel
theorem dMO_isBefore_14 : decode bMO_isBefore 14 = .ok (.getfield 7, 3) := by decide +kernel
theorem dMO_isBefore_17 : decode bMO_isBefore 17 = .ok (.bipush 100, 2) := by decide +kernel
theorem dMO_isBefore_19 : decode bMO_isBefore 19 = .ok (.iload_n 2, 1) := by decide +kernel
theorem dMO_isBefore_20 : decode bMO_isBefore 20 = .ok (.bipush 6, 2) := by decide +kernel
theorem dMO_isBefore_22 : decode bMO_isBefore 22 = .ok (.idiv, 1) := by decide +kernel
theorem dMO_isBefore_23 : decode bMO_isBefore 23 = .ok (.iadd, 1) := by decide +kernel
theorem dMO_isBefore_24 : decode bMO_isBefore 24 = .ok (.laload, 1) := by decide +kernel
theorem dMO_isBefore_25 : decode bMO_isBefore 25 = .ok (.lstore 5, 2) := by decide +kernel
theorem dMO_isBefore_27 : decode bMO_isBefore 27 = .ok (.lload_n 3, 1) := by decide +kernel
theorem dMO_isBefore_28 : decode bMO_isBefore 28 = .ok (.lload 5, 2) := by decide +kernel
theorem dMO_isBefore_30 : decode bMO_isBefore 30 = .ok (.lcmp, 1) := by decide +kernel
theorem dMO_isBefore_31 : decode bMO_isBefore 31 = .ok (.ifCond .eq 18, 3) := by decide +kernel
theorem dMO_isBefore_34 : decode bMO_isBefore 34 = .ok (.lload_n 3, 1) := by decide +kernel
theorem dMO_isBefore_35 : decode bMO_isBefore 35 = .ok (.lload 5, 2) := by decide +kernel
theorem dMO_isBefore_37 : decode bMO_isBefore 37 = .ok (.lcmp, 1) := by decide +kernel
theorem dMO_isBefore_38 : decode bMO_isBefore 38 = .ok (.ifCond .ge 7, 3) := by decide +kernel
theorem dMO_isBefore_41 : decode bMO_isBefore 41 = .ok (.iconst 1, 1) := by decide +kernel
theorem dMO_isBefore_42 : decode bMO_isBefore 42 = .ok (.goto 17, 3) := by decide +kernel
theorem dMO_isBefore_45 : decode bMO_isBefore 45 = .ok (.iconst 0, 1) := by decide +kernel
theorem dMO_isBefore_46 : decode bMO_isBefore 46 = .ok (.goto 13, 3) := by decide +kernel
theorem dMO_isBefore_49 : decode bMO_isBefore 49 = .ok (.iload_n 1, 1) := by decide +kernel
theorem dMO_isBefore_50 : decode bMO_isBefore 50 = .ok (.iload_n 2, 1) := by decide +kernel
theorem dMO_isBefore_51 : decode bMO_isBefore 51 = .ok (.if_icmp .ge 7, 3) := by decide +kernel
theorem dMO_isBefore_54 : decode bMO_isBefore 54 = .ok (.iconst 1, 1) := by decide +kernel
theorem dMO_isBefore_55 : decode bMO_isBefore 55 = .ok (.goto 4, 3) := by decide +kernel
theorem dMO_isBefore_58 : decode bMO_isBefore 58 = .ok (.iconst 0, 1) := by decide +kernel
theorem dMO_isBefore_59 : decode bMO_isBefore 59 = .ok (.ireturn, 1) := by decide +kernel
theorem dMO_isDay_0 : decode bMO_isDay 0 = .ok (.lload_n 0, 1) := by decide +kernel
theorem dMO_isDay_1 : decode bMO_isDay 1 = .ok (.lconst 0, 1) := by decide +kernel
theorem dMO_isDay_2 : decode bMO_isDay 2 = .ok (.ldc2_w 24, 3) := by decide +kernel
theorem dMO_isDay_5 : decode bMO_isDay 5 = .ok (.invokestatic 26, 3) := by decide +kernel
theorem dMO_isDay_8 : decode bMO_isDay 8 = .ok (.ireturn, 1) := by decide +kernel
theorem dMO_isEntry_0 : decode bMO_isEntry 0 = .ok (.iload_n 1, 1) := by decide +kernel
theorem dMO_isEntry_1 : decode bMO_isEntry 1 = .ok (.ifCond .lt 19, 3) := by decide +kernel
theorem dMO_isEntry_4 : decode bMO_isEntry 4 = .ok (.iload_n 1, 1) := by decide +kernel
theorem dMO_isEntry_5 : decode bMO_isEntry 5 = .ok (.i2l, 1) := by decide +kernel
theorem dMO_isEntry_6 : decode bMO_isEntry 6 = .ok (.aload_n 0, 1) := by decide +kernel
theorem dMO_isEntry_7 : decode bMO_isEntry 7 = .ok (.getfield 7, 3) := by decide +kernel
theorem dMO_isEntry_10 : decode bMO_isEntry 10 = .ok (.iconst 1, 1) := by decide +kernel
theorem dMO_isEntry_11 : decode bMO_isEntry 11 = .ok (.laload, 1) := by decide +kernel
theorem dMO_isEntry_12 : decode bMO_isEntry 12 = .ok (.lcmp, 1) := by decide +kernel
theorem dMO_isEntry_13 : decode bMO_isEntry 13 = .ok (.ifCond .ge 7, 3) := by decide +kernel
theorem dMO_isEntry_16 : decode bMO_isEntry 16 = .ok (.iconst 1, 1) := by decide +kernel
theorem dMO_isEntry_17 : decode bMO_isEntry 17 = .ok (.goto 4, 3) := by decide +kernel
theorem dMO_isEntry_20 : decode bMO_isEntry 20 = .ok (.iconst 0, 1) := by decide +kernel
theorem dMO_isEntry_21 : decode bMO_isEntry 21 = .ok (.ireturn, 1) := by decide +kernel
theorem dMO_isHousehold_0 : decode bMO_isHousehold 0 = .ok (.aload_n 0, 1) := by decide +kernel
theorem dMO_isHousehold_1 : decode bMO_isHousehold 1 = .ok (.iload_n 1, 1) := by decide +kernel
theorem dMO_isHousehold_2 : decode bMO_isHousehold 2 = .ok (.invokevirtual 20, 3) := by decide +kernel
theorem dMO_isHousehold_5 : decode bMO_isHousehold 5 = .ok (.ifCond .eq 21, 3) := by decide +kernel
theorem dMO_isHousehold_8 : decode bMO_isHousehold 8 = .ok (.aload_n 0, 1) := by decide +kernel
theorem dMO_isHousehold_9 : decode bMO_isHousehold 9 = .ok (.getfield 7, 3) := by decide +kernel
theorem dMO_isHousehold_12 : decode bMO_isHousehold 12 = .ok (.bipush 10, 2) := by decide +kernel
theorem dMO_isHousehold_14 : decode bMO_isHousehold 14 = .ok (.iload_n 1, 1) := by decide +kernel
theorem dMO_isHousehold_15 : decode bMO_isHousehold 15 = .ok (.iadd, 1) := by decide +kernel
theorem dMO_isHousehold_16 : decode bMO_isHousehold 16 = .ok (.laload, 1) := by decide +kernel
theorem dMO_isHousehold_17 : decode bMO_isHousehold 17 = .ok (.lconst 1, 1) := by decide +kernel
theorem dMO_isHousehold_18 : decode bMO_isHousehold 18 = .ok (.lcmp, 1) := by decide +kernel
theorem dMO_isHousehold_19 : decode bMO_isHousehold 19 = .ok (.ifCond .ne 7, 3) := by decide +kernel
theorem dMO_isHousehold_22 : decode bMO_isHousehold 22 = .ok (.iconst 1, 1) := by decide +kernel
theorem dMO_isHousehold_23 : decode bMO_isHousehold 23 = .ok (.goto 4, 3) := by decide +kernel
theorem dMO_isHousehold_26 : decode bMO_isHousehold 26 = .ok (.iconst 0, 1) := by decide +kernel
theorem dMO_isHousehold_27 : decode bMO_isHousehold 27 = .ok (.ireturn, 1) := by decide +kernel
theorem dMO_isIn_0 : decode bMO_isIn 0 = .ok (.lload_n 0, 1) := by decide +kernel
theorem dMO_isIn_1 : decode bMO_isIn 1 = .ok (.lload_n 2, 1) := by decide +kernel
theorem dMO_isIn_2 : decode bMO_isIn 2 = .ok (.lcmp, 1) := by decide +kernel
theorem dMO_isIn_3 : decode bMO_isIn 3 = .ok (.ifCond .lt 14, 3) := by decide +kernel
theorem dMO_isIn_6 : decode bMO_isIn 6 = .ok (.lload_n 0, 1) := by decide +kernel
theorem dMO_isIn_7 : decode bMO_isIn 7 = .ok (.lload 4, 2) := by decide +kernel
theorem dMO_isIn_9 : decode bMO_isIn 9 = .ok (.lcmp, 1) := by decide +kernel
theorem dMO_isIn_10 : decode bMO_isIn 10 = .ok (.ifCond .gt 7, 3) := by decide +kernel
theorem dMO_isIn_13 : decode bMO_isIn 13 = .ok (.iconst 1, 1) := by decide +kernel
theorem dMO_isIn_14 : decode bMO_isIn 14 = .ok (.goto 4, 3) := by decide +kernel
theorem dMO_isIn_17 : decode bMO_isIn 17 = .ok (.iconst 0, 1) := by decide +kernel
theorem dMO_isIn_18 : decode bMO_isIn 18 = .ok (.ireturn, 1) := by decide +kernel
theorem dMO_isItem_0 : decode bMO_isItem 0 = .ok (.bipush 6, 2) := by decide +kernel
theorem dMO_isItem_2 : decode bMO_isItem 2 = .ok (.iload_n 1, 1) := by decide +kernel
theorem dMO_isItem_3 : decode bMO_isItem 3 = .ok (.imul, 1) := by decide +kernel
theorem dMO_isItem_4 : decode bMO_isItem 4 = .ok (.iload_n 2, 1) := by decide +kernel
theorem dMO_isItem_5 : decode bMO_isItem 5 = .ok (.iadd, 1) := by decide +kernel
theorem dMO_isItem_6 : decode bMO_isItem 6 = .ok (.istore_n 3, 1) := by decide +kernel
theorem dMO_isItem_7 : decode bMO_isItem 7 = .ok (.iload_n 2, 1) := by decide +kernel
theorem dMO_isItem_8 : decode bMO_isItem 8 = .ok (.i2l, 1) := by decide +kernel
theorem dMO_isItem_9 : decode bMO_isItem 9 = .ok (.aload_n 0, 1) := by decide +kernel
theorem dMO_isItem_10 : decode bMO_isItem 10 = .ok (.getfield 7, 3) := by decide +kernel
theorem dMO_isItem_13 : decode bMO_isItem 13 = .ok (.sipush 260, 3) := by decide +kernel
theorem dMO_isItem_16 : decode bMO_isItem 16 = .ok (.iload_n 1, 1) := by decide +kernel
theorem dMO_isItem_17 : decode bMO_isItem 17 = .ok (.iadd, 1) := by decide +kernel
theorem dMO_isItem_18 : decode bMO_isItem 18 = .ok (.laload, 1) := by decide +kernel
theorem dMO_isItem_19 : decode bMO_isItem 19 = .ok (.lcmp, 1) := by decide +kernel
theorem dMO_isItem_20 : decode bMO_isItem 20 = .ok (.ifCond .ge 76, 3) := by decide +kernel
theorem dMO_isItem_23 : decode bMO_isItem 23 = .ok (.aload_n 0, 1) := by decide +kernel
theorem dMO_isItem_24 : decode bMO_isItem 24 = .ok (.getfield 7, 3) := by decide +kernel
theorem dMO_isItem_27 : decode bMO_isItem 27 = .ok (.sipush 140, 3) := by decide +kernel
theorem dMO_isItem_30 : decode bMO_isItem 30 = .ok (.iload_n 1, 1) := by decide +kernel
theorem dMO_isItem_31 : decode bMO_isItem 31 = .ok (.iadd, 1) := by decide +kernel
theorem dMO_isItem_32 : decode bMO_isItem 32 = .ok (.laload, 1) := by decide +kernel
theorem dMO_isItem_33 : decode bMO_isItem 33 = .ok (.lconst 0, 1) := by decide +kernel
theorem dMO_isItem_34 : decode bMO_isItem 34 = .ok (.lcmp, 1) := by decide +kernel
theorem dMO_isItem_35 : decode bMO_isItem 35 = .ok (.ifCond .le 61, 3) := by decide +kernel
theorem dMO_isItem_38 : decode bMO_isItem 38 = .ok (.aload_n 0, 1) := by decide +kernel
theorem dMO_isItem_39 : decode bMO_isItem 39 = .ok (.getfield 7, 3) := by decide +kernel
theorem dMO_isItem_42 : decode bMO_isItem 42 = .ok (.sipush 180, 3) := by decide +kernel
theorem dMO_isItem_45 : decode bMO_isItem 45 = .ok (.iload_n 1, 1) := by decide +kernel
theorem dMO_isItem_46 : decode bMO_isItem 46 = .ok (.iadd, 1) := by decide +kernel
theorem dMO_isItem_47 : decode bMO_isItem 47 = .ok (.laload, 1) := by decide +kernel
theorem dMO_isItem_48 : decode bMO_isItem 48 = .ok (.lconst 0, 1) := by decide +kernel
theorem dMO_isItem_49 : decode bMO_isItem 49 = .ok (.lcmp, 1) := by decide +kernel
theorem dMO_isItem_50 : decode bMO_isItem 50 = .ok (.ifCond .ne 46, 3) := by decide +kernel
theorem dMO_isItem_53 : decode bMO_isItem 53 = .ok (.aload_n 0, 1) := by decide +kernel
theorem dMO_isItem_54 : decode bMO_isItem 54 = .ok (.getfield 7, 3) := by decide +kernel
theorem dMO_isItem_57 : decode bMO_isItem 57 = .ok (.sipush 540, 3) := by decide +kernel
theorem dMO_isItem_60 : decode bMO_isItem 60 = .ok (.iload_n 3, 1) := by decide +kernel
theorem dMO_isItem_61 : decode bMO_isItem 61 = .ok (.iadd, 1) := by decide +kernel
theorem dMO_isItem_62 : decode bMO_isItem 62 = .ok (.laload, 1) := by decide +kernel
theorem dMO_isItem_63 : decode bMO_isItem 63 = .ok (.lconst 0, 1) := by decide +kernel
theorem dMO_isItem_64 : decode bMO_isItem 64 = .ok (.lcmp, 1) := by decide +kernel
theorem dMO_isItem_65 : decode bMO_isItem 65 = .ok (.ifCond .le 31, 3) := by decide +kernel
theorem dMO_isItem_68 : decode bMO_isItem 68 = .ok (.aload_n 0, 1) := by decide +kernel
theorem dMO_isItem_69 : decode bMO_isItem 69 = .ok (.getfield 7, 3) := by decide +kernel
theorem dMO_isItem_72 : decode bMO_isItem 72 = .ok (.bipush 10, 2) := by decide +kernel
theorem dMO_isItem_74 : decode bMO_isItem 74 = .ok (.aload_n 0, 1) := by decide +kernel
theorem dMO_isItem_75 : decode bMO_isItem 75 = .ok (.getfield 7, 3) := by decide +kernel
theorem dMO_isItem_78 : decode bMO_isItem 78 = .ok (.sipush 300, 3) := by decide +kernel
theorem dMO_isItem_81 : decode bMO_isItem 81 = .ok (.iload_n 3, 1) := by decide +kernel
theorem dMO_isItem_82 : decode bMO_isItem 82 = .ok (.iadd, 1) := by decide +kernel
theorem dMO_isItem_83 : decode bMO_isItem 83 = .ok (.laload, 1) := by decide +kernel
theorem dMO_isItem_84 : decode bMO_isItem 84 = .ok (.l2i, 1) := by decide +kernel
theorem dMO_isItem_85 : decode bMO_isItem 85 = .ok (.iadd, 1) := by decide +kernel
theorem dMO_isItem_86 : decode bMO_isItem 86 = .ok (.laload, 1) := by decide +kernel
theorem dMO_isItem_87 : decode bMO_isItem 87 = .ok (.lconst 1, 1) := by decide +kernel
theorem dMO_isItem_88 : decode bMO_isItem 88 = .ok (.lcmp, 1) := by decide +kernel
theorem dMO_isItem_89 : decode bMO_isItem 89 = .ok (.ifCond .ne 7, 3) := by decide +kernel
theorem dMO_isItem_92 : decode bMO_isItem 92 = .ok (.iconst 1, 1) := by decide +kernel
theorem dMO_isItem_93 : decode bMO_isItem 93 = .ok (.goto 4, 3) := by decide +kernel
theorem dMO_isItem_96 : decode bMO_isItem 96 = .ok (.iconst 0, 1) := by decide +kernel
theorem dMO_isItem_97 : decode bMO_isItem 97 = .ok (.ireturn, 1) := by decide +kernel

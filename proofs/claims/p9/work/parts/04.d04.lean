theorem dJO_toldRow_30 : decode bJO_toldRow 30 = .ok (.ifCond .eq 18, 3) := by decide +kernel
theorem dJO_toldRow_33 : decode bJO_toldRow 33 = .ok (.iload 4, 2) := by decide +kernel
theorem dJO_toldRow_35 : decode bJO_toldRow 35 = .ok (.iload_n 3, 1) := by decide +kernel
theorem dJO_toldRow_36 : decode bJO_toldRow 36 = .ok (.if_icmp .ne 9, 3) := by decide +kernel
theorem dJO_toldRow_39 : decode bJO_toldRow 39 = .ok (.iload 6, 2) := by decide +kernel
theorem dJO_toldRow_41 : decode bJO_toldRow 41 = .ok (.invokestatic 69, 3) := by decide +kernel
theorem dJO_toldRow_44 : decode bJO_toldRow 44 = .ok (.ireturn, 1) := by decide +kernel
theorem dJO_toldRow_45 : decode bJO_toldRow 45 = .ok (.iinc 4 1, 3) := by decide +kernel
theorem dJO_toldRow_48 : decode bJO_toldRow 48 = .ok (.iinc 6 1, 3) := by decide +kernel
theorem dJO_toldRow_51 : decode bJO_toldRow 51 = .ok (.goto (-36), 3) := by decide +kernel
theorem dJO_toldRow_54 : decode bJO_toldRow 54 = .ok (.iconst (-1), 1) := by decide +kernel
theorem dJO_toldRow_55 : decode bJO_toldRow 55 = .ok (.ireturn, 1) := by decide +kernel
theorem dJO_turnRows_0 : decode bJO_turnRows 0 = .ok (.iload_n 1, 1) := by decide +kernel
theorem dJO_turnRows_1 : decode bJO_turnRows 1 = .ok (.bipush 6, 2) := by decide +kernel
theorem dJO_turnRows_3 : decode bJO_turnRows 3 = .ok (.imul, 1) := by decide +kernel
theorem dJO_turnRows_4 : decode bJO_turnRows 4 = .ok (.istore_n 3, 1) := by decide +kernel
theorem dJO_turnRows_5 : decode bJO_turnRows 5 = .ok (.iload_n 3, 1) := by decide +kernel
theorem dJO_turnRows_6 : decode bJO_turnRows 6 = .ok (.aload_n 0, 1) := by decide +kernel
theorem dJO_turnRows_7 : decode bJO_turnRows 7 = .ok (.getfield 22, 3) := by decide +kernel
theorem dJO_turnRows_10 : decode bJO_turnRows 10 = .ok (.iload_n 1, 1) := by decide +kernel
theorem dJO_turnRows_11 : decode bJO_turnRows 11 = .ok (.iaload, 1) := by decide +kernel
theorem dJO_turnRows_12 : decode bJO_turnRows 12 = .ok (.iadd, 1) := by decide +kernel
theorem dJO_turnRows_13 : decode bJO_turnRows 13 = .ok (.istore 4, 2) := by decide +kernel
theorem dJO_turnRows_15 : decode bJO_turnRows 15 = .ok (.iload_n 3, 1) := by decide +kernel
theorem dJO_turnRows_16 : decode bJO_turnRows 16 = .ok (.istore 5, 2) := by decide +kernel
theorem dJO_turnRows_18 : decode bJO_turnRows 18 = .ok (.iload 5, 2) := by decide +kernel
theorem dJO_turnRows_20 : decode bJO_turnRows 20 = .ok (.iload 4, 2) := by decide +kernel
theorem dJO_turnRows_22 : decode bJO_turnRows 22 = .ok (.if_icmp .ge 30, 3) := by decide +kernel
theorem dJO_turnRows_25 : decode bJO_turnRows 25 = .ok (.aload_n 0, 1) := by decide +kernel
theorem dJO_turnRows_26 : decode bJO_turnRows 26 = .ok (.iload_n 2, 1) := by decide +kernel
theorem dJO_turnRows_27 : decode bJO_turnRows 27 = .ok (.aload_n 0, 1) := by decide +kernel
theorem dJO_turnRows_28 : decode bJO_turnRows 28 = .ok (.getfield 28, 3) := by decide +kernel
theorem dJO_turnRows_31 : decode bJO_turnRows 31 = .ok (.iload 5, 2) := by decide +kernel
theorem dJO_turnRows_33 : decode bJO_turnRows 33 = .ok (.iaload, 1) := by decide +kernel
theorem dJO_turnRows_34 : decode bJO_turnRows 34 = .ok (.aload_n 0, 1) := by decide +kernel
theorem dJO_turnRows_35 : decode bJO_turnRows 35 = .ok (.getfield 31, 3) := by decide +kernel
theorem dJO_turnRows_38 : decode bJO_turnRows 38 = .ok (.iload 5, 2) := by decide +kernel
theorem dJO_turnRows_40 : decode bJO_turnRows 40 = .ok (.laload, 1) := by decide +kernel
theorem dJO_turnRows_41 : decode bJO_turnRows 41 = .ok (.lneg, 1) := by decide +kernel
theorem dJO_turnRows_42 : decode bJO_turnRows 42 = .ok (.invokevirtual 93, 3) := by decide +kernel
theorem dJO_turnRows_45 : decode bJO_turnRows 45 = .ok (.pop, 1) := by decide +kernel
theorem dJO_turnRows_46 : decode bJO_turnRows 46 = .ok (.iinc 5 1, 3) := by decide +kernel
theorem dJO_turnRows_49 : decode bJO_turnRows 49 = .ok (.goto (-31), 3) := by decide +kernel
theorem dJO_turnRows_52 : decode bJO_turnRows 52 = .ok (.return_, 1) := by decide +kernel
theorem dMO_init_0 : decode bMO_init 0 = .ok (.aload_n 0, 1) := by decide +kernel
theorem dMO_init_1 : decode bMO_init 1 = .ok (.invokespecial 1, 3) := by decide +kernel
theorem dMO_init_4 : decode bMO_init 4 = .ok (.aload_n 0, 1) := by decide +kernel
theorem dMO_init_5 : decode bMO_init 5 = .ok (.sipush 1220, 3) := by decide +kernel
theorem dMO_init_8 : decode bMO_init 8 = .ok (.newarray .long, 2) := by decide +kernel
theorem dMO_init_10 : decode bMO_init 10 = .ok (.putfield 7, 3) := by decide +kernel
theorem dMO_init_13 : decode bMO_init 13 = .ok (.aload_n 0, 1) := by decide +kernel
theorem dMO_init_14 : decode bMO_init 14 = .ok (.sipush 1220, 3) := by decide +kernel
theorem dMO_init_17 : decode bMO_init 17 = .ok (.newarray .long, 2) := by decide +kernel
theorem dMO_init_19 : decode bMO_init 19 = .ok (.putfield 13, 3) := by decide +kernel
theorem dMO_init_22 : decode bMO_init 22 = .ok (.aload_n 0, 1) := by decide +kernel
theorem dMO_init_23 : decode bMO_init 23 = .ok (.getfield 7, 3) := by decide +kernel
theorem dMO_init_26 : decode bMO_init 26 = .ok (.bipush 6, 2) := by decide +kernel
theorem dMO_init_28 : decode bMO_init 28 = .ok (.lconst 1, 1) := by decide +kernel
theorem dMO_init_29 : decode bMO_init 29 = .ok (.lastore, 1) := by decide +kernel
theorem dMO_init_30 : decode bMO_init 30 = .ok (.return_, 1) := by decide +kernel
theorem dMO_account_0 : decode bMO_account 0 = .ok (.aload_n 0, 1) := by decide +kernel
theorem dMO_account_1 : decode bMO_account 1 = .ok (.iconst 0, 1) := by decide +kernel
theorem dMO_account_2 : decode bMO_account 2 = .ok (.putfield 16, 3) := by decide +kernel
theorem dMO_account_5 : decode bMO_account 5 = .ok (.aload_n 0, 1) := by decide +kernel
theorem dMO_account_6 : decode bMO_account 6 = .ok (.getfield 7, 3) := by decide +kernel
theorem dMO_account_9 : decode bMO_account 9 = .ok (.iconst 0, 1) := by decide +kernel
theorem dMO_account_10 : decode bMO_account 10 = .ok (.laload, 1) := by decide +kernel
theorem dMO_account_11 : decode bMO_account 11 = .ok (.ldc2_w 32, 3) := by decide +kernel
theorem dMO_account_14 : decode bMO_account 14 = .ok (.lcmp, 1) := by decide +kernel
theorem dMO_account_15 : decode bMO_account 15 = .ok (.ifCond .eq 12, 3) := by decide +kernel
theorem dMO_account_18 : decode bMO_account 18 = .ok (.iload_n 1, 1) := by decide +kernel
theorem dMO_account_19 : decode bMO_account 19 = .ok (.ifCond .lt 8, 3) := by decide +kernel
theorem dMO_account_22 : decode bMO_account 22 = .ok (.iload_n 1, 1) := by decide +kernel
theorem dMO_account_23 : decode bMO_account 23 = .ok (.iconst 2, 1) := by decide +kernel
theorem dMO_account_24 : decode bMO_account 24 = .ok (.if_icmp .le 5, 3) := by decide +kernel
theorem dMO_account_27 : decode bMO_account 27 = .ok (.iconst (-1), 1) := by decide +kernel
theorem dMO_account_28 : decode bMO_account 28 = .ok (.ireturn, 1) := by decide +kernel
theorem dMO_account_29 : decode bMO_account 29 = .ok (.aload_n 0, 1) := by decide +kernel
theorem dMO_account_30 : decode bMO_account 30 = .ok (.getfield 7, 3) := by decide +kernel
theorem dMO_account_33 : decode bMO_account 33 = .ok (.bipush 10, 2) := by decide +kernel
theorem dMO_account_35 : decode bMO_account 35 = .ok (.aload_n 0, 1) := by decide +kernel
theorem dMO_account_36 : decode bMO_account 36 = .ok (.getfield 7, 3) := by decide +kernel
theorem dMO_account_39 : decode bMO_account 39 = .ok (.iconst 0, 1) := by decide +kernel
theorem dMO_account_40 : decode bMO_account 40 = .ok (.laload, 1) := by decide +kernel
theorem dMO_account_41 : decode bMO_account 41 = .ok (.l2i, 1) := by decide +kernel
theorem dMO_account_42 : decode bMO_account 42 = .ok (.iadd, 1) := by decide +kernel
theorem dMO_account_43 : decode bMO_account 43 = .ok (.iload_n 1, 1) := by decide +kernel
theorem dMO_account_44 : decode bMO_account 44 = .ok (.i2l, 1) := by decide +kernel
theorem dMO_account_45 : decode bMO_account 45 = .ok (.lastore, 1) := by decide +kernel
theorem dMO_account_46 : decode bMO_account 46 = .ok (.aload_n 0, 1) := by decide +kernel
theorem dMO_account_47 : decode bMO_account 47 = .ok (.getfield 7, 3) := by decide +kernel
theorem dMO_account_50 : decode bMO_account 50 = .ok (.iconst 0, 1) := by decide +kernel
theorem dMO_account_51 : decode bMO_account 51 = .ok (.dup2, 1) := by decide +kernel
theorem dMO_account_52 : decode bMO_account 52 = .ok (.laload, 1) := by decide +kernel
theorem dMO_account_53 : decode bMO_account 53 = .ok (.lconst 1, 1) := by decide +kernel
theorem dMO_account_54 : decode bMO_account 54 = .ok (.ladd, 1) := by decide +kernel
theorem dMO_account_55 : decode bMO_account 55 = .ok (.lastore, 1) := by decide +kernel
theorem dMO_account_56 : decode bMO_account 56 = .ok (.aload_n 0, 1) := by decide +kernel
theorem dMO_account_57 : decode bMO_account 57 = .ok (.getfield 7, 3) := by decide +kernel
theorem dMO_account_60 : decode bMO_account 60 = .ok (.iconst 0, 1) := by decide +kernel
theorem dMO_account_61 : decode bMO_account 61 = .ok (.laload, 1) := by decide +kernel
theorem dMO_account_62 : decode bMO_account 62 = .ok (.l2i, 1) := by decide +kernel
theorem dMO_account_63 : decode bMO_account 63 = .ok (.iconst 1, 1) := by decide +kernel
theorem dMO_account_64 : decode bMO_account 64 = .ok (.isub, 1) := by decide +kernel
theorem dMO_account_65 : decode bMO_account 65 = .ok (.ireturn, 1) := by decide +kernel
theorem dMO_addEntry_0 : decode bMO_addEntry 0 = .ok (.aload_n 0, 1) := by decide +kernel
theorem dMO_addEntry_1 : decode bMO_addEntry 1 = .ok (.getfield 7, 3) := by decide +kernel
theorem dMO_addEntry_4 : decode bMO_addEntry 4 = .ok (.iconst 1, 1) := by decide +kernel
theorem dMO_addEntry_5 : decode bMO_addEntry 5 = .ok (.laload, 1) := by decide +kernel
theorem dMO_addEntry_6 : decode bMO_addEntry 6 = .ok (.l2i, 1) := by decide +kernel
theorem dMO_addEntry_7 : decode bMO_addEntry 7 = .ok (.istore 4, 2) := by decide +kernel
theorem dMO_addEntry_9 : decode bMO_addEntry 9 = .ok (.aload_n 0, 1) := by decide +kernel
theorem dMO_addEntry_10 : decode bMO_addEntry 10 = .ok (.getfield 7, 3) := by decide +kernel
theorem dMO_addEntry_13 : decode bMO_addEntry 13 = .ok (.bipush 100, 2) := by decide +kernel
theorem dMO_addEntry_15 : decode bMO_addEntry 15 = .ok (.iload 4, 2) := by decide +kernel
theorem dMO_addEntry_17 : decode bMO_addEntry 17 = .ok (.iadd, 1) := by decide +kernel
theorem dMO_addEntry_18 : decode bMO_addEntry 18 = .ok (.lload_n 1, 1) := by decide +kernel
theorem dMO_addEntry_19 : decode bMO_addEntry 19 = .ok (.lastore, 1) := by decide +kernel
theorem dMO_addEntry_20 : decode bMO_addEntry 20 = .ok (.aload_n 0, 1) := by decide +kernel
theorem dMO_addEntry_21 : decode bMO_addEntry 21 = .ok (.getfield 7, 3) := by decide +kernel
theorem dMO_addEntry_24 : decode bMO_addEntry 24 = .ok (.sipush 180, 3) := by decide +kernel
theorem dMO_addEntry_27 : decode bMO_addEntry 27 = .ok (.iload 4, 2) := by decide +kernel
theorem dMO_addEntry_29 : decode bMO_addEntry 29 = .ok (.iadd, 1) := by decide +kernel
theorem dMO_addEntry_30 : decode bMO_addEntry 30 = .ok (.iload_n 3, 1) := by decide +kernel
theorem dMO_addEntry_31 : decode bMO_addEntry 31 = .ok (.i2l, 1) := by decide +kernel
theorem dMO_addEntry_32 : decode bMO_addEntry 32 = .ok (.lastore, 1) := by decide +kernel
theorem dMO_addEntry_33 : decode bMO_addEntry 33 = .ok (.aload_n 0, 1) := by decide +kernel
theorem dMO_addEntry_34 : decode bMO_addEntry 34 = .ok (.getfield 7, 3) := by decide +kernel
theorem dMO_addEntry_37 : decode bMO_addEntry 37 = .ok (.iconst 1, 1) := by decide +kernel
theorem dMO_addEntry_38 : decode bMO_addEntry 38 = .ok (.dup2, 1) := by decide +kernel
theorem dMO_addEntry_39 : decode bMO_addEntry 39 = .ok (.laload, 1) := by decide +kernel
theorem dMO_addEntry_40 : decode bMO_addEntry 40 = .ok (.lconst 1, 1) := by decide +kernel
theorem dMO_addEntry_41 : decode bMO_addEntry 41 = .ok (.ladd, 1) := by decide +kernel
theorem dMO_addEntry_42 : decode bMO_addEntry 42 = .ok (.lastore, 1) := by decide +kernel
theorem dMO_addEntry_43 : decode bMO_addEntry 43 = .ok (.iload 4, 2) := by decide +kernel
theorem dMO_addEntry_45 : decode bMO_addEntry 45 = .ok (.ireturn, 1) := by decide +kernel
theorem dMO_addRow_0 : decode bMO_addRow 0 = .ok (.bipush 6, 2) := by decide +kernel
theorem dMO_addRow_2 : decode bMO_addRow 2 = .ok (.iload_n 1, 1) := by decide +kernel
theorem dMO_addRow_3 : decode bMO_addRow 3 = .ok (.imul, 1) := by decide +kernel
theorem dMO_addRow_4 : decode bMO_addRow 4 = .ok (.aload_n 0, 1) := by decide +kernel
theorem dMO_addRow_5 : decode bMO_addRow 5 = .ok (.getfield 7, 3) := by decide +kernel
theorem dMO_addRow_8 : decode bMO_addRow 8 = .ok (.sipush 260, 3) := by decide +kernel
theorem dMO_addRow_11 : decode bMO_addRow 11 = .ok (.iload_n 1, 1) := by decide +kernel
theorem dMO_addRow_12 : decode bMO_addRow 12 = .ok (.iadd, 1) := by decide +kernel
theorem dMO_addRow_13 : decode bMO_addRow 13 = .ok (.laload, 1) := by decide +kernel
theorem dMO_addRow_14 : decode bMO_addRow 14 = .ok (.l2i, 1) := by decide +kernel
theorem dMO_addRow_15 : decode bMO_addRow 15 = .ok (.iadd, 1) := by decide +kernel
theorem dMO_addRow_16 : decode bMO_addRow 16 = .ok (.istore 5, 2) := by decide +kernel
theorem dMO_addRow_18 : decode bMO_addRow 18 = .ok (.aload_n 0, 1) := by decide +kernel
theorem dMO_addRow_19 : decode bMO_addRow 19 = .ok (.getfield 7, 3) := by decide +kernel
theorem dMO_addRow_22 : decode bMO_addRow 22 = .ok (.sipush 300, 3) := by decide +kernel
theorem dMO_addRow_25 : decode bMO_addRow 25 = .ok (.iload 5, 2) := by decide +kernel
theorem dMO_addRow_27 : decode bMO_addRow 27 = .ok (.iadd, 1) := by decide +kernel
theorem dMO_addRow_28 : decode bMO_addRow 28 = .ok (.iload_n 2, 1) := by decide +kernel
theorem dMO_addRow_29 : decode bMO_addRow 29 = .ok (.i2l, 1) := by decide +kernel
theorem dMO_addRow_30 : decode bMO_addRow 30 = .ok (.lastore, 1) := by decide +kernel
theorem dMO_addRow_31 : decode bMO_addRow 31 = .ok (.aload_n 0, 1) := by decide +kernel
theorem dMO_addRow_32 : decode bMO_addRow 32 = .ok (.getfield 7, 3) := by decide +kernel
theorem dMO_addRow_35 : decode bMO_addRow 35 = .ok (.sipush 540, 3) := by decide +kernel
theorem dMO_addRow_38 : decode bMO_addRow 38 = .ok (.iload 5, 2) := by decide +kernel
theorem dMO_addRow_40 : decode bMO_addRow 40 = .ok (.iadd, 1) := by decide +kernel
theorem dMO_addRow_41 : decode bMO_addRow 41 = .ok (.lload_n 3, 1) := by decide +kernel
theorem dMO_addRow_42 : decode bMO_addRow 42 = .ok (.lastore, 1) := by decide +kernel
theorem dMO_addRow_43 : decode bMO_addRow 43 = .ok (.aload_n 0, 1) := by decide +kernel
theorem dMO_addRow_44 : decode bMO_addRow 44 = .ok (.getfield 7, 3) := by decide +kernel
theorem dMO_addRow_47 : decode bMO_addRow 47 = .ok (.sipush 260, 3) := by decide +kernel
theorem dMO_addRow_50 : decode bMO_addRow 50 = .ok (.iload_n 1, 1) := by decide +kernel
theorem dMO_addRow_51 : decode bMO_addRow 51 = .ok (.iadd, 1) := by decide +kernel
theorem dMO_addRow_52 : decode bMO_addRow 52 = .ok (.dup2, 1) := by decide +kernel
theorem dMO_addRow_53 : decode bMO_addRow 53 = .ok (.laload, 1) := by decide +kernel
theorem dMO_addRow_54 : decode bMO_addRow 54 = .ok (.lconst 1, 1) := by decide +kernel
theorem dMO_addRow_55 : decode bMO_addRow 55 = .ok (.ladd, 1) := by decide +kernel
theorem dMO_addRow_56 : decode bMO_addRow 56 = .ok (.lastore, 1) := by decide +kernel
theorem dMO_addRow_57 : decode bMO_addRow 57 = .ok (.return_, 1) := by decide +kernel
theorem dMO_allDue_0 : decode bMO_allDue 0 = .ok (.lconst 0, 1) := by decide +kernel
theorem dMO_allDue_1 : decode bMO_allDue 1 = .ok (.lstore_n 2, 1) := by decide +kernel
theorem dMO_allDue_2 : decode bMO_allDue 2 = .ok (.iconst 0, 1) := by decide +kernel
theorem dMO_allDue_3 : decode bMO_allDue 3 = .ok (.istore 4, 2) := by decide +kernel
theorem dMO_allDue_5 : decode bMO_allDue 5 = .ok (.iload 4, 2) := by decide +kernel
theorem dMO_allDue_7 : decode bMO_allDue 7 = .ok (.sipush 240, 3) := by decide +kernel
theorem dMO_allDue_10 : decode bMO_allDue 10 = .ok (.if_icmp .ge 37, 3) := by decide +kernel
theorem dMO_allDue_13 : decode bMO_allDue 13 = .ok (.lload_n 2, 1) := by decide +kernel
theorem dMO_allDue_14 : decode bMO_allDue 14 = .ok (.aload_n 0, 1) := by decide +kernel
theorem dMO_allDue_15 : decode bMO_allDue 15 = .ok (.iload 4, 2) := by decide +kernel
theorem dMO_allDue_17 : decode bMO_allDue 17 = .ok (.iload_n 1, 1) := by decide +kernel
theorem dMO_allDue_18 : decode bMO_allDue 18 = .ok (.invokevirtual 64, 3) := by decide +kernel
theorem dMO_allDue_21 : decode bMO_allDue 21 = .ok (.ifCond .eq 17, 3) := by decide +kernel
theorem dMO_allDue_24 : decode bMO_allDue 24 = .ok (.aload_n 0, 1) := by decide +kernel
theorem dMO_allDue_25 : decode bMO_allDue 25 = .ok (.getfield 7, 3) := by decide +kernel
theorem dMO_allDue_28 : decode bMO_allDue 28 = .ok (.sipush 780, 3) := by decide +kernel
theorem dMO_allDue_31 : decode bMO_allDue 31 = .ok (.iload 4, 2) := by decide +kernel
theorem dMO_allDue_33 : decode bMO_allDue 33 = .ok (.iadd, 1) := by decide +kernel
theorem dMO_allDue_34 : decode bMO_allDue 34 = .ok (.laload, 1) := by decide +kernel
theorem dMO_allDue_35 : decode bMO_allDue 35 = .ok (.goto 4, 3) := by decide +kernel
theorem dMO_allDue_38 : decode bMO_allDue 38 = .ok (.lconst 0, 1) := by decide +kernel
theorem dMO_allDue_39 : decode bMO_allDue 39 = .ok (.ladd, 1) := by decide +kernel
theorem dMO_allDue_40 : decode bMO_allDue 40 = .ok (.lstore_n 2, 1) := by decide +kernel
theorem dMO_allDue_41 : decode bMO_allDue 41 = .ok (.iinc 4 1, 3) := by decide +kernel
theorem dMO_allDue_44 : decode bMO_allDue 44 = .ok (.goto (-39), 3) := by decide +kernel
theorem dMO_allDue_47 : decode bMO_allDue 47 = .ok (.lload_n 2, 1) := by decide +kernel
theorem dMO_allDue_48 : decode bMO_allDue 48 = .ok (.lreturn, 1) := by decide +kernel
theorem dMO_balance_0 : decode bMO_balance 0 = .ok (.aload_n 0, 1) := by decide +kernel
theorem dMO_balance_1 : decode bMO_balance 1 = .ok (.iconst 0, 1) := by decide +kernel
theorem dMO_balance_2 : decode bMO_balance 2 = .ok (.putfield 16, 3) := by decide +kernel
theorem dMO_balance_5 : decode bMO_balance 5 = .ok (.lconst 0, 1) := by decide +kernel
theorem dMO_balance_6 : decode bMO_balance 6 = .ok (.lstore 4, 2) := by decide +kernel
theorem dMO_balance_8 : decode bMO_balance 8 = .ok (.iconst 0, 1) := by decide +kernel
theorem dMO_balance_9 : decode bMO_balance 9 = .ok (.istore 6, 2) := by decide +kernel
theorem dMO_balance_11 : decode bMO_balance 11 = .ok (.iload 6, 2) := by decide +kernel
theorem dMO_balance_13 : decode bMO_balance 13 = .ok (.i2l, 1) := by decide +kernel
theorem dMO_balance_14 : decode bMO_balance 14 = .ok (.aload_n 0, 1) := by decide +kernel
theorem dMO_balance_15 : decode bMO_balance 15 = .ok (.getfield 7, 3) := by decide +kernel
theorem dMO_balance_18 : decode bMO_balance 18 = .ok (.iconst 1, 1) := by decide +kernel
theorem dMO_balance_19 : decode bMO_balance 19 = .ok (.laload, 1) := by decide +kernel
theorem dMO_balance_20 : decode bMO_balance 20 = .ok (.lcmp, 1) := by decide +kernel
theorem dMO_balance_21 : decode bMO_balance 21 = .ok (.ifCond .ge 134, 3) := by decide +kernel
theorem dMO_balance_24 : decode bMO_balance 24 = .ok (.iconst 0, 1) := by decide +kernel
theorem dMO_balance_25 : decode bMO_balance 25 = .ok (.istore 7, 2) := by decide +kernel
theorem dMO_balance_27 : decode bMO_balance 27 = .ok (.iload 7, 2) := by decide +kernel
theorem dMO_balance_29 : decode bMO_balance 29 = .ok (.i2l, 1) := by decide +kernel
theorem dMO_balance_30 : decode bMO_balance 30 = .ok (.aload_n 0, 1) := by decide +kernel
theorem dMO_balance_31 : decode bMO_balance 31 = .ok (.getfield 7, 3) := by decide +kernel
theorem dMO_balance_34 : decode bMO_balance 34 = .ok (.sipush 260, 3) := by decide +kernel
theorem dMO_balance_37 : decode bMO_balance 37 = .ok (.iload 6, 2) := by decide +kernel
theorem dMO_balance_39 : decode bMO_balance 39 = .ok (.iadd, 1) := by decide +kernel
theorem dMO_balance_40 : decode bMO_balance 40 = .ok (.laload, 1) := by decide +kernel
theorem dMO_balance_41 : decode bMO_balance 41 = .ok (.lcmp, 1) := by decide +kernel
theorem dMO_balance_42 : decode bMO_balance 42 = .ok (.ifCond .ge 107, 3) := by decide +kernel
theorem dMO_balance_45 : decode bMO_balance 45 = .ok (.bipush 6, 2) := by decide +kernel
theorem dMO_balance_47 : decode bMO_balance 47 = .ok (.iload 6, 2) := by decide +kernel
theorem dMO_balance_49 : decode bMO_balance 49 = .ok (.imul, 1) := by decide +kernel
theorem dMO_balance_50 : decode bMO_balance 50 = .ok (.iload 7, 2) := by decide +kernel
theorem dMO_balance_52 : decode bMO_balance 52 = .ok (.iadd, 1) := by decide +kernel
theorem dMO_balance_53 : decode bMO_balance 53 = .ok (.istore 8, 2) := by decide +kernel
theorem dMO_balance_55 : decode bMO_balance 55 = .ok (.aload_n 0, 1) := by decide +kernel
theorem dMO_balance_56 : decode bMO_balance 56 = .ok (.iload_n 1, 1) := by decide +kernel
theorem dMO_balance_57 : decode bMO_balance 57 = .ok (.invokevirtual 20, 3) := by decide +kernel
theorem dMO_balance_60 : decode bMO_balance 60 = .ok (.ifCond .eq 55, 3) := by decide +kernel
theorem dMO_balance_63 : decode bMO_balance 63 = .ok (.aload_n 0, 1) := by decide +kernel
theorem dMO_balance_64 : decode bMO_balance 64 = .ok (.getfield 7, 3) := by decide +kernel
theorem dMO_balance_67 : decode bMO_balance 67 = .ok (.sipush 140, 3) := by decide +kernel
theorem dMO_balance_70 : decode bMO_balance 70 = .ok (.iload 6, 2) := by decide +kernel
theorem dMO_balance_72 : decode bMO_balance 72 = .ok (.iadd, 1) := by decide +kernel
theorem dMO_balance_73 : decode bMO_balance 73 = .ok (.laload, 1) := by decide +kernel
theorem dMO_balance_74 : decode bMO_balance 74 = .ok (.lconst 0, 1) := by decide +kernel
theorem dMO_balance_75 : decode bMO_balance 75 = .ok (.lcmp, 1) := by decide +kernel
theorem dMO_balance_76 : decode bMO_balance 76 = .ok (.ifCond .le 39, 3) := by decide +kernel
theorem dMO_balance_79 : decode bMO_balance 79 = .ok (.aload_n 0, 1) := by decide +kernel
theorem dMO_balance_80 : decode bMO_balance 80 = .ok (.getfield 7, 3) := by decide +kernel
theorem dMO_balance_83 : decode bMO_balance 83 = .ok (.bipush 100, 2) := by decide +kernel
theorem dMO_balance_85 : decode bMO_balance 85 = .ok (.iload 6, 2) := by decide +kernel
theorem dMO_balance_87 : decode bMO_balance 87 = .ok (.iadd, 1) := by decide +kernel
theorem dMO_balance_88 : decode bMO_balance 88 = .ok (.laload, 1) := by decide +kernel
theorem dMO_balance_89 : decode bMO_balance 89 = .ok (.lload_n 2, 1) := by decide +kernel
theorem dMO_balance_90 : decode bMO_balance 90 = .ok (.lcmp, 1) := by decide +kernel
theorem dMO_balance_91 : decode bMO_balance 91 = .ok (.ifCond .gt 24, 3) := by decide +kernel
theorem dMO_balance_94 : decode bMO_balance 94 = .ok (.aload_n 0, 1) := by decide +kernel
theorem dMO_balance_95 : decode bMO_balance 95 = .ok (.getfield 7, 3) := by decide +kernel
theorem dMO_balance_98 : decode bMO_balance 98 = .ok (.sipush 300, 3) := by decide +kernel
theorem dMO_balance_101 : decode bMO_balance 101 = .ok (.iload 8, 2) := by decide +kernel
theorem dMO_balance_103 : decode bMO_balance 103 = .ok (.iadd, 1) := by decide +kernel
theorem dMO_balance_104 : decode bMO_balance 104 = .ok (.laload, 1) := by decide +kernel
theorem dMO_balance_105 : decode bMO_balance 105 = .ok (.iload_n 1, 1) := by decide +kernel
theorem dMO_balance_106 : decode bMO_balance 106 = .ok (.i2l, 1) := by decide +kernel
theorem dMO_balance_107 : decode bMO_balance 107 = .ok (.lcmp, 1) := by decide +kernel
theorem dMO_balance_108 : decode bMO_balance 108 = .ok (.ifCond .ne 7, 3) := by decide +kernel
theorem dMO_balance_111 : decode bMO_balance 111 = .ok (.iconst 1, 1) := by decide +kernel
theorem dMO_balance_112 : decode bMO_balance 112 = .ok (.goto 4, 3) := by decide +kernel
theorem dMO_balance_115 : decode bMO_balance 115 = .ok (.iconst 0, 1) := by decide +kernel
theorem dMO_balance_116 : decode bMO_balance 116 = .ok (.istore 9, 2) := by decide +kernel
theorem dMO_balance_118 : decode bMO_balance 118 = .ok (.lload 4, 2) := by decide +kernel
theorem dMO_balance_120 : decode bMO_balance 120 = .ok (.iload 9, 2) := by decide +kernel
theorem dMO_balance_122 : decode bMO_balance 122 = .ok (.ifCond .eq 17, 3) := by decide +kernel
theorem dMO_balance_125 : decode bMO_balance 125 = .ok (.aload_n 0, 1) := by decide +kernel
theorem dMO_balance_126 : decode bMO_balance 126 = .ok (.getfield 7, 3) := by decide +kernel
theorem dMO_balance_129 : decode bMO_balance 129 = .ok (.sipush 540, 3) := by decide +kernel
theorem dMO_balance_132 : decode bMO_balance 132 = .ok (.iload 8, 2) := by decide +kernel
theorem dMO_balance_134 : decode bMO_balance 134 = .ok (.iadd, 1) := by decide +kernel
theorem dMO_balance_135 : decode bMO_balance 135 = .ok (.laload, 1) := by decide +kernel
theorem dMO_balance_136 : decode bMO_balance 136 = .ok (.goto 4, 3) := by decide +kernel
theorem dMO_balance_139 : decode bMO_balance 139 = .ok (.lconst 0, 1) := by decide +kernel
theorem dMO_balance_140 : decode bMO_balance 140 = .ok (.ladd, 1) := by decide +kernel
theorem dMO_balance_141 : decode bMO_balance 141 = .ok (.lstore 4, 2) := by decide +kernel
theorem dMO_balance_143 : decode bMO_balance 143 = .ok (.iinc 7 1, 3) := by decide +kernel
theorem dMO_balance_146 : decode bMO_balance 146 = .ok (.goto (-119), 3) := by decide +kernel
theorem dMO_balance_149 : decode bMO_balance 149 = .ok (.iinc 6 1, 3) := by decide +kernel
theorem dMO_balance_152 : decode bMO_balance 152 = .ok (.goto (-141), 3) := by decide +kernel
theorem dMO_balance_155 : decode bMO_balance 155 = .ok (.lload 4, 2) := by decide +kernel
theorem dMO_balance_157 : decode bMO_balance 157 = .ok (.lreturn, 1) := by decide +kernel
theorem dMO_batch_0 : decode bMO_batch 0 = .ok (.aload_n 0, 1) := by decide +kernel
theorem dMO_batch_1 : decode bMO_batch 1 = .ok (.iconst 0, 1) := by decide +kernel
theorem dMO_batch_2 : decode bMO_batch 2 = .ok (.putfield 16, 3) := by decide +kernel
theorem dMO_batch_5 : decode bMO_batch 5 = .ok (.aload_n 0, 1) := by decide +kernel
theorem dMO_batch_6 : decode bMO_batch 6 = .ok (.getfield 111, 3) := by decide +kernel
theorem dMO_batch_9 : decode bMO_batch 9 = .ok (.ifCond .eq 5, 3) := by decide +kernel
theorem dMO_batch_12 : decode bMO_batch 12 = .ok (.iconst (-1), 1) := by decide +kernel
theorem dMO_batch_13 : decode bMO_batch 13 = .ok (.ireturn, 1) := by decide +kernel
theorem dMO_batch_14 : decode bMO_batch 14 = .ok (.iconst 0, 1) := by decide +kernel
theorem dMO_batch_15 : decode bMO_batch 15 = .ok (.istore_n 1, 1) := by decide +kernel
theorem dMO_batch_16 : decode bMO_batch 16 = .ok (.iload_n 1, 1) := by decide +kernel
theorem dMO_batch_17 : decode bMO_batch 17 = .ok (.sipush 1220, 3) := by decide +kernel
theorem dMO_batch_20 : decode bMO_batch 20 = .ok (.if_icmp .ge 21, 3) := by decide +kernel
theorem dMO_batch_23 : decode bMO_batch 23 = .ok (.aload_n 0, 1) := by decide +kernel
theorem dMO_batch_24 : decode bMO_batch 24 = .ok (.getfield 13, 3) := by decide +kernel
theorem dMO_batch_27 : decode bMO_batch 27 = .ok (.iload_n 1, 1) := by decide +kernel
theorem dMO_batch_28 : decode bMO_batch 28 = .ok (.aload_n 0, 1) := by decide +kernel
theorem dMO_batch_29 : decode bMO_batch 29 = .ok (.getfield 7, 3) := by decide +kernel
theorem dMO_batch_32 : decode bMO_batch 32 = .ok (.iload_n 1, 1) := by decide +kernel
theorem dMO_batch_33 : decode bMO_batch 33 = .ok (.laload, 1) := by decide +kernel
theorem dMO_batch_34 : decode bMO_batch 34 = .ok (.lastore, 1) := by decide +kernel
theorem dMO_batch_35 : decode bMO_batch 35 = .ok (.iinc 1 1, 3) := by decide +kernel
theorem dMO_batch_38 : decode bMO_batch 38 = .ok (.goto (-22), 3) := by decide +kernel
theorem dMO_batch_41 : decode bMO_batch 41 = .ok (.aload_n 0, 1) := by decide +kernel
theorem dMO_batch_42 : decode bMO_batch 42 = .ok (.iconst 1, 1) := by decide +kernel
theorem dMO_batch_43 : decode bMO_batch 43 = .ok (.putfield 111, 3) := by decide +kernel
theorem dMO_batch_46 : decode bMO_batch 46 = .ok (.aload_n 0, 1) := by decide +kernel
theorem dMO_batch_47 : decode bMO_batch 47 = .ok (.dup, 1) := by decide +kernel
theorem dMO_batch_48 : decode bMO_batch 48 = .ok (.getfield 115, 3) := by decide +kernel
theorem dMO_batch_51 : decode bMO_batch 51 = .ok (.iconst 1, 1) := by decide +kernel
theorem dMO_batch_52 : decode bMO_batch 52 = .ok (.iadd, 1) := by decide +kernel
theorem dMO_batch_53 : decode bMO_batch 53 = .ok (.putfield 115, 3) := by decide +kernel
theorem dMO_batch_56 : decode bMO_batch 56 = .ok (.aload_n 0, 1) := by decide +kernel
theorem dMO_batch_57 : decode bMO_batch 57 = .ok (.getfield 115, 3) := by decide +kernel
theorem dMO_batch_60 : decode bMO_batch 60 = .ok (.iconst 1, 1) := by decide +kernel
theorem dMO_batch_61 : decode bMO_batch 61 = .ok (.isub, 1) := by decide +kernel
theorem dMO_batch_62 : decode bMO_batch 62 = .ok (.ireturn, 1) := by decide +kernel
theorem dMO_close_0 : decode bMO_close 0 = .ok (.aload_n 0, 1) := by decide +kernel
theorem dMO_close_1 : decode bMO_close 1 = .ok (.iconst 0, 1) := by decide +kernel
theorem dMO_close_2 : decode bMO_close 2 = .ok (.putfield 16, 3) := by decide +kernel
theorem dMO_close_5 : decode bMO_close 5 = .ok (.aload_n 0, 1) := by decide +kernel
theorem dMO_close_6 : decode bMO_close 6 = .ok (.iload_n 1, 1) := by decide +kernel
theorem dMO_close_7 : decode bMO_close 7 = .ok (.invokevirtual 47, 3) := by decide +kernel
theorem dMO_close_10 : decode bMO_close 10 = .ok (.ifCond .eq 34, 3) := by decide +kernel
theorem dMO_close_13 : decode bMO_close 13 = .ok (.aload_n 0, 1) := by decide +kernel
theorem dMO_close_14 : decode bMO_close 14 = .ok (.getfield 7, 3) := by decide +kernel
theorem dMO_close_17 : decode bMO_close 17 = .ok (.sipush 140, 3) := by decide +kernel
theorem dMO_close_20 : decode bMO_close 20 = .ok (.iload_n 1, 1) := by decide +kernel
theorem dMO_close_21 : decode bMO_close 21 = .ok (.iadd, 1) := by decide +kernel
theorem dMO_close_22 : decode bMO_close 22 = .ok (.laload, 1) := by decide +kernel
theorem dMO_close_23 : decode bMO_close 23 = .ok (.lconst 0, 1) := by decide +kernel
theorem dMO_close_24 : decode bMO_close 24 = .ok (.lcmp, 1) := by decide +kernel
theorem dMO_close_25 : decode bMO_close 25 = .ok (.ifCond .gt 19, 3) := by decide +kernel
theorem dMO_close_28 : decode bMO_close 28 = .ok (.aload_n 0, 1) := by decide +kernel
theorem dMO_close_29 : decode bMO_close 29 = .ok (.aload_n 0, 1) := by decide +kernel
theorem dMO_close_30 : decode bMO_close 30 = .ok (.getfield 7, 3) := by decide +kernel
theorem dMO_close_33 : decode bMO_close 33 = .ok (.bipush 100, 2) := by decide +kernel
theorem dMO_close_35 : decode bMO_close 35 = .ok (.iload_n 1, 1) := by decide +kernel
theorem dMO_close_36 : decode bMO_close 36 = .ok (.iadd, 1) := by decide +kernel
theorem dMO_close_37 : decode bMO_close 37 = .ok (.laload, 1) := by decide +kernel
theorem dMO_close_38 : decode bMO_close 38 = .ok (.invokevirtual 40, 3) := by decide +kernel
theorem dMO_close_41 : decode bMO_close 41 = .ok (.ifCond .eq 5, 3) := by decide +kernel
theorem dMO_close_44 : decode bMO_close 44 = .ok (.iconst (-1), 1) := by decide +kernel
theorem dMO_close_45 : decode bMO_close 45 = .ok (.ireturn, 1) := by decide +kernel
theorem dMO_close_46 : decode bMO_close 46 = .ok (.lconst 0, 1) := by decide +kernel
theorem dMO_close_47 : decode bMO_close 47 = .ok (.lstore_n 2, 1) := by decide +kernel
theorem dMO_close_48 : decode bMO_close 48 = .ok (.iconst 0, 1) := by decide +kernel
theorem dMO_close_49 : decode bMO_close 49 = .ok (.istore 4, 2) := by decide +kernel
theorem dMO_close_51 : decode bMO_close 51 = .ok (.iload 4, 2) := by decide +kernel
theorem dMO_close_53 : decode bMO_close 53 = .ok (.i2l, 1) := by decide +kernel
theorem dMO_close_54 : decode bMO_close 54 = .ok (.aload_n 0, 1) := by decide +kernel
theorem dMO_close_55 : decode bMO_close 55 = .ok (.getfield 7, 3) := by decide +kernel
theorem dMO_close_58 : decode bMO_close 58 = .ok (.sipush 260, 3) := by decide +kernel
theorem dMO_close_61 : decode bMO_close 61 = .ok (.iload_n 1, 1) := by decide +kernel
theorem dMO_close_62 : decode bMO_close 62 = .ok (.iadd, 1) := by decide +kernel
theorem dMO_close_63 : decode bMO_close 63 = .ok (.laload, 1) := by decide +kernel
theorem dMO_close_64 : decode bMO_close 64 = .ok (.lcmp, 1) := by decide +kernel
theorem dMO_close_65 : decode bMO_close 65 = .ok (.ifCond .ge 28, 3) := by decide +kernel
theorem dMO_close_68 : decode bMO_close 68 = .ok (.lload_n 2, 1) := by decide +kernel
theorem dMO_close_69 : decode bMO_close 69 = .ok (.aload_n 0, 1) := by decide +kernel
theorem dMO_close_70 : decode bMO_close 70 = .ok (.getfield 7, 3) := by decide +kernel
theorem dMO_close_73 : decode bMO_close 73 = .ok (.sipush 540, 3) := by decide +kernel
theorem dMO_close_76 : decode bMO_close 76 = .ok (.bipush 6, 2) := by decide +kernel
theorem dMO_close_78 : decode bMO_close 78 = .ok (.iload_n 1, 1) := by decide +kernel
theorem dMO_close_79 : decode bMO_close 79 = .ok (.imul, 1) := by decide +kernel
theorem dMO_close_80 : decode bMO_close 80 = .ok (.iadd, 1) := by decide +kernel
theorem dMO_close_81 : decode bMO_close 81 = .ok (.iload 4, 2) := by decide +kernel
theorem dMO_close_83 : decode bMO_close 83 = .ok (.iadd, 1) := by decide +kernel
theorem dMO_close_84 : decode bMO_close 84 = .ok (.laload, 1) := by decide +kernel
theorem dMO_close_85 : decode bMO_close 85 = .ok (.ladd, 1) := by decide +kernel
theorem dMO_close_86 : decode bMO_close 86 = .ok (.lstore_n 2, 1) := by decide +kernel
theorem dMO_close_87 : decode bMO_close 87 = .ok (.iinc 4 1, 3) := by decide +kernel
theorem dMO_close_90 : decode bMO_close 90 = .ok (.goto (-39), 3) := by decide +kernel
theorem dMO_close_93 : decode bMO_close 93 = .ok (.lload_n 2, 1) := by decide +kernel
theorem dMO_close_94 : decode bMO_close 94 = .ok (.lconst 0, 1) := by decide +kernel
theorem dMO_close_95 : decode bMO_close 95 = .ok (.lcmp, 1) := by decide +kernel
theorem dMO_close_96 : decode bMO_close 96 = .ok (.ifCond .eq 10, 3) := by decide +kernel
theorem dMO_close_99 : decode bMO_close 99 = .ok (.aload_n 0, 1) := by decide +kernel
theorem dMO_close_100 : decode bMO_close 100 = .ok (.iconst 1, 1) := by decide +kernel
theorem dMO_close_101 : decode bMO_close 101 = .ok (.putfield 16, 3) := by decide +kernel
theorem dMO_close_104 : decode bMO_close 104 = .ok (.iconst 0, 1) := by decide +kernel
theorem dMO_close_105 : decode bMO_close 105 = .ok (.ireturn, 1) := by decide +kernel
theorem dMO_close_106 : decode bMO_close 106 = .ok (.aload_n 0, 1) := by decide +kernel
theorem dMO_close_107 : decode bMO_close 107 = .ok (.getfield 7, 3) := by decide +kernel
theorem dMO_close_110 : decode bMO_close 110 = .ok (.sipush 140, 3) := by decide +kernel
theorem dMO_close_113 : decode bMO_close 113 = .ok (.iload_n 1, 1) := by decide +kernel
theorem dMO_close_114 : decode bMO_close 114 = .ok (.iadd, 1) := by decide +kernel
theorem dMO_close_115 : decode bMO_close 115 = .ok (.lconst 1, 1) := by decide +kernel
theorem dMO_close_116 : decode bMO_close 116 = .ok (.lastore, 1) := by decide +kernel
theorem dMO_close_117 : decode bMO_close 117 = .ok (.iconst 0, 1) := by decide +kernel
theorem dMO_close_118 : decode bMO_close 118 = .ok (.istore 4, 2) := by decide +kernel
theorem dMO_close_120 : decode bMO_close 120 = .ok (.iload 4, 2) := by decide +kernel
theorem dMO_close_122 : decode bMO_close 122 = .ok (.i2l, 1) := by decide +kernel
theorem dMO_close_123 : decode bMO_close 123 = .ok (.aload_n 0, 1) := by decide +kernel
theorem dMO_close_124 : decode bMO_close 124 = .ok (.getfield 7, 3) := by decide +kernel
theorem dMO_close_127 : decode bMO_close 127 = .ok (.sipush 260, 3) := by decide +kernel
theorem dMO_close_130 : decode bMO_close 130 = .ok (.iload_n 1, 1) := by decide +kernel
theorem dMO_close_131 : decode bMO_close 131 = .ok (.iadd, 1) := by decide +kernel
theorem dMO_close_132 : decode bMO_close 132 = .ok (.laload, 1) := by decide +kernel
theorem dMO_close_133 : decode bMO_close 133 = .ok (.lcmp, 1) := by decide +kernel
theorem dMO_close_134 : decode bMO_close 134 = .ok (.ifCond .ge 54, 3) := by decide +kernel
theorem dMO_close_137 : decode bMO_close 137 = .ok (.bipush 6, 2) := by decide +kernel
theorem dMO_close_139 : decode bMO_close 139 = .ok (.iload_n 1, 1) := by decide +kernel
theorem dMO_close_140 : decode bMO_close 140 = .ok (.imul, 1) := by decide +kernel
theorem dMO_close_141 : decode bMO_close 141 = .ok (.iload 4, 2) := by decide +kernel
theorem dMO_close_143 : decode bMO_close 143 = .ok (.iadd, 1) := by decide +kernel
theorem dMO_close_144 : decode bMO_close 144 = .ok (.istore 5, 2) := by decide +kernel
theorem dMO_close_146 : decode bMO_close 146 = .ok (.aload_n 0, 1) := by decide +kernel
theorem dMO_close_147 : decode bMO_close 147 = .ok (.getfield 7, 3) := by decide +kernel
theorem dMO_close_150 : decode bMO_close 150 = .ok (.sipush 780, 3) := by decide +kernel
theorem dMO_close_153 : decode bMO_close 153 = .ok (.iload 5, 2) := by decide +kernel
theorem dMO_close_155 : decode bMO_close 155 = .ok (.iadd, 1) := by decide +kernel
theorem dMO_close_156 : decode bMO_close 156 = .ok (.aload_n 0, 1) := by decide +kernel
theorem dMO_close_157 : decode bMO_close 157 = .ok (.iload_n 1, 1) := by decide +kernel
theorem dMO_close_158 : decode bMO_close 158 = .ok (.iload 4, 2) := by decide +kernel
theorem dMO_close_160 : decode bMO_close 160 = .ok (.invokevirtual 60, 3) := by decide +kernel
theorem dMO_close_163 : decode bMO_close 163 = .ok (.ifCond .eq 17, 3) := by decide +kernel
theorem dMO_close_166 : decode bMO_close 166 = .ok (.aload_n 0, 1) := by decide +kernel
theorem dMO_close_167 : decode bMO_close 167 = .ok (.getfield 7, 3) := by decide +kernel
theorem dMO_close_170 : decode bMO_close 170 = .ok (.sipush 540, 3) := by decide +kernel
theorem dMO_close_173 : decode bMO_close 173 = .ok (.iload 5, 2) := by decide +kernel
theorem dMO_close_175 : decode bMO_close 175 = .ok (.iadd, 1) := by decide +kernel
theorem dMO_close_176 : decode bMO_close 176 = .ok (.laload, 1) := by decide +kernel
theorem dMO_close_177 : decode bMO_close 177 = .ok (.goto 4, 3) := by decide +kernel
theorem dMO_close_180 : decode bMO_close 180 = .ok (.lconst 0, 1) := by decide +kernel
theorem dMO_close_181 : decode bMO_close 181 = .ok (.lastore, 1) := by decide +kernel
theorem dMO_close_182 : decode bMO_close 182 = .ok (.iinc 4 1, 3) := by decide +kernel
theorem dMO_close_185 : decode bMO_close 185 = .ok (.goto (-65), 3) := by decide +kernel
theorem dMO_close_188 : decode bMO_close 188 = .ok (.aload_n 0, 1) := by decide +kernel
theorem dMO_close_189 : decode bMO_close 189 = .ok (.getfield 7, 3) := by decide +kernel
theorem dMO_close_192 : decode bMO_close 192 = .ok (.sipush 260, 3) := by decide +kernel
theorem dMO_close_195 : decode bMO_close 195 = .ok (.iload_n 1, 1) := by decide +kernel
theorem dMO_close_196 : decode bMO_close 196 = .ok (.iadd, 1) := by decide +kernel
theorem dMO_close_197 : decode bMO_close 197 = .ok (.laload, 1) := by decide +kernel
theorem dMO_close_198 : decode bMO_close 198 = .ok (.l2i, 1) := by decide +kernel
theorem dMO_close_199 : decode bMO_close 199 = .ok (.ireturn, 1) := by decide +kernel
theorem dMO_closeMonth_0 : decode bMO_closeMonth 0 = .ok (.aload_n 0, 1) := by decide +kernel
theorem dMO_closeMonth_1 : decode bMO_closeMonth 1 = .ok (.iconst 0, 1) := by decide +kernel
theorem dMO_closeMonth_2 : decode bMO_closeMonth 2 = .ok (.putfield 16, 3) := by decide +kernel
theorem dMO_closeMonth_5 : decode bMO_closeMonth 5 = .ok (.iload_n 1, 1) := by decide +kernel
theorem dMO_closeMonth_6 : decode bMO_closeMonth 6 = .ok (.i2l, 1) := by decide +kernel
theorem dMO_closeMonth_7 : decode bMO_closeMonth 7 = .ok (.aload_n 0, 1) := by decide +kernel
theorem dMO_closeMonth_8 : decode bMO_closeMonth 8 = .ok (.getfield 7, 3) := by decide +kernel
theorem dMO_closeMonth_11 : decode bMO_closeMonth 11 = .ok (.iconst 2, 1) := by decide +kernel
theorem dMO_closeMonth_12 : decode bMO_closeMonth 12 = .ok (.laload, 1) := by decide +kernel
theorem dMO_closeMonth_13 : decode bMO_closeMonth 13 = .ok (.lcmp, 1) := by decide +kernel
theorem dMO_closeMonth_14 : decode bMO_closeMonth 14 = .ok (.ifCond .ne 16, 3) := by decide +kernel
theorem dMO_closeMonth_17 : decode bMO_closeMonth 17 = .ok (.aload_n 0, 1) := by decide +kernel
theorem dMO_closeMonth_18 : decode bMO_closeMonth 18 = .ok (.getfield 7, 3) := by decide +kernel
theorem dMO_closeMonth_21 : decode bMO_closeMonth 21 = .ok (.iconst 2, 1) := by decide +kernel
theorem dMO_closeMonth_22 : decode bMO_closeMonth 22 = .ok (.laload, 1) := by decide +kernel
theorem dMO_closeMonth_23 : decode bMO_closeMonth 23 = .ok (.ldc2_w 118, 3) := by decide +kernel
theorem dMO_closeMonth_26 : decode bMO_closeMonth 26 = .ok (.lcmp, 1) := by decide +kernel
theorem dMO_closeMonth_27 : decode bMO_closeMonth 27 = .ok (.ifCond .ne 5, 3) := by decide +kernel
theorem dMO_closeMonth_30 : decode bMO_closeMonth 30 = .ok (.iconst 0, 1) := by decide +kernel
theorem dMO_closeMonth_31 : decode bMO_closeMonth 31 = .ok (.ireturn, 1) := by decide +kernel
theorem dMO_closeMonth_32 : decode bMO_closeMonth 32 = .ok (.aload_n 0, 1) := by decide +kernel
theorem dMO_closeMonth_33 : decode bMO_closeMonth 33 = .ok (.getfield 7, 3) := by decide +kernel
theorem dMO_closeMonth_36 : decode bMO_closeMonth 36 = .ok (.iconst 2, 1) := by decide +kernel
theorem dMO_closeMonth_37 : decode bMO_closeMonth 37 = .ok (.dup2, 1) := by decide +kernel
theorem dMO_closeMonth_38 : decode bMO_closeMonth 38 = .ok (.laload, 1) := by decide +kernel
theorem dMO_closeMonth_39 : decode bMO_closeMonth 39 = .ok (.lconst 1, 1) := by decide +kernel
theorem dMO_closeMonth_40 : decode bMO_closeMonth 40 = .ok (.ladd, 1) := by decide +kernel
theorem dMO_closeMonth_41 : decode bMO_closeMonth 41 = .ok (.lastore, 1) := by decide +kernel
theorem dMO_closeMonth_42 : decode bMO_closeMonth 42 = .ok (.iconst 1, 1) := by decide +kernel
theorem dMO_closeMonth_43 : decode bMO_closeMonth 43 = .ok (.ireturn, 1) := by decide +kernel
theorem dMO_common_0 : decode bMO_common 0 = .ok (.lload_n 0, 1) := by decide +kernel
theorem dMO_common_1 : decode bMO_common 1 = .ok (.lstore 4, 2) := by decide +kernel
theorem dMO_common_3 : decode bMO_common 3 = .ok (.lload_n 2, 1) := by decide +kernel
theorem dMO_common_4 : decode bMO_common 4 = .ok (.lstore 6, 2) := by decide +kernel
theorem dMO_common_6 : decode bMO_common 6 = .ok (.lload 4, 2) := by decide +kernel
theorem dMO_common_8 : decode bMO_common 8 = .ok (.lconst 0, 1) := by decide +kernel
theorem dMO_common_9 : decode bMO_common 9 = .ok (.lcmp, 1) := by decide +kernel
theorem dMO_common_10 : decode bMO_common 10 = .ok (.ifCond .eq 21, 3) := by decide +kernel
theorem dMO_common_13 : decode bMO_common 13 = .ok (.lload 6, 2) := by decide +kernel
theorem dMO_common_15 : decode bMO_common 15 = .ok (.lload 4, 2) := by decide +kernel
theorem dMO_common_17 : decode bMO_common 17 = .ok (.lrem, 1) := by decide +kernel
theorem dMO_common_18 : decode bMO_common 18 = .ok (.lstore 8, 2) := by decide +kernel
theorem dMO_common_20 : decode bMO_common 20 = .ok (.lload 4, 2) := by decide +kernel
theorem dMO_common_22 : decode bMO_common 22 = .ok (.lstore 6, 2) := by decide +kernel
theorem dMO_common_24 : decode bMO_common 24 = .ok (.lload 8, 2) := by decide +kernel
theorem dMO_common_26 : decode bMO_common 26 = .ok (.lstore 4, 2) := by decide +kernel
theorem dMO_common_28 : decode bMO_common 28 = .ok (.goto (-22), 3) := by decide +kernel
theorem dMO_common_31 : decode bMO_common 31 = .ok (.lload 6, 2) := by decide +kernel
theorem dMO_common_33 : decode bMO_common 33 = .ok (.lreturn, 1) := by decide +kernel
theorem dMO_due_0 : decode bMO_due 0 = .ok (.aload_n 0, 1) := by decide +kernel
theorem dMO_due_1 : decode bMO_due 1 = .ok (.iconst 0, 1) := by decide +kernel
theorem dMO_due_2 : decode bMO_due 2 = .ok (.putfield 16, 3) := by decide +kernel
theorem dMO_due_5 : decode bMO_due 5 = .ok (.iload_n 1, 1) := by decide +kernel
theorem dMO_due_6 : decode bMO_due 6 = .ok (.ifCond .lt 35, 3) := by decide +kernel
theorem dMO_due_9 : decode bMO_due 9 = .ok (.iload_n 1, 1) := by decide +kernel

theorem dAC_init_0 : decode bAC_init 0 = .ok (.aload_n 0, 1) := by decide +kernel
theorem dAC_init_1 : decode bAC_init 1 = .ok (.invokespecial 3, 3) := by decide +kernel
theorem dAC_init_4 : decode bAC_init 4 = .ok (.aload_n 0, 1) := by decide +kernel
theorem dAC_init_5 : decode bAC_init 5 = .ok (.iconst 0, 1) := by decide +kernel
theorem dAC_init_6 : decode bAC_init 6 = .ok (.putfield 9, 3) := by decide +kernel
theorem dAC_init_9 : decode bAC_init 9 = .ok (.aload_n 0, 1) := by decide +kernel
theorem dAC_init_10 : decode bAC_init 10 = .ok (.bipush 8, 2) := by decide +kernel
theorem dAC_init_12 : decode bAC_init 12 = .ok (.newarray .int, 2) := by decide +kernel
theorem dAC_init_14 : decode bAC_init 14 = .ok (.putfield 15, 3) := by decide +kernel
theorem dAC_init_17 : decode bAC_init 17 = .ok (.aload_n 0, 1) := by decide +kernel
theorem dAC_init_18 : decode bAC_init 18 = .ok (.bipush 8, 2) := by decide +kernel
theorem dAC_init_20 : decode bAC_init 20 = .ok (.newarray .int, 2) := by decide +kernel
theorem dAC_init_22 : decode bAC_init 22 = .ok (.putfield 19, 3) := by decide +kernel
theorem dAC_init_25 : decode bAC_init 25 = .ok (.aload_n 0, 1) := by decide +kernel
theorem dAC_init_26 : decode bAC_init 26 = .ok (.bipush 8, 2) := by decide +kernel
theorem dAC_init_28 : decode bAC_init 28 = .ok (.newarray .int, 2) := by decide +kernel
theorem dAC_init_30 : decode bAC_init 30 = .ok (.putfield 22, 3) := by decide +kernel
theorem dAC_init_33 : decode bAC_init 33 = .ok (.aload_n 0, 1) := by decide +kernel
theorem dAC_init_34 : decode bAC_init 34 = .ok (.bipush 8, 2) := by decide +kernel
theorem dAC_init_36 : decode bAC_init 36 = .ok (.newarray .long, 2) := by decide +kernel
theorem dAC_init_38 : decode bAC_init 38 = .ok (.putfield 25, 3) := by decide +kernel
theorem dAC_init_41 : decode bAC_init 41 = .ok (.aload_n 0, 1) := by decide +kernel
theorem dAC_init_42 : decode bAC_init 42 = .ok (.bipush 8, 2) := by decide +kernel
theorem dAC_init_44 : decode bAC_init 44 = .ok (.newarray .long, 2) := by decide +kernel
theorem dAC_init_46 : decode bAC_init 46 = .ok (.putfield 29, 3) := by decide +kernel
theorem dAC_init_49 : decode bAC_init 49 = .ok (.aload_n 0, 1) := by decide +kernel
theorem dAC_init_50 : decode bAC_init 50 = .ok (.bipush 8, 2) := by decide +kernel
theorem dAC_init_52 : decode bAC_init 52 = .ok (.newarray .int, 2) := by decide +kernel
theorem dAC_init_54 : decode bAC_init 54 = .ok (.putfield 32, 3) := by decide +kernel
theorem dAC_init_57 : decode bAC_init 57 = .ok (.aload_n 0, 1) := by decide +kernel
theorem dAC_init_58 : decode bAC_init 58 = .ok (.bipush 8, 2) := by decide +kernel
theorem dAC_init_60 : decode bAC_init 60 = .ok (.newarray .int, 2) := by decide +kernel
theorem dAC_init_62 : decode bAC_init 62 = .ok (.putfield 35, 3) := by decide +kernel
theorem dAC_init_65 : decode bAC_init 65 = .ok (.return_, 1) := by decide +kernel
theorem dAC_add_0 : decode bAC_add 0 = .ok (.aload_n 0, 1) := by decide +kernel
theorem dAC_add_1 : decode bAC_add 1 = .ok (.getfield 9, 3) := by decide +kernel
theorem dAC_add_4 : decode bAC_add 4 = .ok (.bipush 8, 2) := by decide +kernel
theorem dAC_add_6 : decode bAC_add 6 = .ok (.if_icmp .lt 5, 3) := by decide +kernel
theorem dAC_add_9 : decode bAC_add 9 = .ok (.iconst (-1), 1) := by decide +kernel
theorem dAC_add_10 : decode bAC_add 10 = .ok (.ireturn, 1) := by decide +kernel
theorem dAC_add_11 : decode bAC_add 11 = .ok (.aload_n 0, 1) := by decide +kernel
theorem dAC_add_12 : decode bAC_add 12 = .ok (.getfield 9, 3) := by decide +kernel
theorem dAC_add_15 : decode bAC_add 15 = .ok (.istore_n 2, 1) := by decide +kernel
theorem dAC_add_16 : decode bAC_add 16 = .ok (.aload_n 0, 1) := by decide +kernel
theorem dAC_add_17 : decode bAC_add 17 = .ok (.getfield 15, 3) := by decide +kernel
theorem dAC_add_20 : decode bAC_add 20 = .ok (.iload_n 2, 1) := by decide +kernel
theorem dAC_add_21 : decode bAC_add 21 = .ok (.iload_n 1, 1) := by decide +kernel
theorem dAC_add_22 : decode bAC_add 22 = .ok (.iastore, 1) := by decide +kernel
theorem dAC_add_23 : decode bAC_add 23 = .ok (.aload_n 0, 1) := by decide +kernel
theorem dAC_add_24 : decode bAC_add 24 = .ok (.getfield 19, 3) := by decide +kernel
theorem dAC_add_27 : decode bAC_add 27 = .ok (.iload_n 2, 1) := by decide +kernel
theorem dAC_add_28 : decode bAC_add 28 = .ok (.iconst 0, 1) := by decide +kernel
theorem dAC_add_29 : decode bAC_add 29 = .ok (.iastore, 1) := by decide +kernel
theorem dAC_add_30 : decode bAC_add 30 = .ok (.aload_n 0, 1) := by decide +kernel
theorem dAC_add_31 : decode bAC_add 31 = .ok (.getfield 22, 3) := by decide +kernel
theorem dAC_add_34 : decode bAC_add 34 = .ok (.iload_n 2, 1) := by decide +kernel
theorem dAC_add_35 : decode bAC_add 35 = .ok (.iconst 0, 1) := by decide +kernel
theorem dAC_add_36 : decode bAC_add 36 = .ok (.iastore, 1) := by decide +kernel
theorem dAC_add_37 : decode bAC_add 37 = .ok (.aload_n 0, 1) := by decide +kernel
theorem dAC_add_38 : decode bAC_add 38 = .ok (.getfield 25, 3) := by decide +kernel
theorem dAC_add_41 : decode bAC_add 41 = .ok (.iload_n 2, 1) := by decide +kernel
theorem dAC_add_42 : decode bAC_add 42 = .ok (.lconst 0, 1) := by decide +kernel
theorem dAC_add_43 : decode bAC_add 43 = .ok (.lastore, 1) := by decide +kernel
theorem dAC_add_44 : decode bAC_add 44 = .ok (.aload_n 0, 1) := by decide +kernel
theorem dAC_add_45 : decode bAC_add 45 = .ok (.getfield 29, 3) := by decide +kernel
theorem dAC_add_48 : decode bAC_add 48 = .ok (.iload_n 2, 1) := by decide +kernel
theorem dAC_add_49 : decode bAC_add 49 = .ok (.ldc2_w 46, 3) := by decide +kernel
theorem dAC_add_52 : decode bAC_add 52 = .ok (.lastore, 1) := by decide +kernel
theorem dAC_add_53 : decode bAC_add 53 = .ok (.aload_n 0, 1) := by decide +kernel
theorem dAC_add_54 : decode bAC_add 54 = .ok (.getfield 32, 3) := by decide +kernel
theorem dAC_add_57 : decode bAC_add 57 = .ok (.iload_n 2, 1) := by decide +kernel
theorem dAC_add_58 : decode bAC_add 58 = .ok (.iconst (-1), 1) := by decide +kernel
theorem dAC_add_59 : decode bAC_add 59 = .ok (.iastore, 1) := by decide +kernel
theorem dAC_add_60 : decode bAC_add 60 = .ok (.aload_n 0, 1) := by decide +kernel
theorem dAC_add_61 : decode bAC_add 61 = .ok (.getfield 35, 3) := by decide +kernel
theorem dAC_add_64 : decode bAC_add 64 = .ok (.iload_n 2, 1) := by decide +kernel
theorem dAC_add_65 : decode bAC_add 65 = .ok (.iconst (-1), 1) := by decide +kernel
theorem dAC_add_66 : decode bAC_add 66 = .ok (.iastore, 1) := by decide +kernel
theorem dAC_add_67 : decode bAC_add 67 = .ok (.aload_n 0, 1) := by decide +kernel
theorem dAC_add_68 : decode bAC_add 68 = .ok (.dup, 1) := by decide +kernel
theorem dAC_add_69 : decode bAC_add 69 = .ok (.getfield 9, 3) := by decide +kernel
theorem dAC_add_72 : decode bAC_add 72 = .ok (.iconst 1, 1) := by decide +kernel
theorem dAC_add_73 : decode bAC_add 73 = .ok (.iadd, 1) := by decide +kernel
theorem dAC_add_74 : decode bAC_add 74 = .ok (.putfield 9, 3) := by decide +kernel
theorem dAC_add_77 : decode bAC_add 77 = .ok (.iload_n 2, 1) := by decide +kernel
theorem dAC_add_78 : decode bAC_add 78 = .ok (.ireturn, 1) := by decide +kernel
theorem dAC_copyFrom_0 : decode bAC_copyFrom 0 = .ok (.aload_n 0, 1) := by decide +kernel
theorem dAC_copyFrom_1 : decode bAC_copyFrom 1 = .ok (.aload_n 1, 1) := by decide +kernel
theorem dAC_copyFrom_2 : decode bAC_copyFrom 2 = .ok (.getfield 9, 3) := by decide +kernel
theorem dAC_copyFrom_5 : decode bAC_copyFrom 5 = .ok (.putfield 9, 3) := by decide +kernel
theorem dAC_copyFrom_8 : decode bAC_copyFrom 8 = .ok (.aload_n 1, 1) := by decide +kernel
theorem dAC_copyFrom_9 : decode bAC_copyFrom 9 = .ok (.getfield 15, 3) := by decide +kernel
theorem dAC_copyFrom_12 : decode bAC_copyFrom 12 = .ok (.aload_n 0, 1) := by decide +kernel
theorem dAC_copyFrom_13 : decode bAC_copyFrom 13 = .ok (.getfield 15, 3) := by decide +kernel
theorem dAC_copyFrom_16 : decode bAC_copyFrom 16 = .ok (.invokestatic 38, 3) := by decide +kernel
theorem dAC_copyFrom_19 : decode bAC_copyFrom 19 = .ok (.aload_n 1, 1) := by decide +kernel
theorem dAC_copyFrom_20 : decode bAC_copyFrom 20 = .ok (.getfield 19, 3) := by decide +kernel
theorem dAC_copyFrom_23 : decode bAC_copyFrom 23 = .ok (.aload_n 0, 1) := by decide +kernel
theorem dAC_copyFrom_24 : decode bAC_copyFrom 24 = .ok (.getfield 19, 3) := by decide +kernel
theorem dAC_copyFrom_27 : decode bAC_copyFrom 27 = .ok (.invokestatic 38, 3) := by decide +kernel
theorem dAC_copyFrom_30 : decode bAC_copyFrom 30 = .ok (.aload_n 1, 1) := by decide +kernel
theorem dAC_copyFrom_31 : decode bAC_copyFrom 31 = .ok (.getfield 22, 3) := by decide +kernel
theorem dAC_copyFrom_34 : decode bAC_copyFrom 34 = .ok (.aload_n 0, 1) := by decide +kernel
theorem dAC_copyFrom_35 : decode bAC_copyFrom 35 = .ok (.getfield 22, 3) := by decide +kernel
theorem dAC_copyFrom_38 : decode bAC_copyFrom 38 = .ok (.invokestatic 38, 3) := by decide +kernel
theorem dAC_copyFrom_41 : decode bAC_copyFrom 41 = .ok (.aload_n 1, 1) := by decide +kernel
theorem dAC_copyFrom_42 : decode bAC_copyFrom 42 = .ok (.getfield 25, 3) := by decide +kernel
theorem dAC_copyFrom_45 : decode bAC_copyFrom 45 = .ok (.aload_n 0, 1) := by decide +kernel
theorem dAC_copyFrom_46 : decode bAC_copyFrom 46 = .ok (.getfield 25, 3) := by decide +kernel
theorem dAC_copyFrom_49 : decode bAC_copyFrom 49 = .ok (.invokestatic 42, 3) := by decide +kernel
theorem dAC_copyFrom_52 : decode bAC_copyFrom 52 = .ok (.aload_n 1, 1) := by decide +kernel
theorem dAC_copyFrom_53 : decode bAC_copyFrom 53 = .ok (.getfield 29, 3) := by decide +kernel
theorem dAC_copyFrom_56 : decode bAC_copyFrom 56 = .ok (.aload_n 0, 1) := by decide +kernel
theorem dAC_copyFrom_57 : decode bAC_copyFrom 57 = .ok (.getfield 29, 3) := by decide +kernel
theorem dAC_copyFrom_60 : decode bAC_copyFrom 60 = .ok (.invokestatic 42, 3) := by decide +kernel
theorem dAC_copyFrom_63 : decode bAC_copyFrom 63 = .ok (.aload_n 1, 1) := by decide +kernel
theorem dAC_copyFrom_64 : decode bAC_copyFrom 64 = .ok (.getfield 32, 3) := by decide +kernel
theorem dAC_copyFrom_67 : decode bAC_copyFrom 67 = .ok (.aload_n 0, 1) := by decide +kernel
theorem dAC_copyFrom_68 : decode bAC_copyFrom 68 = .ok (.getfield 32, 3) := by decide +kernel
theorem dAC_copyFrom_71 : decode bAC_copyFrom 71 = .ok (.invokestatic 38, 3) := by decide +kernel
theorem dAC_copyFrom_74 : decode bAC_copyFrom 74 = .ok (.aload_n 1, 1) := by decide +kernel
theorem dAC_copyFrom_75 : decode bAC_copyFrom 75 = .ok (.getfield 35, 3) := by decide +kernel
theorem dAC_copyFrom_78 : decode bAC_copyFrom 78 = .ok (.aload_n 0, 1) := by decide +kernel
theorem dAC_copyFrom_79 : decode bAC_copyFrom 79 = .ok (.getfield 35, 3) := by decide +kernel
theorem dAC_copyFrom_82 : decode bAC_copyFrom 82 = .ok (.invokestatic 38, 3) := by decide +kernel
theorem dAC_copyFrom_85 : decode bAC_copyFrom 85 = .ok (.return_, 1) := by decide +kernel
theorem dAC_daysThere_0 : decode bAC_daysThere 0 = .ok (.iload_n 2, 1) := by decide +kernel
theorem dAC_daysThere_1 : decode bAC_daysThere 1 = .ok (.bipush 30, 2) := by decide +kernel
theorem dAC_daysThere_3 : decode bAC_daysThere 3 = .ok (.imul, 1) := by decide +kernel
theorem dAC_daysThere_4 : decode bAC_daysThere 4 = .ok (.istore_n 3, 1) := by decide +kernel
theorem dAC_daysThere_5 : decode bAC_daysThere 5 = .ok (.iload_n 3, 1) := by decide +kernel
theorem dAC_daysThere_6 : decode bAC_daysThere 6 = .ok (.bipush 30, 2) := by decide +kernel
theorem dAC_daysThere_8 : decode bAC_daysThere 8 = .ok (.iadd, 1) := by decide +kernel
theorem dAC_daysThere_9 : decode bAC_daysThere 9 = .ok (.istore 4, 2) := by decide +kernel
theorem dAC_daysThere_11 : decode bAC_daysThere 11 = .ok (.aload_n 0, 1) := by decide +kernel
theorem dAC_daysThere_12 : decode bAC_daysThere 12 = .ok (.getfield 32, 3) := by decide +kernel
theorem dAC_daysThere_15 : decode bAC_daysThere 15 = .ok (.iload_n 1, 1) := by decide +kernel
theorem dAC_daysThere_16 : decode bAC_daysThere 16 = .ok (.iaload, 1) := by decide +kernel
theorem dAC_daysThere_17 : decode bAC_daysThere 17 = .ok (.iconst (-1), 1) := by decide +kernel
theorem dAC_daysThere_18 : decode bAC_daysThere 18 = .ok (.if_icmp .ne 7, 3) := by decide +kernel
theorem dAC_daysThere_21 : decode bAC_daysThere 21 = .ok (.iload_n 3, 1) := by decide +kernel
theorem dAC_daysThere_22 : decode bAC_daysThere 22 = .ok (.goto 13, 3) := by decide +kernel
theorem dAC_daysThere_25 : decode bAC_daysThere 25 = .ok (.iload_n 3, 1) := by decide +kernel
theorem dAC_daysThere_26 : decode bAC_daysThere 26 = .ok (.aload_n 0, 1) := by decide +kernel
theorem dAC_daysThere_27 : decode bAC_daysThere 27 = .ok (.getfield 32, 3) := by decide +kernel
theorem dAC_daysThere_30 : decode bAC_daysThere 30 = .ok (.iload_n 1, 1) := by decide +kernel
theorem dAC_daysThere_31 : decode bAC_daysThere 31 = .ok (.iaload, 1) := by decide +kernel
theorem dAC_daysThere_32 : decode bAC_daysThere 32 = .ok (.invokestatic 58, 3) := by decide +kernel
theorem dAC_daysThere_35 : decode bAC_daysThere 35 = .ok (.istore 5, 2) := by decide +kernel
theorem dAC_daysThere_37 : decode bAC_daysThere 37 = .ok (.aload_n 0, 1) := by decide +kernel
theorem dAC_daysThere_38 : decode bAC_daysThere 38 = .ok (.getfield 35, 3) := by decide +kernel
theorem dAC_daysThere_41 : decode bAC_daysThere 41 = .ok (.iload_n 1, 1) := by decide +kernel
theorem dAC_daysThere_42 : decode bAC_daysThere 42 = .ok (.iaload, 1) := by decide +kernel
theorem dAC_daysThere_43 : decode bAC_daysThere 43 = .ok (.iconst (-1), 1) := by decide +kernel
theorem dAC_daysThere_44 : decode bAC_daysThere 44 = .ok (.if_icmp .ne 8, 3) := by decide +kernel
theorem dAC_daysThere_47 : decode bAC_daysThere 47 = .ok (.iload 4, 2) := by decide +kernel
theorem dAC_daysThere_49 : decode bAC_daysThere 49 = .ok (.goto 14, 3) := by decide +kernel
theorem dAC_daysThere_52 : decode bAC_daysThere 52 = .ok (.iload 4, 2) := by decide +kernel
theorem dAC_daysThere_54 : decode bAC_daysThere 54 = .ok (.aload_n 0, 1) := by decide +kernel
theorem dAC_daysThere_55 : decode bAC_daysThere 55 = .ok (.getfield 35, 3) := by decide +kernel
theorem dAC_daysThere_58 : decode bAC_daysThere 58 = .ok (.iload_n 1, 1) := by decide +kernel
theorem dAC_daysThere_59 : decode bAC_daysThere 59 = .ok (.iaload, 1) := by decide +kernel
theorem dAC_daysThere_60 : decode bAC_daysThere 60 = .ok (.invokestatic 52, 3) := by decide +kernel
theorem dAC_daysThere_63 : decode bAC_daysThere 63 = .ok (.istore 6, 2) := by decide +kernel
theorem dAC_daysThere_65 : decode bAC_daysThere 65 = .ok (.iconst 0, 1) := by decide +kernel
theorem dAC_daysThere_66 : decode bAC_daysThere 66 = .ok (.iload 6, 2) := by decide +kernel
theorem dAC_daysThere_68 : decode bAC_daysThere 68 = .ok (.iload 5, 2) := by decide +kernel
theorem dAC_daysThere_70 : decode bAC_daysThere 70 = .ok (.isub, 1) := by decide +kernel
theorem dAC_daysThere_71 : decode bAC_daysThere 71 = .ok (.invokestatic 58, 3) := by decide +kernel
theorem dAC_daysThere_74 : decode bAC_daysThere 74 = .ok (.ireturn, 1) := by decide +kernel
theorem dAC_firstCash_0 : decode bAC_firstCash 0 = .ok (.iconst 0, 1) := by decide +kernel
theorem dAC_firstCash_1 : decode bAC_firstCash 1 = .ok (.istore_n 1, 1) := by decide +kernel
theorem dAC_firstCash_2 : decode bAC_firstCash 2 = .ok (.iload_n 1, 1) := by decide +kernel
theorem dAC_firstCash_3 : decode bAC_firstCash 3 = .ok (.aload_n 0, 1) := by decide +kernel
theorem dAC_firstCash_4 : decode bAC_firstCash 4 = .ok (.getfield 9, 3) := by decide +kernel
theorem dAC_firstCash_7 : decode bAC_firstCash 7 = .ok (.if_icmp .ge 20, 3) := by decide +kernel
theorem dAC_firstCash_10 : decode bAC_firstCash 10 = .ok (.aload_n 0, 1) := by decide +kernel
theorem dAC_firstCash_11 : decode bAC_firstCash 11 = .ok (.getfield 15, 3) := by decide +kernel
theorem dAC_firstCash_14 : decode bAC_firstCash 14 = .ok (.iload_n 1, 1) := by decide +kernel
theorem dAC_firstCash_15 : decode bAC_firstCash 15 = .ok (.iaload, 1) := by decide +kernel
theorem dAC_firstCash_16 : decode bAC_firstCash 16 = .ok (.ifCond .ne 5, 3) := by decide +kernel
theorem dAC_firstCash_19 : decode bAC_firstCash 19 = .ok (.iload_n 1, 1) := by decide +kernel
theorem dAC_firstCash_20 : decode bAC_firstCash 20 = .ok (.ireturn, 1) := by decide +kernel
theorem dAC_firstCash_21 : decode bAC_firstCash 21 = .ok (.iinc 1 1, 3) := by decide +kernel
theorem dAC_firstCash_24 : decode bAC_firstCash 24 = .ok (.goto (-22), 3) := by decide +kernel
theorem dAC_firstCash_27 : decode bAC_firstCash 27 = .ok (.iconst (-1), 1) := by decide +kernel
theorem dAC_firstCash_28 : decode bAC_firstCash 28 = .ok (.ireturn, 1) := by decide +kernel
theorem dAC_has_0 : decode bAC_has 0 = .ok (.iload_n 1, 1) := by decide +kernel
theorem dAC_has_1 : decode bAC_has 1 = .ok (.ifCond .lt 15, 3) := by decide +kernel
theorem dAC_has_4 : decode bAC_has 4 = .ok (.iload_n 1, 1) := by decide +kernel
theorem dAC_has_5 : decode bAC_has 5 = .ok (.aload_n 0, 1) := by decide +kernel
theorem dAC_has_6 : decode bAC_has 6 = .ok (.getfield 9, 3) := by decide +kernel
theorem dAC_has_9 : decode bAC_has 9 = .ok (.if_icmp .ge 7, 3) := by decide +kernel
theorem dAC_has_12 : decode bAC_has 12 = .ok (.iconst 1, 1) := by decide +kernel
theorem dAC_has_13 : decode bAC_has 13 = .ok (.goto 4, 3) := by decide +kernel
theorem dAC_has_16 : decode bAC_has 16 = .ok (.iconst 0, 1) := by decide +kernel
theorem dAC_has_17 : decode bAC_has 17 = .ok (.ireturn, 1) := by decide +kernel
theorem dAC_hasHousehold_0 : decode bAC_hasHousehold 0 = .ok (.aload_n 0, 1) := by decide +kernel
theorem dAC_hasHousehold_1 : decode bAC_hasHousehold 1 = .ok (.iload_n 1, 1) := by decide +kernel
theorem dAC_hasHousehold_2 : decode bAC_hasHousehold 2 = .ok (.invokevirtual 48, 3) := by decide +kernel
theorem dAC_hasHousehold_5 : decode bAC_hasHousehold 5 = .ok (.ifCond .eq 17, 3) := by decide +kernel
theorem dAC_hasHousehold_8 : decode bAC_hasHousehold 8 = .ok (.aload_n 0, 1) := by decide +kernel
theorem dAC_hasHousehold_9 : decode bAC_hasHousehold 9 = .ok (.getfield 15, 3) := by decide +kernel
theorem dAC_hasHousehold_12 : decode bAC_hasHousehold 12 = .ok (.iload_n 1, 1) := by decide +kernel
theorem dAC_hasHousehold_13 : decode bAC_hasHousehold 13 = .ok (.iaload, 1) := by decide +kernel
theorem dAC_hasHousehold_14 : decode bAC_hasHousehold 14 = .ok (.iconst 1, 1) := by decide +kernel
theorem dAC_hasHousehold_15 : decode bAC_hasHousehold 15 = .ok (.if_icmp .ne 7, 3) := by decide +kernel
theorem dAC_hasHousehold_18 : decode bAC_hasHousehold 18 = .ok (.iconst 1, 1) := by decide +kernel
theorem dAC_hasHousehold_19 : decode bAC_hasHousehold 19 = .ok (.goto 4, 3) := by decide +kernel
theorem dAC_hasHousehold_22 : decode bAC_hasHousehold 22 = .ok (.iconst 0, 1) := by decide +kernel
theorem dAC_hasHousehold_23 : decode bAC_hasHousehold 23 = .ok (.ireturn, 1) := by decide +kernel
theorem dAC_hasMoved_0 : decode bAC_hasMoved 0 = .ok (.aload_n 0, 1) := by decide +kernel
theorem dAC_hasMoved_1 : decode bAC_hasMoved 1 = .ok (.getfield 32, 3) := by decide +kernel
theorem dAC_hasMoved_4 : decode bAC_hasMoved 4 = .ok (.iload_n 1, 1) := by decide +kernel
theorem dAC_hasMoved_5 : decode bAC_hasMoved 5 = .ok (.iaload, 1) := by decide +kernel
theorem dAC_hasMoved_6 : decode bAC_hasMoved 6 = .ok (.iconst (-1), 1) := by decide +kernel
theorem dAC_hasMoved_7 : decode bAC_hasMoved 7 = .ok (.if_icmp .ne 13, 3) := by decide +kernel
theorem dAC_hasMoved_10 : decode bAC_hasMoved 10 = .ok (.aload_n 0, 1) := by decide +kernel
theorem dAC_hasMoved_11 : decode bAC_hasMoved 11 = .ok (.getfield 35, 3) := by decide +kernel
theorem dAC_hasMoved_14 : decode bAC_hasMoved 14 = .ok (.iload_n 1, 1) := by decide +kernel
theorem dAC_hasMoved_15 : decode bAC_hasMoved 15 = .ok (.iaload, 1) := by decide +kernel
theorem dAC_hasMoved_16 : decode bAC_hasMoved 16 = .ok (.iconst (-1), 1) := by decide +kernel
theorem dAC_hasMoved_17 : decode bAC_hasMoved 17 = .ok (.if_icmp .eq 7, 3) := by decide +kernel
theorem dAC_hasMoved_20 : decode bAC_hasMoved 20 = .ok (.iconst 1, 1) := by decide +kernel
theorem dAC_hasMoved_21 : decode bAC_hasMoved 21 = .ok (.goto 4, 3) := by decide +kernel
theorem dAC_hasMoved_24 : decode bAC_hasMoved 24 = .ok (.iconst 0, 1) := by decide +kernel
theorem dAC_hasMoved_25 : decode bAC_hasMoved 25 = .ok (.ireturn, 1) := by decide +kernel
theorem dAC_mayStep_0 : decode bAC_mayStep 0 = .ok (.iload_n 2, 1) := by decide +kernel
theorem dAC_mayStep_1 : decode bAC_mayStep 1 = .ok (.i2l, 1) := by decide +kernel
theorem dAC_mayStep_2 : decode bAC_mayStep 2 = .ok (.aload_n 0, 1) := by decide +kernel
theorem dAC_mayStep_3 : decode bAC_mayStep 3 = .ok (.getfield 25, 3) := by decide +kernel
theorem dAC_mayStep_6 : decode bAC_mayStep 6 = .ok (.iload_n 1, 1) := by decide +kernel
theorem dAC_mayStep_7 : decode bAC_mayStep 7 = .ok (.laload, 1) := by decide +kernel
theorem dAC_mayStep_8 : decode bAC_mayStep 8 = .ok (.lcmp, 1) := by decide +kernel
theorem dAC_mayStep_9 : decode bAC_mayStep 9 = .ok (.ifCond .lt 17, 3) := by decide +kernel
theorem dAC_mayStep_12 : decode bAC_mayStep 12 = .ok (.iload_n 2, 1) := by decide +kernel
theorem dAC_mayStep_13 : decode bAC_mayStep 13 = .ok (.i2l, 1) := by decide +kernel
theorem dAC_mayStep_14 : decode bAC_mayStep 14 = .ok (.aload_n 0, 1) := by decide +kernel
theorem dAC_mayStep_15 : decode bAC_mayStep 15 = .ok (.getfield 29, 3) := by decide +kernel
theorem dAC_mayStep_18 : decode bAC_mayStep 18 = .ok (.iload_n 1, 1) := by decide +kernel
theorem dAC_mayStep_19 : decode bAC_mayStep 19 = .ok (.laload, 1) := by decide +kernel
theorem dAC_mayStep_20 : decode bAC_mayStep 20 = .ok (.lcmp, 1) := by decide +kernel
theorem dAC_mayStep_21 : decode bAC_mayStep 21 = .ok (.ifCond .gt 5, 3) := by decide +kernel
theorem dAC_mayStep_24 : decode bAC_mayStep 24 = .ok (.iconst 0, 1) := by decide +kernel
theorem dAC_mayStep_25 : decode bAC_mayStep 25 = .ok (.ireturn, 1) := by decide +kernel
theorem dAC_mayStep_26 : decode bAC_mayStep 26 = .ok (.aload_n 0, 1) := by decide +kernel
theorem dAC_mayStep_27 : decode bAC_mayStep 27 = .ok (.getfield 19, 3) := by decide +kernel
theorem dAC_mayStep_30 : decode bAC_mayStep 30 = .ok (.iload_n 1, 1) := by decide +kernel
theorem dAC_mayStep_31 : decode bAC_mayStep 31 = .ok (.iaload, 1) := by decide +kernel
theorem dAC_mayStep_32 : decode bAC_mayStep 32 = .ok (.ifCond .eq 16, 3) := by decide +kernel
theorem dAC_mayStep_35 : decode bAC_mayStep 35 = .ok (.iload_n 2, 1) := by decide +kernel
theorem dAC_mayStep_36 : decode bAC_mayStep 36 = .ok (.aload_n 0, 1) := by decide +kernel
theorem dAC_mayStep_37 : decode bAC_mayStep 37 = .ok (.getfield 22, 3) := by decide +kernel
theorem dAC_mayStep_40 : decode bAC_mayStep 40 = .ok (.iload_n 1, 1) := by decide +kernel
theorem dAC_mayStep_41 : decode bAC_mayStep 41 = .ok (.iaload, 1) := by decide +kernel
theorem dAC_mayStep_42 : decode bAC_mayStep 42 = .ok (.isub, 1) := by decide +kernel
theorem dAC_mayStep_43 : decode bAC_mayStep 43 = .ok (.bipush 14, 2) := by decide +kernel
theorem dAC_mayStep_45 : decode bAC_mayStep 45 = .ok (.if_icmp .lt 7, 3) := by decide +kernel
theorem dAC_mayStep_48 : decode bAC_mayStep 48 = .ok (.iconst 1, 1) := by decide +kernel
theorem dAC_mayStep_49 : decode bAC_mayStep 49 = .ok (.goto 4, 3) := by decide +kernel
theorem dAC_mayStep_52 : decode bAC_mayStep 52 = .ok (.iconst 0, 1) := by decide +kernel
theorem dAC_mayStep_53 : decode bAC_mayStep 53 = .ok (.ireturn, 1) := by decide +kernel
theorem dAC_stepUp_0 : decode bAC_stepUp 0 = .ok (.aload_n 0, 1) := by decide +kernel
theorem dAC_stepUp_1 : decode bAC_stepUp 1 = .ok (.getfield 19, 3) := by decide +kernel
theorem dAC_stepUp_4 : decode bAC_stepUp 4 = .ok (.iload_n 1, 1) := by decide +kernel
theorem dAC_stepUp_5 : decode bAC_stepUp 5 = .ok (.iconst 3, 1) := by decide +kernel
theorem dAC_stepUp_6 : decode bAC_stepUp 6 = .ok (.aload_n 0, 1) := by decide +kernel
theorem dAC_stepUp_7 : decode bAC_stepUp 7 = .ok (.getfield 19, 3) := by decide +kernel
theorem dAC_stepUp_10 : decode bAC_stepUp 10 = .ok (.iload_n 1, 1) := by decide +kernel
theorem dAC_stepUp_11 : decode bAC_stepUp 11 = .ok (.iaload, 1) := by decide +kernel
theorem dAC_stepUp_12 : decode bAC_stepUp 12 = .ok (.iconst 1, 1) := by decide +kernel
theorem dAC_stepUp_13 : decode bAC_stepUp 13 = .ok (.iadd, 1) := by decide +kernel
theorem dAC_stepUp_14 : decode bAC_stepUp 14 = .ok (.invokestatic 52, 3) := by decide +kernel
theorem dAC_stepUp_17 : decode bAC_stepUp 17 = .ok (.iastore, 1) := by decide +kernel
theorem dAC_stepUp_18 : decode bAC_stepUp 18 = .ok (.aload_n 0, 1) := by decide +kernel
theorem dAC_stepUp_19 : decode bAC_stepUp 19 = .ok (.getfield 22, 3) := by decide +kernel
theorem dAC_stepUp_22 : decode bAC_stepUp 22 = .ok (.iload_n 1, 1) := by decide +kernel
theorem dAC_stepUp_23 : decode bAC_stepUp 23 = .ok (.iload_n 2, 1) := by decide +kernel
theorem dAC_stepUp_24 : decode bAC_stepUp 24 = .ok (.iastore, 1) := by decide +kernel
theorem dAC_stepUp_25 : decode bAC_stepUp 25 = .ok (.return_, 1) := by decide +kernel
theorem dBO_init_0 : decode bBO_init 0 = .ok (.aload_n 0, 1) := by decide +kernel
theorem dBO_init_1 : decode bBO_init 1 = .ok (.invokespecial 3, 3) := by decide +kernel
theorem dBO_init_4 : decode bBO_init 4 = .ok (.aload_n 0, 1) := by decide +kernel
theorem dBO_init_5 : decode bBO_init 5 = .ok (.new 9, 3) := by decide +kernel
theorem dBO_init_8 : decode bBO_init 8 = .ok (.dup, 1) := by decide +kernel
theorem dBO_init_9 : decode bBO_init 9 = .ok (.invokespecial 11, 3) := by decide +kernel
theorem dBO_init_12 : decode bBO_init 12 = .ok (.putfield 12, 3) := by decide +kernel
theorem dBO_init_15 : decode bBO_init 15 = .ok (.aload_n 0, 1) := by decide +kernel
theorem dBO_init_16 : decode bBO_init 16 = .ok (.new 18, 3) := by decide +kernel
theorem dBO_init_19 : decode bBO_init 19 = .ok (.dup, 1) := by decide +kernel
theorem dBO_init_20 : decode bBO_init 20 = .ok (.invokespecial 20, 3) := by decide +kernel
theorem dBO_init_23 : decode bBO_init 23 = .ok (.putfield 21, 3) := by decide +kernel
theorem dBO_init_26 : decode bBO_init 26 = .ok (.aload_n 0, 1) := by decide +kernel
theorem dBO_init_27 : decode bBO_init 27 = .ok (.new 25, 3) := by decide +kernel
theorem dBO_init_30 : decode bBO_init 30 = .ok (.dup, 1) := by decide +kernel
theorem dBO_init_31 : decode bBO_init 31 = .ok (.invokespecial 27, 3) := by decide +kernel
theorem dBO_init_34 : decode bBO_init 34 = .ok (.putfield 28, 3) := by decide +kernel
theorem dBO_init_37 : decode bBO_init 37 = .ok (.aload_n 0, 1) := by decide +kernel
theorem dBO_init_38 : decode bBO_init 38 = .ok (.bipush 20, 2) := by decide +kernel
theorem dBO_init_40 : decode bBO_init 40 = .ok (.newarray .long, 2) := by decide +kernel
theorem dBO_init_42 : decode bBO_init 42 = .ok (.putfield 32, 3) := by decide +kernel
theorem dBO_init_45 : decode bBO_init 45 = .ok (.aload_n 0, 1) := by decide +kernel
theorem dBO_init_46 : decode bBO_init 46 = .ok (.iconst 0, 1) := by decide +kernel
theorem dBO_init_47 : decode bBO_init 47 = .ok (.putfield 36, 3) := by decide +kernel
theorem dBO_init_50 : decode bBO_init 50 = .ok (.aload_n 0, 1) := by decide +kernel
theorem dBO_init_51 : decode bBO_init 51 = .ok (.iconst 0, 1) := by decide +kernel
theorem dBO_init_52 : decode bBO_init 52 = .ok (.putfield 40, 3) := by decide +kernel
theorem dBO_init_55 : decode bBO_init 55 = .ok (.aload_n 0, 1) := by decide +kernel
theorem dBO_init_56 : decode bBO_init 56 = .ok (.lconst 0, 1) := by decide +kernel
theorem dBO_init_57 : decode bBO_init 57 = .ok (.putfield 43, 3) := by decide +kernel
theorem dBO_init_60 : decode bBO_init 60 = .ok (.aload_n 0, 1) := by decide +kernel
theorem dBO_init_61 : decode bBO_init 61 = .ok (.lconst 1, 1) := by decide +kernel
theorem dBO_init_62 : decode bBO_init 62 = .ok (.putfield 47, 3) := by decide +kernel
theorem dBO_init_65 : decode bBO_init 65 = .ok (.return_, 1) := by decide +kernel
theorem dBO_copyFrom_0 : decode bBO_copyFrom 0 = .ok (.aload_n 0, 1) := by decide +kernel
theorem dBO_copyFrom_1 : decode bBO_copyFrom 1 = .ok (.getfield 12, 3) := by decide +kernel
theorem dBO_copyFrom_4 : decode bBO_copyFrom 4 = .ok (.aload_n 1, 1) := by decide +kernel
theorem dBO_copyFrom_5 : decode bBO_copyFrom 5 = .ok (.getfield 12, 3) := by decide +kernel
theorem dBO_copyFrom_8 : decode bBO_copyFrom 8 = .ok (.invokevirtual 50, 3) := by decide +kernel
theorem dBO_copyFrom_11 : decode bBO_copyFrom 11 = .ok (.aload_n 0, 1) := by decide +kernel
theorem dBO_copyFrom_12 : decode bBO_copyFrom 12 = .ok (.getfield 21, 3) := by decide +kernel
theorem dBO_copyFrom_15 : decode bBO_copyFrom 15 = .ok (.aload_n 1, 1) := by decide +kernel
theorem dBO_copyFrom_16 : decode bBO_copyFrom 16 = .ok (.getfield 21, 3) := by decide +kernel
theorem dBO_copyFrom_19 : decode bBO_copyFrom 19 = .ok (.invokevirtual 54, 3) := by decide +kernel
theorem dBO_copyFrom_22 : decode bBO_copyFrom 22 = .ok (.aload_n 0, 1) := by decide +kernel
theorem dBO_copyFrom_23 : decode bBO_copyFrom 23 = .ok (.getfield 28, 3) := by decide +kernel
theorem dBO_copyFrom_26 : decode bBO_copyFrom 26 = .ok (.aload_n 1, 1) := by decide +kernel
theorem dBO_copyFrom_27 : decode bBO_copyFrom 27 = .ok (.getfield 28, 3) := by decide +kernel
theorem dBO_copyFrom_30 : decode bBO_copyFrom 30 = .ok (.invokevirtual 57, 3) := by decide +kernel
theorem dBO_copyFrom_33 : decode bBO_copyFrom 33 = .ok (.aload_n 1, 1) := by decide +kernel
theorem dBO_copyFrom_34 : decode bBO_copyFrom 34 = .ok (.getfield 32, 3) := by decide +kernel
theorem dBO_copyFrom_37 : decode bBO_copyFrom 37 = .ok (.aload_n 0, 1) := by decide +kernel
theorem dBO_copyFrom_38 : decode bBO_copyFrom 38 = .ok (.getfield 32, 3) := by decide +kernel
theorem dBO_copyFrom_41 : decode bBO_copyFrom 41 = .ok (.invokestatic 60, 3) := by decide +kernel
theorem dBO_copyFrom_44 : decode bBO_copyFrom 44 = .ok (.aload_n 0, 1) := by decide +kernel
theorem dBO_copyFrom_45 : decode bBO_copyFrom 45 = .ok (.aload_n 1, 1) := by decide +kernel
theorem dBO_copyFrom_46 : decode bBO_copyFrom 46 = .ok (.getfield 36, 3) := by decide +kernel
theorem dBO_copyFrom_49 : decode bBO_copyFrom 49 = .ok (.putfield 36, 3) := by decide +kernel
theorem dBO_copyFrom_52 : decode bBO_copyFrom 52 = .ok (.aload_n 0, 1) := by decide +kernel
theorem dBO_copyFrom_53 : decode bBO_copyFrom 53 = .ok (.aload_n 1, 1) := by decide +kernel
theorem dBO_copyFrom_54 : decode bBO_copyFrom 54 = .ok (.getfield 40, 3) := by decide +kernel
theorem dBO_copyFrom_57 : decode bBO_copyFrom 57 = .ok (.putfield 40, 3) := by decide +kernel
theorem dBO_copyFrom_60 : decode bBO_copyFrom 60 = .ok (.aload_n 0, 1) := by decide +kernel
theorem dBO_copyFrom_61 : decode bBO_copyFrom 61 = .ok (.aload_n 1, 1) := by decide +kernel
theorem dBO_copyFrom_62 : decode bBO_copyFrom 62 = .ok (.getfield 43, 3) := by decide +kernel
theorem dBO_copyFrom_65 : decode bBO_copyFrom 65 = .ok (.putfield 43, 3) := by decide +kernel
theorem dBO_copyFrom_68 : decode bBO_copyFrom 68 = .ok (.aload_n 0, 1) := by decide +kernel
theorem dBO_copyFrom_69 : decode bBO_copyFrom 69 = .ok (.aload_n 1, 1) := by decide +kernel
theorem dBO_copyFrom_70 : decode bBO_copyFrom 70 = .ok (.getfield 47, 3) := by decide +kernel
theorem dBO_copyFrom_73 : decode bBO_copyFrom 73 = .ok (.putfield 47, 3) := by decide +kernel
theorem dBO_copyFrom_76 : decode bBO_copyFrom 76 = .ok (.return_, 1) := by decide +kernel
theorem dBO_incomeOf_0 : decode bBO_incomeOf 0 = .ok (.lconst 0, 1) := by decide +kernel
theorem dBO_incomeOf_1 : decode bBO_incomeOf 1 = .ok (.lstore_n 2, 1) := by decide +kernel
theorem dBO_incomeOf_2 : decode bBO_incomeOf 2 = .ok (.iconst 0, 1) := by decide +kernel
theorem dBO_incomeOf_3 : decode bBO_incomeOf 3 = .ok (.istore 4, 2) := by decide +kernel
theorem dBO_incomeOf_5 : decode bBO_incomeOf 5 = .ok (.iload 4, 2) := by decide +kernel
theorem dBO_incomeOf_7 : decode bBO_incomeOf 7 = .ok (.aload_n 0, 1) := by decide +kernel
theorem dBO_incomeOf_8 : decode bBO_incomeOf 8 = .ok (.getfield 12, 3) := by decide +kernel
theorem dBO_incomeOf_11 : decode bBO_incomeOf 11 = .ok (.getfield 86, 3) := by decide +kernel
theorem dBO_incomeOf_14 : decode bBO_incomeOf 14 = .ok (.if_icmp .ge 36, 3) := by decide +kernel
theorem dBO_incomeOf_17 : decode bBO_incomeOf 17 = .ok (.aload_n 0, 1) := by decide +kernel
theorem dBO_incomeOf_18 : decode bBO_incomeOf 18 = .ok (.getfield 12, 3) := by decide +kernel
theorem dBO_incomeOf_21 : decode bBO_incomeOf 21 = .ok (.getfield 89, 3) := by decide +kernel
theorem dBO_incomeOf_24 : decode bBO_incomeOf 24 = .ok (.iload 4, 2) := by decide +kernel
theorem dBO_incomeOf_26 : decode bBO_incomeOf 26 = .ok (.iaload, 1) := by decide +kernel
theorem dBO_incomeOf_27 : decode bBO_incomeOf 27 = .ok (.iconst 2, 1) := by decide +kernel
theorem dBO_incomeOf_28 : decode bBO_incomeOf 28 = .ok (.if_icmp .ne 16, 3) := by decide +kernel
theorem dBO_incomeOf_31 : decode bBO_incomeOf 31 = .ok (.lload_n 2, 1) := by decide +kernel
theorem dBO_incomeOf_32 : decode bBO_incomeOf 32 = .ok (.aload_n 0, 1) := by decide +kernel
theorem dBO_incomeOf_33 : decode bBO_incomeOf 33 = .ok (.getfield 21, 3) := by decide +kernel
theorem dBO_incomeOf_36 : decode bBO_incomeOf 36 = .ok (.iload 4, 2) := by decide +kernel
theorem dBO_incomeOf_38 : decode bBO_incomeOf 38 = .ok (.iload_n 1, 1) := by decide +kernel
theorem dBO_incomeOf_39 : decode bBO_incomeOf 39 = .ok (.invokevirtual 92, 3) := by decide +kernel
theorem dBO_incomeOf_42 : decode bBO_incomeOf 42 = .ok (.ladd, 1) := by decide +kernel
theorem dBO_incomeOf_43 : decode bBO_incomeOf 43 = .ok (.lstore_n 2, 1) := by decide +kernel
theorem dBO_incomeOf_44 : decode bBO_incomeOf 44 = .ok (.iinc 4 1, 3) := by decide +kernel
theorem dBO_incomeOf_47 : decode bBO_incomeOf 47 = .ok (.goto (-42), 3) := by decide +kernel
theorem dBO_incomeOf_50 : decode bBO_incomeOf 50 = .ok (.lload_n 2, 1) := by decide +kernel
theorem dBO_incomeOf_51 : decode bBO_incomeOf 51 = .ok (.lreturn, 1) := by decide +kernel
theorem dBO_isUnclosedDay_0 : decode bBO_isUnclosedDay 0 = .ok (.lload_n 1, 1) := by decide +kernel
theorem dBO_isUnclosedDay_1 : decode bBO_isUnclosedDay 1 = .ok (.invokestatic 64, 3) := by decide +kernel
theorem dBO_isUnclosedDay_4 : decode bBO_isUnclosedDay 4 = .ok (.ifCond .eq 21, 3) := by decide +kernel
theorem dBO_isUnclosedDay_7 : decode bBO_isUnclosedDay 7 = .ok (.lload_n 1, 1) := by decide +kernel
theorem dBO_isUnclosedDay_8 : decode bBO_isUnclosedDay 8 = .ok (.ldc2_w 68, 3) := by decide +kernel
theorem dBO_isUnclosedDay_11 : decode bBO_isUnclosedDay 11 = .ok (.ldiv, 1) := by decide +kernel
theorem dBO_isUnclosedDay_12 : decode bBO_isUnclosedDay 12 = .ok (.aload_n 0, 1) := by decide +kernel
theorem dBO_isUnclosedDay_13 : decode bBO_isUnclosedDay 13 = .ok (.getfield 40, 3) := by decide +kernel
theorem dBO_isUnclosedDay_16 : decode bBO_isUnclosedDay 16 = .ok (.i2l, 1) := by decide +kernel
theorem dBO_isUnclosedDay_17 : decode bBO_isUnclosedDay 17 = .ok (.lcmp, 1) := by decide +kernel
theorem dBO_isUnclosedDay_18 : decode bBO_isUnclosedDay 18 = .ok (.ifCond .lt 7, 3) := by decide +kernel
theorem dBO_isUnclosedDay_21 : decode bBO_isUnclosedDay 21 = .ok (.iconst 1, 1) := by decide +kernel
theorem dBO_isUnclosedDay_22 : decode bBO_isUnclosedDay 22 = .ok (.goto 4, 3) := by decide +kernel
theorem dBO_isUnclosedDay_25 : decode bBO_isUnclosedDay 25 = .ok (.iconst 0, 1) := by decide +kernel
theorem dBO_isUnclosedDay_26 : decode bBO_isUnclosedDay 26 = .ok (.ireturn, 1) := by decide +kernel
theorem dBO_keepFound_0 : decode bBO_keepFound 0 = .ok (.aload_n 0, 1) := by decide +kernel
theorem dBO_keepFound_1 : decode bBO_keepFound 1 = .ok (.getfield 36, 3) := by decide +kernel
theorem dBO_keepFound_4 : decode bBO_keepFound 4 = .ok (.bipush 20, 2) := by decide +kernel
theorem dBO_keepFound_6 : decode bBO_keepFound 6 = .ok (.if_icmp .ge 23, 3) := by decide +kernel
theorem dBO_keepFound_9 : decode bBO_keepFound 9 = .ok (.aload_n 0, 1) := by decide +kernel
theorem dBO_keepFound_10 : decode bBO_keepFound 10 = .ok (.getfield 32, 3) := by decide +kernel
theorem dBO_keepFound_13 : decode bBO_keepFound 13 = .ok (.aload_n 0, 1) := by decide +kernel
theorem dBO_keepFound_14 : decode bBO_keepFound 14 = .ok (.getfield 36, 3) := by decide +kernel
theorem dBO_keepFound_17 : decode bBO_keepFound 17 = .ok (.lload_n 1, 1) := by decide +kernel
theorem dBO_keepFound_18 : decode bBO_keepFound 18 = .ok (.lastore, 1) := by decide +kernel
theorem dBO_keepFound_19 : decode bBO_keepFound 19 = .ok (.aload_n 0, 1) := by decide +kernel
theorem dBO_keepFound_20 : decode bBO_keepFound 20 = .ok (.dup, 1) := by decide +kernel
theorem dBO_keepFound_21 : decode bBO_keepFound 21 = .ok (.getfield 36, 3) := by decide +kernel
theorem dBO_keepFound_24 : decode bBO_keepFound 24 = .ok (.iconst 1, 1) := by decide +kernel
theorem dBO_keepFound_25 : decode bBO_keepFound 25 = .ok (.iadd, 1) := by decide +kernel
theorem dBO_keepFound_26 : decode bBO_keepFound 26 = .ok (.putfield 36, 3) := by decide +kernel
theorem dBO_keepFound_29 : decode bBO_keepFound 29 = .ok (.return_, 1) := by decide +kernel
theorem dBO_makeItems_0 : decode bBO_makeItems 0 = .ok (.iload_n 1, 1) := by decide +kernel
theorem dBO_makeItems_1 : decode bBO_makeItems 1 = .ok (.bipush 6, 2) := by decide +kernel
theorem dBO_makeItems_3 : decode bBO_makeItems 3 = .ok (.imul, 1) := by decide +kernel
theorem dBO_makeItems_4 : decode bBO_makeItems 4 = .ok (.istore_n 2, 1) := by decide +kernel
theorem dBO_makeItems_5 : decode bBO_makeItems 5 = .ok (.iload_n 2, 1) := by decide +kernel
theorem dBO_makeItems_6 : decode bBO_makeItems 6 = .ok (.aload_n 0, 1) := by decide +kernel
theorem dBO_makeItems_7 : decode bBO_makeItems 7 = .ok (.getfield 21, 3) := by decide +kernel
theorem dBO_makeItems_10 : decode bBO_makeItems 10 = .ok (.getfield 70, 3) := by decide +kernel
theorem dBO_makeItems_13 : decode bBO_makeItems 13 = .ok (.iload_n 1, 1) := by decide +kernel
theorem dBO_makeItems_14 : decode bBO_makeItems 14 = .ok (.iaload, 1) := by decide +kernel
theorem dBO_makeItems_15 : decode bBO_makeItems 15 = .ok (.iadd, 1) := by decide +kernel
theorem dBO_makeItems_16 : decode bBO_makeItems 16 = .ok (.istore_n 3, 1) := by decide +kernel
theorem dBO_makeItems_17 : decode bBO_makeItems 17 = .ok (.iload_n 2, 1) := by decide +kernel
theorem dBO_makeItems_18 : decode bBO_makeItems 18 = .ok (.istore 4, 2) := by decide +kernel
theorem dBO_makeItems_20 : decode bBO_makeItems 20 = .ok (.iload 4, 2) := by decide +kernel
theorem dBO_makeItems_22 : decode bBO_makeItems 22 = .ok (.iload_n 3, 1) := by decide +kernel
theorem dBO_makeItems_23 : decode bBO_makeItems 23 = .ok (.if_icmp .ge 64, 3) := by decide +kernel
theorem dBO_makeItems_26 : decode bBO_makeItems 26 = .ok (.aload_n 0, 1) := by decide +kernel
theorem dBO_makeItems_27 : decode bBO_makeItems 27 = .ok (.getfield 21, 3) := by decide +kernel
theorem dBO_makeItems_30 : decode bBO_makeItems 30 = .ok (.getfield 74, 3) := by decide +kernel
theorem dBO_makeItems_33 : decode bBO_makeItems 33 = .ok (.iload 4, 2) := by decide +kernel
theorem dBO_makeItems_35 : decode bBO_makeItems 35 = .ok (.laload, 1) := by decide +kernel
theorem dBO_makeItems_36 : decode bBO_makeItems 36 = .ok (.lconst 0, 1) := by decide +kernel
theorem dBO_makeItems_37 : decode bBO_makeItems 37 = .ok (.lcmp, 1) := by decide +kernel
theorem dBO_makeItems_38 : decode bBO_makeItems 38 = .ok (.ifCond .le 43, 3) := by decide +kernel
theorem dBO_makeItems_41 : decode bBO_makeItems 41 = .ok (.aload_n 0, 1) := by decide +kernel
theorem dBO_makeItems_42 : decode bBO_makeItems 42 = .ok (.getfield 12, 3) := by decide +kernel
theorem dBO_makeItems_45 : decode bBO_makeItems 45 = .ok (.aload_n 0, 1) := by decide +kernel
theorem dBO_makeItems_46 : decode bBO_makeItems 46 = .ok (.getfield 21, 3) := by decide +kernel
theorem dBO_makeItems_49 : decode bBO_makeItems 49 = .ok (.getfield 77, 3) := by decide +kernel
theorem dBO_makeItems_52 : decode bBO_makeItems 52 = .ok (.iload 4, 2) := by decide +kernel
theorem dBO_makeItems_54 : decode bBO_makeItems 54 = .ok (.iaload, 1) := by decide +kernel
theorem dBO_makeItems_55 : decode bBO_makeItems 55 = .ok (.invokevirtual 79, 3) := by decide +kernel
theorem dBO_makeItems_58 : decode bBO_makeItems 58 = .ok (.ifCond .eq 23, 3) := by decide +kernel
theorem dBO_makeItems_61 : decode bBO_makeItems 61 = .ok (.aload_n 0, 1) := by decide +kernel
theorem dBO_makeItems_62 : decode bBO_makeItems 62 = .ok (.getfield 21, 3) := by decide +kernel
theorem dBO_makeItems_65 : decode bBO_makeItems 65 = .ok (.getfield 83, 3) := by decide +kernel
theorem dBO_makeItems_68 : decode bBO_makeItems 68 = .ok (.iload 4, 2) := by decide +kernel
theorem dBO_makeItems_70 : decode bBO_makeItems 70 = .ok (.aload_n 0, 1) := by decide +kernel
theorem dBO_makeItems_71 : decode bBO_makeItems 71 = .ok (.getfield 21, 3) := by decide +kernel
theorem dBO_makeItems_74 : decode bBO_makeItems 74 = .ok (.getfield 74, 3) := by decide +kernel
theorem dBO_makeItems_77 : decode bBO_makeItems 77 = .ok (.iload 4, 2) := by decide +kernel
theorem dBO_makeItems_79 : decode bBO_makeItems 79 = .ok (.laload, 1) := by decide +kernel
theorem dBO_makeItems_80 : decode bBO_makeItems 80 = .ok (.lastore, 1) := by decide +kernel
theorem dBO_makeItems_81 : decode bBO_makeItems 81 = .ok (.iinc 4 1, 3) := by decide +kernel
theorem dBO_makeItems_84 : decode bBO_makeItems 84 = .ok (.goto (-64), 3) := by decide +kernel
theorem dBO_makeItems_87 : decode bBO_makeItems 87 = .ok (.return_, 1) := by decide +kernel
theorem dHL_init_0 : decode bHL_init 0 = .ok (.aload_n 0, 1) := by decide +kernel
theorem dHL_init_1 : decode bHL_init 1 = .ok (.invokespecial 1, 3) := by decide +kernel
theorem dHL_init_4 : decode bHL_init 4 = .ok (.aload_n 0, 1) := by decide +kernel
theorem dHL_init_5 : decode bHL_init 5 = .ok (.new 7, 3) := by decide +kernel
theorem dHL_init_8 : decode bHL_init 8 = .ok (.dup, 1) := by decide +kernel
theorem dHL_init_9 : decode bHL_init 9 = .ok (.invokespecial 9, 3) := by decide +kernel
theorem dHL_init_12 : decode bHL_init 12 = .ok (.putfield 10, 3) := by decide +kernel
theorem dHL_init_15 : decode bHL_init 15 = .ok (.aload_n 0, 1) := by decide +kernel
theorem dHL_init_16 : decode bHL_init 16 = .ok (.new 7, 3) := by decide +kernel
theorem dHL_init_19 : decode bHL_init 19 = .ok (.dup, 1) := by decide +kernel
theorem dHL_init_20 : decode bHL_init 20 = .ok (.invokespecial 9, 3) := by decide +kernel
theorem dHL_init_23 : decode bHL_init 23 = .ok (.putfield 16, 3) := by decide +kernel
theorem dHL_init_26 : decode bHL_init 26 = .ok (.aload_n 0, 1) := by decide +kernel
theorem dHL_init_27 : decode bHL_init 27 = .ok (.iconst 0, 1) := by decide +kernel
theorem dHL_init_28 : decode bHL_init 28 = .ok (.putfield 19, 3) := by decide +kernel
theorem dHL_init_31 : decode bHL_init 31 = .ok (.aload_n 0, 1) := by decide +kernel
theorem dHL_init_32 : decode bHL_init 32 = .ok (.iconst 0, 1) := by decide +kernel
theorem dHL_init_33 : decode bHL_init 33 = .ok (.putfield 23, 3) := by decide +kernel
theorem dHL_init_36 : decode bHL_init 36 = .ok (.return_, 1) := by decide +kernel
theorem dHL_account_0 : decode bHL_account 0 = .ok (.iload_n 1, 1) := by decide +kernel
theorem dHL_account_1 : decode bHL_account 1 = .ok (.ifCond .lt 8, 3) := by decide +kernel
theorem dHL_account_4 : decode bHL_account 4 = .ok (.iload_n 1, 1) := by decide +kernel
theorem dHL_account_5 : decode bHL_account 5 = .ok (.iconst 2, 1) := by decide +kernel
theorem dHL_account_6 : decode bHL_account 6 = .ok (.if_icmp .le 5, 3) := by decide +kernel
theorem dHL_account_9 : decode bHL_account 9 = .ok (.iconst (-1), 1) := by decide +kernel
theorem dHL_account_10 : decode bHL_account 10 = .ok (.ireturn, 1) := by decide +kernel
theorem dHL_account_11 : decode bHL_account 11 = .ok (.aload_n 0, 1) := by decide +kernel
theorem dHL_account_12 : decode bHL_account 12 = .ok (.getfield 10, 3) := by decide +kernel
theorem dHL_account_15 : decode bHL_account 15 = .ok (.getfield 27, 3) := by decide +kernel
theorem dHL_account_18 : decode bHL_account 18 = .ok (.iload_n 1, 1) := by decide +kernel
theorem dHL_account_19 : decode bHL_account 19 = .ok (.invokevirtual 31, 3) := by decide +kernel
theorem dHL_account_22 : decode bHL_account 22 = .ok (.ireturn, 1) := by decide +kernel
theorem dHL_balance_0 : decode bHL_balance 0 = .ok (.aload_n 0, 1) := by decide +kernel
theorem dHL_balance_1 : decode bHL_balance 1 = .ok (.getfield 10, 3) := by decide +kernel
theorem dHL_balance_4 : decode bHL_balance 4 = .ok (.getfield 27, 3) := by decide +kernel
theorem dHL_balance_7 : decode bHL_balance 7 = .ok (.iload_n 1, 1) := by decide +kernel
theorem dHL_balance_8 : decode bHL_balance 8 = .ok (.invokevirtual 54, 3) := by decide +kernel
theorem dHL_balance_11 : decode bHL_balance 11 = .ok (.ifCond .eq 10, 3) := by decide +kernel
theorem dHL_balance_14 : decode bHL_balance 14 = .ok (.lload_n 2, 1) := by decide +kernel
theorem dHL_balance_15 : decode bHL_balance 15 = .ok (.invokestatic 90, 3) := by decide +kernel
theorem dHL_balance_18 : decode bHL_balance 18 = .ok (.ifCond .ne 5, 3) := by decide +kernel
theorem dHL_balance_21 : decode bHL_balance 21 = .ok (.lconst 0, 1) := by decide +kernel

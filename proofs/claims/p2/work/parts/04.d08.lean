theorem dPL_copyFrom_30 : decode bPL_copyFrom 30 = .ok (.aload_n 1, 1) := by decide +kernel
theorem dPL_copyFrom_31 : decode bPL_copyFrom 31 = .ok (.getfield 23, 3) := by decide +kernel
theorem dPL_copyFrom_34 : decode bPL_copyFrom 34 = .ok (.aload_n 0, 1) := by decide +kernel
theorem dPL_copyFrom_35 : decode bPL_copyFrom 35 = .ok (.getfield 23, 3) := by decide +kernel
theorem dPL_copyFrom_38 : decode bPL_copyFrom 38 = .ok (.invokestatic 30, 3) := by decide +kernel
theorem dPL_copyFrom_41 : decode bPL_copyFrom 41 = .ok (.return_, 1) := by decide +kernel
theorem dPL_partOf_0 : decode bPL_partOf 0 = .ok (.iload_n 1, 1) := by decide +kernel
theorem dPL_partOf_1 : decode bPL_partOf 1 = .ok (.ifCond .lt 25, 3) := by decide +kernel
theorem dPL_partOf_4 : decode bPL_partOf 4 = .ok (.iload_n 1, 1) := by decide +kernel
theorem dPL_partOf_5 : decode bPL_partOf 5 = .ok (.aload_n 0, 1) := by decide +kernel
theorem dPL_partOf_6 : decode bPL_partOf 6 = .ok (.getfield 9, 3) := by decide +kernel
theorem dPL_partOf_9 : decode bPL_partOf 9 = .ok (.if_icmp .ge 17, 3) := by decide +kernel
theorem dPL_partOf_12 : decode bPL_partOf 12 = .ok (.iload_n 2, 1) := by decide +kernel
theorem dPL_partOf_13 : decode bPL_partOf 13 = .ok (.ifCond .lt 13, 3) := by decide +kernel
theorem dPL_partOf_16 : decode bPL_partOf 16 = .ok (.iload_n 2, 1) := by decide +kernel
theorem dPL_partOf_17 : decode bPL_partOf 17 = .ok (.aload_n 0, 1) := by decide +kernel
theorem dPL_partOf_18 : decode bPL_partOf 18 = .ok (.getfield 15, 3) := by decide +kernel
theorem dPL_partOf_21 : decode bPL_partOf 21 = .ok (.iload_n 1, 1) := by decide +kernel
theorem dPL_partOf_22 : decode bPL_partOf 22 = .ok (.iaload, 1) := by decide +kernel
theorem dPL_partOf_23 : decode bPL_partOf 23 = .ok (.if_icmp .lt 7, 3) := by decide +kernel
theorem dPL_partOf_26 : decode bPL_partOf 26 = .ok (.ldc2_w 34, 3) := by decide +kernel
theorem dPL_partOf_29 : decode bPL_partOf 29 = .ok (.lreturn, 1) := by decide +kernel
theorem dPL_partOf_30 : decode bPL_partOf 30 = .ok (.iload_n 2, 1) := by decide +kernel
theorem dPL_partOf_31 : decode bPL_partOf 31 = .ok (.i2l, 1) := by decide +kernel
theorem dPL_partOf_32 : decode bPL_partOf 32 = .ok (.aload_n 0, 1) := by decide +kernel
theorem dPL_partOf_33 : decode bPL_partOf 33 = .ok (.getfield 23, 3) := by decide +kernel
theorem dPL_partOf_36 : decode bPL_partOf 36 = .ok (.iload_n 1, 1) := by decide +kernel
theorem dPL_partOf_37 : decode bPL_partOf 37 = .ok (.laload, 1) := by decide +kernel
theorem dPL_partOf_38 : decode bPL_partOf 38 = .ok (.lcmp, 1) := by decide +kernel
theorem dPL_partOf_39 : decode bPL_partOf 39 = .ok (.ifCond .ge 14, 3) := by decide +kernel
theorem dPL_partOf_42 : decode bPL_partOf 42 = .ok (.aload_n 0, 1) := by decide +kernel
theorem dPL_partOf_43 : decode bPL_partOf 43 = .ok (.getfield 19, 3) := by decide +kernel
theorem dPL_partOf_46 : decode bPL_partOf 46 = .ok (.iload_n 1, 1) := by decide +kernel
theorem dPL_partOf_47 : decode bPL_partOf 47 = .ok (.laload, 1) := by decide +kernel
theorem dPL_partOf_48 : decode bPL_partOf 48 = .ok (.lconst 1, 1) := by decide +kernel
theorem dPL_partOf_49 : decode bPL_partOf 49 = .ok (.ladd, 1) := by decide +kernel
theorem dPL_partOf_50 : decode bPL_partOf 50 = .ok (.goto 9, 3) := by decide +kernel
theorem dPL_partOf_53 : decode bPL_partOf 53 = .ok (.aload_n 0, 1) := by decide +kernel
theorem dPL_partOf_54 : decode bPL_partOf 54 = .ok (.getfield 19, 3) := by decide +kernel
theorem dPL_partOf_57 : decode bPL_partOf 57 = .ok (.iload_n 1, 1) := by decide +kernel
theorem dPL_partOf_58 : decode bPL_partOf 58 = .ok (.laload, 1) := by decide +kernel
theorem dPL_partOf_59 : decode bPL_partOf 59 = .ok (.lreturn, 1) := by decide +kernel

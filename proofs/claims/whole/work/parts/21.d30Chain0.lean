theorem dX1_keepFirstVersionOnly_0 : decode cX1_keepFirstVersionOnly 0 = .ok (.aload_n 0, 1) := by decide +kernel
theorem dX1_keepFirstVersionOnly_1 : decode cX1_keepFirstVersionOnly 1 = .ok (.iconst 1, 1) := by decide +kernel
theorem dX1_keepFirstVersionOnly_2 : decode cX1_keepFirstVersionOnly 2 = .ok (.putfield 24, 3) := by decide +kernel
theorem dX1_keepFirstVersionOnly_5 : decode cX1_keepFirstVersionOnly 5 = .ok (.aload_n 0, 1) := by decide +kernel
theorem dX1_keepFirstVersionOnly_6 : decode cX1_keepFirstVersionOnly 6 = .ok (.getfield 9, 3) := by decide +kernel
theorem dX1_keepFirstVersionOnly_9 : decode cX1_keepFirstVersionOnly 9 = .ok (.iconst 0, 1) := by decide +kernel
theorem dX1_keepFirstVersionOnly_10 : decode cX1_keepFirstVersionOnly 10 = .ok (.iconst 0, 1) := by decide +kernel
theorem dX1_keepFirstVersionOnly_11 : decode cX1_keepFirstVersionOnly 11 = .ok (.iastore, 1) := by decide +kernel
theorem dX1_keepFirstVersionOnly_12 : decode cX1_keepFirstVersionOnly 12 = .ok (.aload_n 0, 1) := by decide +kernel
theorem dX1_keepFirstVersionOnly_13 : decode cX1_keepFirstVersionOnly 13 = .ok (.getfield 15, 3) := by decide +kernel
theorem dX1_keepFirstVersionOnly_16 : decode cX1_keepFirstVersionOnly 16 = .ok (.iconst 0, 1) := by decide +kernel
theorem dX1_keepFirstVersionOnly_17 : decode cX1_keepFirstVersionOnly 17 = .ok (.iconst 0, 1) := by decide +kernel
theorem dX1_keepFirstVersionOnly_18 : decode cX1_keepFirstVersionOnly 18 = .ok (.iastore, 1) := by decide +kernel
theorem dX1_keepFirstVersionOnly_19 : decode cX1_keepFirstVersionOnly 19 = .ok (.aload_n 0, 1) := by decide +kernel
theorem dX1_keepFirstVersionOnly_20 : decode cX1_keepFirstVersionOnly 20 = .ok (.getfield 18, 3) := by decide +kernel
theorem dX1_keepFirstVersionOnly_23 : decode cX1_keepFirstVersionOnly 23 = .ok (.iconst 0, 1) := by decide +kernel
theorem dX1_keepFirstVersionOnly_24 : decode cX1_keepFirstVersionOnly 24 = .ok (.iconst 0, 1) := by decide +kernel
theorem dX1_keepFirstVersionOnly_25 : decode cX1_keepFirstVersionOnly 25 = .ok (.iastore, 1) := by decide +kernel
theorem dX1_keepFirstVersionOnly_26 : decode cX1_keepFirstVersionOnly 26 = .ok (.aload_n 0, 1) := by decide +kernel
theorem dX1_keepFirstVersionOnly_27 : decode cX1_keepFirstVersionOnly 27 = .ok (.getfield 21, 3) := by decide +kernel
theorem dX1_keepFirstVersionOnly_30 : decode cX1_keepFirstVersionOnly 30 = .ok (.iconst 0, 1) := by decide +kernel
theorem dX1_keepFirstVersionOnly_31 : decode cX1_keepFirstVersionOnly 31 = .ok (.iconst (-1), 1) := by decide +kernel
theorem dX1_keepFirstVersionOnly_32 : decode cX1_keepFirstVersionOnly 32 = .ok (.iastore, 1) := by decide +kernel
theorem dX1_keepFirstVersionOnly_33 : decode cX1_keepFirstVersionOnly 33 = .ok (.return_, 1) := by decide +kernel
theorem dX1_copyFrom_0 : decode cX1_copyFrom 0 = .ok (.aload_n 0, 1) := by decide +kernel
theorem dX1_copyFrom_1 : decode cX1_copyFrom 1 = .ok (.aload_n 1, 1) := by decide +kernel
theorem dX1_copyFrom_2 : decode cX1_copyFrom 2 = .ok (.getfield 24, 3) := by decide +kernel
theorem dX1_copyFrom_5 : decode cX1_copyFrom 5 = .ok (.putfield 24, 3) := by decide +kernel
theorem dX1_copyFrom_8 : decode cX1_copyFrom 8 = .ok (.aload_n 1, 1) := by decide +kernel
theorem dX1_copyFrom_9 : decode cX1_copyFrom 9 = .ok (.getfield 9, 3) := by decide +kernel
theorem dX1_copyFrom_12 : decode cX1_copyFrom 12 = .ok (.iconst 0, 1) := by decide +kernel
theorem dX1_copyFrom_13 : decode cX1_copyFrom 13 = .ok (.aload_n 0, 1) := by decide +kernel
theorem dX1_copyFrom_14 : decode cX1_copyFrom 14 = .ok (.getfield 9, 3) := by decide +kernel
theorem dX1_copyFrom_17 : decode cX1_copyFrom 17 = .ok (.iconst 0, 1) := by decide +kernel
theorem dX1_copyFrom_18 : decode cX1_copyFrom 18 = .ok (.bipush 17, 2) := by decide +kernel
theorem dX1_copyFrom_20 : decode cX1_copyFrom 20 = .ok (.invokestatic 28, 3) := by decide +kernel
theorem dX1_copyFrom_23 : decode cX1_copyFrom 23 = .ok (.aload_n 1, 1) := by decide +kernel
theorem dX1_copyFrom_24 : decode cX1_copyFrom 24 = .ok (.getfield 15, 3) := by decide +kernel
theorem dX1_copyFrom_27 : decode cX1_copyFrom 27 = .ok (.iconst 0, 1) := by decide +kernel
theorem dX1_copyFrom_28 : decode cX1_copyFrom 28 = .ok (.aload_n 0, 1) := by decide +kernel
theorem dX1_copyFrom_29 : decode cX1_copyFrom 29 = .ok (.getfield 15, 3) := by decide +kernel
theorem dX1_copyFrom_32 : decode cX1_copyFrom 32 = .ok (.iconst 0, 1) := by decide +kernel
theorem dX1_copyFrom_33 : decode cX1_copyFrom 33 = .ok (.bipush 17, 2) := by decide +kernel
theorem dX1_copyFrom_35 : decode cX1_copyFrom 35 = .ok (.invokestatic 28, 3) := by decide +kernel
theorem dX1_copyFrom_38 : decode cX1_copyFrom 38 = .ok (.aload_n 1, 1) := by decide +kernel
theorem dX1_copyFrom_39 : decode cX1_copyFrom 39 = .ok (.getfield 18, 3) := by decide +kernel
theorem dX1_copyFrom_42 : decode cX1_copyFrom 42 = .ok (.iconst 0, 1) := by decide +kernel
theorem dX1_copyFrom_43 : decode cX1_copyFrom 43 = .ok (.aload_n 0, 1) := by decide +kernel
theorem dX1_copyFrom_44 : decode cX1_copyFrom 44 = .ok (.getfield 18, 3) := by decide +kernel
theorem dX1_copyFrom_47 : decode cX1_copyFrom 47 = .ok (.iconst 0, 1) := by decide +kernel
theorem dX1_copyFrom_48 : decode cX1_copyFrom 48 = .ok (.bipush 17, 2) := by decide +kernel
theorem dX1_copyFrom_50 : decode cX1_copyFrom 50 = .ok (.invokestatic 28, 3) := by decide +kernel
theorem dX1_copyFrom_53 : decode cX1_copyFrom 53 = .ok (.aload_n 1, 1) := by decide +kernel
theorem dX1_copyFrom_54 : decode cX1_copyFrom 54 = .ok (.getfield 21, 3) := by decide +kernel
theorem dX1_copyFrom_57 : decode cX1_copyFrom 57 = .ok (.iconst 0, 1) := by decide +kernel
theorem dX1_copyFrom_58 : decode cX1_copyFrom 58 = .ok (.aload_n 0, 1) := by decide +kernel
theorem dX1_copyFrom_59 : decode cX1_copyFrom 59 = .ok (.getfield 21, 3) := by decide +kernel
theorem dX1_copyFrom_62 : decode cX1_copyFrom 62 = .ok (.iconst 0, 1) := by decide +kernel
theorem dX1_copyFrom_63 : decode cX1_copyFrom 63 = .ok (.bipush 17, 2) := by decide +kernel
theorem dX1_copyFrom_65 : decode cX1_copyFrom 65 = .ok (.invokestatic 28, 3) := by decide +kernel
theorem dX1_copyFrom_68 : decode cX1_copyFrom 68 = .ok (.return_, 1) := by decide +kernel
theorem dX1_lastAtMost_0 : decode cX1_lastAtMost 0 = .ok (.aload_n 0, 1) := by decide +kernel
theorem dX1_lastAtMost_1 : decode cX1_lastAtMost 1 = .ok (.getfield 24, 3) := by decide +kernel
theorem dX1_lastAtMost_4 : decode cX1_lastAtMost 4 = .ok (.iconst 1, 1) := by decide +kernel
theorem dX1_lastAtMost_5 : decode cX1_lastAtMost 5 = .ok (.isub, 1) := by decide +kernel
theorem dX1_lastAtMost_6 : decode cX1_lastAtMost 6 = .ok (.istore_n 2, 1) := by decide +kernel
theorem dX1_lastAtMost_7 : decode cX1_lastAtMost 7 = .ok (.iload_n 2, 1) := by decide +kernel
theorem dX1_lastAtMost_8 : decode cX1_lastAtMost 8 = .ok (.ifCond .lt 19, 3) := by decide +kernel
theorem dX1_lastAtMost_11 : decode cX1_lastAtMost 11 = .ok (.aload_n 0, 1) := by decide +kernel
theorem dX1_lastAtMost_12 : decode cX1_lastAtMost 12 = .ok (.getfield 9, 3) := by decide +kernel
theorem dX1_lastAtMost_15 : decode cX1_lastAtMost 15 = .ok (.iload_n 2, 1) := by decide +kernel
theorem dX1_lastAtMost_16 : decode cX1_lastAtMost 16 = .ok (.iaload, 1) := by decide +kernel
theorem dX1_lastAtMost_17 : decode cX1_lastAtMost 17 = .ok (.iload_n 1, 1) := by decide +kernel
theorem dX1_lastAtMost_18 : decode cX1_lastAtMost 18 = .ok (.if_icmp .le 9, 3) := by decide +kernel
theorem dX1_lastAtMost_21 : decode cX1_lastAtMost 21 = .ok (.iinc 2 (-1), 3) := by decide +kernel
theorem dX1_lastAtMost_24 : decode cX1_lastAtMost 24 = .ok (.goto (-17), 3) := by decide +kernel
theorem dX1_lastAtMost_27 : decode cX1_lastAtMost 27 = .ok (.iload_n 2, 1) := by decide +kernel
theorem dX1_lastAtMost_28 : decode cX1_lastAtMost 28 = .ok (.ireturn, 1) := by decide +kernel
theorem dX1_raiseReadTime_0 : decode cX1_raiseReadTime 0 = .ok (.aload_n 0, 1) := by decide +kernel
theorem dX1_raiseReadTime_1 : decode cX1_raiseReadTime 1 = .ok (.getfield 15, 3) := by decide +kernel
theorem dX1_raiseReadTime_4 : decode cX1_raiseReadTime 4 = .ok (.iload_n 1, 1) := by decide +kernel
theorem dX1_raiseReadTime_5 : decode cX1_raiseReadTime 5 = .ok (.iaload, 1) := by decide +kernel
theorem dX1_raiseReadTime_6 : decode cX1_raiseReadTime 6 = .ok (.iload_n 2, 1) := by decide +kernel
theorem dX1_raiseReadTime_7 : decode cX1_raiseReadTime 7 = .ok (.if_icmp .ge 10, 3) := by decide +kernel
theorem dX1_raiseReadTime_10 : decode cX1_raiseReadTime 10 = .ok (.aload_n 0, 1) := by decide +kernel
theorem dX1_raiseReadTime_11 : decode cX1_raiseReadTime 11 = .ok (.getfield 15, 3) := by decide +kernel
theorem dX1_raiseReadTime_14 : decode cX1_raiseReadTime 14 = .ok (.iload_n 1, 1) := by decide +kernel
theorem dX1_raiseReadTime_15 : decode cX1_raiseReadTime 15 = .ok (.iload_n 2, 1) := by decide +kernel
theorem dX1_raiseReadTime_16 : decode cX1_raiseReadTime 16 = .ok (.iastore, 1) := by decide +kernel
theorem dX1_raiseReadTime_17 : decode cX1_raiseReadTime 17 = .ok (.return_, 1) := by decide +kernel
theorem dX1_shift_0 : decode cX1_shift 0 = .ok (.aload_n 0, 1) := by decide +kernel
theorem dX1_shift_1 : decode cX1_shift 1 = .ok (.getfield 24, 3) := by decide +kernel
theorem dX1_shift_4 : decode cX1_shift 4 = .ok (.iload_n 1, 1) := by decide +kernel
theorem dX1_shift_5 : decode cX1_shift 5 = .ok (.isub, 1) := by decide +kernel
theorem dX1_shift_6 : decode cX1_shift 6 = .ok (.istore_n 3, 1) := by decide +kernel
theorem dX1_shift_7 : decode cX1_shift 7 = .ok (.aload_n 0, 1) := by decide +kernel
theorem dX1_shift_8 : decode cX1_shift 8 = .ok (.getfield 9, 3) := by decide +kernel
theorem dX1_shift_11 : decode cX1_shift 11 = .ok (.iload_n 1, 1) := by decide +kernel
theorem dX1_shift_12 : decode cX1_shift 12 = .ok (.aload_n 0, 1) := by decide +kernel
theorem dX1_shift_13 : decode cX1_shift 13 = .ok (.getfield 9, 3) := by decide +kernel
theorem dX1_shift_16 : decode cX1_shift 16 = .ok (.iload_n 2, 1) := by decide +kernel
theorem dX1_shift_17 : decode cX1_shift 17 = .ok (.iload_n 3, 1) := by decide +kernel
theorem dX1_shift_18 : decode cX1_shift 18 = .ok (.invokestatic 28, 3) := by decide +kernel
theorem dX1_shift_21 : decode cX1_shift 21 = .ok (.aload_n 0, 1) := by decide +kernel
theorem dX1_shift_22 : decode cX1_shift 22 = .ok (.getfield 15, 3) := by decide +kernel
theorem dX1_shift_25 : decode cX1_shift 25 = .ok (.iload_n 1, 1) := by decide +kernel
theorem dX1_shift_26 : decode cX1_shift 26 = .ok (.aload_n 0, 1) := by decide +kernel
theorem dX1_shift_27 : decode cX1_shift 27 = .ok (.getfield 15, 3) := by decide +kernel
theorem dX1_shift_30 : decode cX1_shift 30 = .ok (.iload_n 2, 1) := by decide +kernel
theorem dX1_shift_31 : decode cX1_shift 31 = .ok (.iload_n 3, 1) := by decide +kernel
theorem dX1_shift_32 : decode cX1_shift 32 = .ok (.invokestatic 28, 3) := by decide +kernel
theorem dX1_shift_35 : decode cX1_shift 35 = .ok (.aload_n 0, 1) := by decide +kernel
theorem dX1_shift_36 : decode cX1_shift 36 = .ok (.getfield 18, 3) := by decide +kernel
theorem dX1_shift_39 : decode cX1_shift 39 = .ok (.iload_n 1, 1) := by decide +kernel
theorem dX1_shift_40 : decode cX1_shift 40 = .ok (.aload_n 0, 1) := by decide +kernel
theorem dX1_shift_41 : decode cX1_shift 41 = .ok (.getfield 18, 3) := by decide +kernel
theorem dX1_shift_44 : decode cX1_shift 44 = .ok (.iload_n 2, 1) := by decide +kernel
theorem dX1_shift_45 : decode cX1_shift 45 = .ok (.iload_n 3, 1) := by decide +kernel
theorem dX1_shift_46 : decode cX1_shift 46 = .ok (.invokestatic 28, 3) := by decide +kernel
theorem dX1_shift_49 : decode cX1_shift 49 = .ok (.aload_n 0, 1) := by decide +kernel
theorem dX1_shift_50 : decode cX1_shift 50 = .ok (.getfield 21, 3) := by decide +kernel
theorem dX1_shift_53 : decode cX1_shift 53 = .ok (.iload_n 1, 1) := by decide +kernel
theorem dX1_shift_54 : decode cX1_shift 54 = .ok (.aload_n 0, 1) := by decide +kernel
theorem dX1_shift_55 : decode cX1_shift 55 = .ok (.getfield 21, 3) := by decide +kernel
theorem dX1_shift_58 : decode cX1_shift 58 = .ok (.iload_n 2, 1) := by decide +kernel
theorem dX1_shift_59 : decode cX1_shift 59 = .ok (.iload_n 3, 1) := by decide +kernel
theorem dX1_shift_60 : decode cX1_shift 60 = .ok (.invokestatic 28, 3) := by decide +kernel
theorem dX1_shift_63 : decode cX1_shift 63 = .ok (.aload_n 0, 1) := by decide +kernel
theorem dX1_shift_64 : decode cX1_shift 64 = .ok (.iload_n 2, 1) := by decide +kernel
theorem dX1_shift_65 : decode cX1_shift 65 = .ok (.iload_n 3, 1) := by decide +kernel
theorem dX1_shift_66 : decode cX1_shift 66 = .ok (.iadd, 1) := by decide +kernel
theorem dX1_shift_67 : decode cX1_shift 67 = .ok (.putfield 24, 3) := by decide +kernel
theorem dX1_shift_70 : decode cX1_shift 70 = .ok (.return_, 1) := by decide +kernel
theorem dX1_removeVersionOf_0 : decode cX1_removeVersionOf 0 = .ok (.aload_n 0, 1) := by decide +kernel
theorem dX1_removeVersionOf_1 : decode cX1_removeVersionOf 1 = .ok (.iload_n 2, 1) := by decide +kernel
theorem dX1_removeVersionOf_2 : decode cX1_removeVersionOf 2 = .ok (.invokevirtual 34, 3) := by decide +kernel
theorem dX1_removeVersionOf_5 : decode cX1_removeVersionOf 5 = .ok (.istore_n 3, 1) := by decide +kernel
theorem dX1_removeVersionOf_6 : decode cX1_removeVersionOf 6 = .ok (.iload_n 3, 1) := by decide +kernel
theorem dX1_removeVersionOf_7 : decode cX1_removeVersionOf 7 = .ok (.ifCond .lt 21, 3) := by decide +kernel
theorem dX1_removeVersionOf_10 : decode cX1_removeVersionOf 10 = .ok (.aload_n 0, 1) := by decide +kernel
theorem dX1_removeVersionOf_11 : decode cX1_removeVersionOf 11 = .ok (.getfield 21, 3) := by decide +kernel
theorem dX1_removeVersionOf_14 : decode cX1_removeVersionOf 14 = .ok (.iload_n 3, 1) := by decide +kernel
theorem dX1_removeVersionOf_15 : decode cX1_removeVersionOf 15 = .ok (.iaload, 1) := by decide +kernel
theorem dX1_removeVersionOf_16 : decode cX1_removeVersionOf 16 = .ok (.iload_n 1, 1) := by decide +kernel
theorem dX1_removeVersionOf_17 : decode cX1_removeVersionOf 17 = .ok (.if_icmp .ne 11, 3) := by decide +kernel
theorem dX1_removeVersionOf_20 : decode cX1_removeVersionOf 20 = .ok (.aload_n 0, 1) := by decide +kernel
theorem dX1_removeVersionOf_21 : decode cX1_removeVersionOf 21 = .ok (.iload_n 3, 1) := by decide +kernel
theorem dX1_removeVersionOf_22 : decode cX1_removeVersionOf 22 = .ok (.iconst 1, 1) := by decide +kernel
theorem dX1_removeVersionOf_23 : decode cX1_removeVersionOf 23 = .ok (.iadd, 1) := by decide +kernel
theorem dX1_removeVersionOf_24 : decode cX1_removeVersionOf 24 = .ok (.iload_n 3, 1) := by decide +kernel
theorem dX1_removeVersionOf_25 : decode cX1_removeVersionOf 25 = .ok (.invokevirtual 38, 3) := by decide +kernel
theorem dX1_removeVersionOf_28 : decode cX1_removeVersionOf 28 = .ok (.return_, 1) := by decide +kernel
theorem dX1_isAnyReadAfter_0 : decode cX1_isAnyReadAfter 0 = .ok (.iconst 0, 1) := by decide +kernel
theorem dX1_isAnyReadAfter_1 : decode cX1_isAnyReadAfter 1 = .ok (.istore_n 2, 1) := by decide +kernel
theorem dX1_isAnyReadAfter_2 : decode cX1_isAnyReadAfter 2 = .ok (.iload_n 2, 1) := by decide +kernel
theorem dX1_isAnyReadAfter_3 : decode cX1_isAnyReadAfter 3 = .ok (.aload_n 0, 1) := by decide +kernel
theorem dX1_isAnyReadAfter_4 : decode cX1_isAnyReadAfter 4 = .ok (.getfield 24, 3) := by decide +kernel
theorem dX1_isAnyReadAfter_7 : decode cX1_isAnyReadAfter 7 = .ok (.if_icmp .ge 21, 3) := by decide +kernel
theorem dX1_isAnyReadAfter_10 : decode cX1_isAnyReadAfter 10 = .ok (.aload_n 0, 1) := by decide +kernel
theorem dX1_isAnyReadAfter_11 : decode cX1_isAnyReadAfter 11 = .ok (.getfield 15, 3) := by decide +kernel
theorem dX1_isAnyReadAfter_14 : decode cX1_isAnyReadAfter 14 = .ok (.iload_n 2, 1) := by decide +kernel
theorem dX1_isAnyReadAfter_15 : decode cX1_isAnyReadAfter 15 = .ok (.iaload, 1) := by decide +kernel
theorem dX1_isAnyReadAfter_16 : decode cX1_isAnyReadAfter 16 = .ok (.iload_n 1, 1) := by decide +kernel
theorem dX1_isAnyReadAfter_17 : decode cX1_isAnyReadAfter 17 = .ok (.if_icmp .le 5, 3) := by decide +kernel
theorem dX1_isAnyReadAfter_20 : decode cX1_isAnyReadAfter 20 = .ok (.iconst 1, 1) := by decide +kernel
theorem dX1_isAnyReadAfter_21 : decode cX1_isAnyReadAfter 21 = .ok (.ireturn, 1) := by decide +kernel
theorem dX1_isAnyReadAfter_22 : decode cX1_isAnyReadAfter 22 = .ok (.iinc 2 1, 3) := by decide +kernel
theorem dX1_isAnyReadAfter_25 : decode cX1_isAnyReadAfter 25 = .ok (.goto (-23), 3) := by decide +kernel
theorem dX1_isAnyReadAfter_28 : decode cX1_isAnyReadAfter 28 = .ok (.iconst 0, 1) := by decide +kernel
theorem dX1_isAnyReadAfter_29 : decode cX1_isAnyReadAfter 29 = .ok (.ireturn, 1) := by decide +kernel
theorem dX1_putValue_0 : decode cX1_putValue 0 = .ok (.aload_n 0, 1) := by decide +kernel
theorem dX1_putValue_1 : decode cX1_putValue 1 = .ok (.iload_n 1, 1) := by decide +kernel
theorem dX1_putValue_2 : decode cX1_putValue 2 = .ok (.invokevirtual 34, 3) := by decide +kernel
theorem dX1_putValue_5 : decode cX1_putValue 5 = .ok (.istore 4, 2) := by decide +kernel
theorem dX1_putValue_7 : decode cX1_putValue 7 = .ok (.iload 4, 2) := by decide +kernel
theorem dX1_putValue_9 : decode cX1_putValue 9 = .ok (.ifCond .lt 25, 3) := by decide +kernel
theorem dX1_putValue_12 : decode cX1_putValue 12 = .ok (.aload_n 0, 1) := by decide +kernel
theorem dX1_putValue_13 : decode cX1_putValue 13 = .ok (.getfield 9, 3) := by decide +kernel
theorem dX1_putValue_16 : decode cX1_putValue 16 = .ok (.iload 4, 2) := by decide +kernel
theorem dX1_putValue_18 : decode cX1_putValue 18 = .ok (.iaload, 1) := by decide +kernel
theorem dX1_putValue_19 : decode cX1_putValue 19 = .ok (.iload_n 1, 1) := by decide +kernel
theorem dX1_putValue_20 : decode cX1_putValue 20 = .ok (.if_icmp .ne 14, 3) := by decide +kernel
theorem dX1_putValue_23 : decode cX1_putValue 23 = .ok (.aload_n 0, 1) := by decide +kernel
theorem dX1_putValue_24 : decode cX1_putValue 24 = .ok (.getfield 18, 3) := by decide +kernel
theorem dX1_putValue_27 : decode cX1_putValue 27 = .ok (.iload 4, 2) := by decide +kernel
theorem dX1_putValue_29 : decode cX1_putValue 29 = .ok (.iload_n 3, 1) := by decide +kernel
theorem dX1_putValue_30 : decode cX1_putValue 30 = .ok (.iastore, 1) := by decide +kernel
theorem dX1_putValue_31 : decode cX1_putValue 31 = .ok (.goto 64, 3) := by decide +kernel
theorem dX1_putValue_34 : decode cX1_putValue 34 = .ok (.aload_n 0, 1) := by decide +kernel
theorem dX1_putValue_35 : decode cX1_putValue 35 = .ok (.getfield 24, 3) := by decide +kernel
theorem dX1_putValue_38 : decode cX1_putValue 38 = .ok (.bipush 17, 2) := by decide +kernel
theorem dX1_putValue_40 : decode cX1_putValue 40 = .ok (.if_icmp .ge 55, 3) := by decide +kernel
theorem dX1_putValue_43 : decode cX1_putValue 43 = .ok (.aload_n 0, 1) := by decide +kernel
theorem dX1_putValue_44 : decode cX1_putValue 44 = .ok (.iload 4, 2) := by decide +kernel
theorem dX1_putValue_46 : decode cX1_putValue 46 = .ok (.iconst 1, 1) := by decide +kernel
theorem dX1_putValue_47 : decode cX1_putValue 47 = .ok (.iadd, 1) := by decide +kernel
theorem dX1_putValue_48 : decode cX1_putValue 48 = .ok (.iload 4, 2) := by decide +kernel
theorem dX1_putValue_50 : decode cX1_putValue 50 = .ok (.iconst 2, 1) := by decide +kernel
theorem dX1_putValue_51 : decode cX1_putValue 51 = .ok (.iadd, 1) := by decide +kernel
theorem dX1_putValue_52 : decode cX1_putValue 52 = .ok (.invokevirtual 38, 3) := by decide +kernel
theorem dX1_putValue_55 : decode cX1_putValue 55 = .ok (.aload_n 0, 1) := by decide +kernel
theorem dX1_putValue_56 : decode cX1_putValue 56 = .ok (.getfield 9, 3) := by decide +kernel
theorem dX1_putValue_59 : decode cX1_putValue 59 = .ok (.iload 4, 2) := by decide +kernel
theorem dX1_putValue_61 : decode cX1_putValue 61 = .ok (.iconst 1, 1) := by decide +kernel
theorem dX1_putValue_62 : decode cX1_putValue 62 = .ok (.iadd, 1) := by decide +kernel
theorem dX1_putValue_63 : decode cX1_putValue 63 = .ok (.iload_n 1, 1) := by decide +kernel
theorem dX1_putValue_64 : decode cX1_putValue 64 = .ok (.iastore, 1) := by decide +kernel
theorem dX1_putValue_65 : decode cX1_putValue 65 = .ok (.aload_n 0, 1) := by decide +kernel
theorem dX1_putValue_66 : decode cX1_putValue 66 = .ok (.getfield 15, 3) := by decide +kernel
theorem dX1_putValue_69 : decode cX1_putValue 69 = .ok (.iload 4, 2) := by decide +kernel
theorem dX1_putValue_71 : decode cX1_putValue 71 = .ok (.iconst 1, 1) := by decide +kernel
theorem dX1_putValue_72 : decode cX1_putValue 72 = .ok (.iadd, 1) := by decide +kernel
theorem dX1_putValue_73 : decode cX1_putValue 73 = .ok (.iconst 0, 1) := by decide +kernel
theorem dX1_putValue_74 : decode cX1_putValue 74 = .ok (.iastore, 1) := by decide +kernel
theorem dX1_putValue_75 : decode cX1_putValue 75 = .ok (.aload_n 0, 1) := by decide +kernel
theorem dX1_putValue_76 : decode cX1_putValue 76 = .ok (.getfield 18, 3) := by decide +kernel
theorem dX1_putValue_79 : decode cX1_putValue 79 = .ok (.iload 4, 2) := by decide +kernel
theorem dX1_putValue_81 : decode cX1_putValue 81 = .ok (.iconst 1, 1) := by decide +kernel
theorem dX1_putValue_82 : decode cX1_putValue 82 = .ok (.iadd, 1) := by decide +kernel
theorem dX1_putValue_83 : decode cX1_putValue 83 = .ok (.iload_n 3, 1) := by decide +kernel
theorem dX1_putValue_84 : decode cX1_putValue 84 = .ok (.iastore, 1) := by decide +kernel
theorem dX1_putValue_85 : decode cX1_putValue 85 = .ok (.aload_n 0, 1) := by decide +kernel
theorem dX1_putValue_86 : decode cX1_putValue 86 = .ok (.getfield 21, 3) := by decide +kernel
theorem dX1_putValue_89 : decode cX1_putValue 89 = .ok (.iload 4, 2) := by decide +kernel
theorem dX1_putValue_91 : decode cX1_putValue 91 = .ok (.iconst 1, 1) := by decide +kernel
theorem dX1_putValue_92 : decode cX1_putValue 92 = .ok (.iadd, 1) := by decide +kernel
theorem dX1_putValue_93 : decode cX1_putValue 93 = .ok (.iload_n 2, 1) := by decide +kernel
theorem dX1_putValue_94 : decode cX1_putValue 94 = .ok (.iastore, 1) := by decide +kernel
theorem dX1_putValue_95 : decode cX1_putValue 95 = .ok (.return_, 1) := by decide +kernel
theorem dX1_removeFirst_0 : decode cX1_removeFirst 0 = .ok (.aload_n 0, 1) := by decide +kernel
theorem dX1_removeFirst_1 : decode cX1_removeFirst 1 = .ok (.iload_n 1, 1) := by decide +kernel
theorem dX1_removeFirst_2 : decode cX1_removeFirst 2 = .ok (.iconst 0, 1) := by decide +kernel
theorem dX1_removeFirst_3 : decode cX1_removeFirst 3 = .ok (.invokevirtual 38, 3) := by decide +kernel
theorem dX1_removeFirst_6 : decode cX1_removeFirst 6 = .ok (.return_, 1) := by decide +kernel
theorem dX1_versionNumber_0 : decode cX1_versionNumber 0 = .ok (.iload_n 2, 1) := by decide +kernel
theorem dX1_versionNumber_1 : decode cX1_versionNumber 1 = .ok (.tableswitch 48 0 2 #[27, 34, 41], 27) := by decide +kernel
theorem dX1_versionNumber_28 : decode cX1_versionNumber 28 = .ok (.aload_n 0, 1) := by decide +kernel
theorem dX1_versionNumber_29 : decode cX1_versionNumber 29 = .ok (.getfield 9, 3) := by decide +kernel
theorem dX1_versionNumber_32 : decode cX1_versionNumber 32 = .ok (.iload_n 1, 1) := by decide +kernel
theorem dX1_versionNumber_33 : decode cX1_versionNumber 33 = .ok (.iaload, 1) := by decide +kernel
theorem dX1_versionNumber_34 : decode cX1_versionNumber 34 = .ok (.ireturn, 1) := by decide +kernel
theorem dX1_versionNumber_35 : decode cX1_versionNumber 35 = .ok (.aload_n 0, 1) := by decide +kernel
theorem dX1_versionNumber_36 : decode cX1_versionNumber 36 = .ok (.getfield 15, 3) := by decide +kernel
theorem dX1_versionNumber_39 : decode cX1_versionNumber 39 = .ok (.iload_n 1, 1) := by decide +kernel
theorem dX1_versionNumber_40 : decode cX1_versionNumber 40 = .ok (.iaload, 1) := by decide +kernel
theorem dX1_versionNumber_41 : decode cX1_versionNumber 41 = .ok (.ireturn, 1) := by decide +kernel
theorem dX1_versionNumber_42 : decode cX1_versionNumber 42 = .ok (.aload_n 0, 1) := by decide +kernel
theorem dX1_versionNumber_43 : decode cX1_versionNumber 43 = .ok (.getfield 18, 3) := by decide +kernel
theorem dX1_versionNumber_46 : decode cX1_versionNumber 46 = .ok (.iload_n 1, 1) := by decide +kernel
theorem dX1_versionNumber_47 : decode cX1_versionNumber 47 = .ok (.iaload, 1) := by decide +kernel
theorem dX1_versionNumber_48 : decode cX1_versionNumber 48 = .ok (.ireturn, 1) := by decide +kernel
theorem dX1_versionNumber_49 : decode cX1_versionNumber 49 = .ok (.aload_n 0, 1) := by decide +kernel
theorem dX1_versionNumber_50 : decode cX1_versionNumber 50 = .ok (.getfield 21, 3) := by decide +kernel
theorem dX1_versionNumber_53 : decode cX1_versionNumber 53 = .ok (.iload_n 1, 1) := by decide +kernel
theorem dX1_versionNumber_54 : decode cX1_versionNumber 54 = .ok (.iaload, 1) := by decide +kernel
theorem dX1_versionNumber_55 : decode cX1_versionNumber 55 = .ok (.ireturn, 1) := by decide +kernel

theorem dX0_restartTransaction_17 : decode cX0_restartTransaction 17 = .ok (.putfield 151, 3) := by decide +kernel
theorem dX0_restartTransaction_20 : decode cX0_restartTransaction 20 = .ok (.aload_n 0, 1) := by decide +kernel
theorem dX0_restartTransaction_21 : decode cX0_restartTransaction 21 = .ok (.getfield 38, 3) := by decide +kernel
theorem dX0_restartTransaction_24 : decode cX0_restartTransaction 24 = .ok (.bipush 8, 2) := by decide +kernel
theorem dX0_restartTransaction_26 : decode cX0_restartTransaction 26 = .ok (.iload_n 1, 1) := by decide +kernel
theorem dX0_restartTransaction_27 : decode cX0_restartTransaction 27 = .ok (.iconst (-1), 1) := by decide +kernel
theorem dX0_restartTransaction_28 : decode cX0_restartTransaction 28 = .ok (.invokevirtual 73, 3) := by decide +kernel
theorem dX0_restartTransaction_31 : decode cX0_restartTransaction 31 = .ok (.iconst 0, 1) := by decide +kernel
theorem dX0_restartTransaction_32 : decode cX0_restartTransaction 32 = .ok (.istore_n 3, 1) := by decide +kernel
theorem dX0_restartTransaction_33 : decode cX0_restartTransaction 33 = .ok (.iload_n 3, 1) := by decide +kernel
theorem dX0_restartTransaction_34 : decode cX0_restartTransaction 34 = .ok (.aload_n 2, 1) := by decide +kernel
theorem dX0_restartTransaction_35 : decode cX0_restartTransaction 35 = .ok (.getfield 190, 3) := by decide +kernel
theorem dX0_restartTransaction_38 : decode cX0_restartTransaction 38 = .ok (.if_icmp .ge 23, 3) := by decide +kernel
theorem dX0_restartTransaction_41 : decode cX0_restartTransaction 41 = .ok (.aload_n 2, 1) := by decide +kernel
theorem dX0_restartTransaction_42 : decode cX0_restartTransaction 42 = .ok (.getfield 151, 3) := by decide +kernel
theorem dX0_restartTransaction_45 : decode cX0_restartTransaction 45 = .ok (.ifCond .ne 16, 3) := by decide +kernel
theorem dX0_restartTransaction_48 : decode cX0_restartTransaction 48 = .ok (.aload_n 0, 1) := by decide +kernel
theorem dX0_restartTransaction_49 : decode cX0_restartTransaction 49 = .ok (.iload_n 1, 1) := by decide +kernel
theorem dX0_restartTransaction_50 : decode cX0_restartTransaction 50 = .ok (.iload_n 3, 1) := by decide +kernel
theorem dX0_restartTransaction_51 : decode cX0_restartTransaction 51 = .ok (.invokevirtual 81, 3) := by decide +kernel
theorem dX0_restartTransaction_54 : decode cX0_restartTransaction 54 = .ok (.pop, 1) := by decide +kernel
theorem dX0_restartTransaction_55 : decode cX0_restartTransaction 55 = .ok (.iinc 3 1, 3) := by decide +kernel
theorem dX0_restartTransaction_58 : decode cX0_restartTransaction 58 = .ok (.goto (-25), 3) := by decide +kernel
theorem dX0_restartTransaction_61 : decode cX0_restartTransaction 61 = .ok (.return_, 1) := by decide +kernel
theorem dX0_transactionsAbortedWith_0 : decode cX0_transactionsAbortedWith 0 = .ok (.aload_n 0, 1) := by decide +kernel
theorem dX0_transactionsAbortedWith_1 : decode cX0_transactionsAbortedWith 1 = .ok (.getfield 23, 3) := by decide +kernel
theorem dX0_transactionsAbortedWith_4 : decode cX0_transactionsAbortedWith 4 = .ok (.iload_n 1, 1) := by decide +kernel
theorem dX0_transactionsAbortedWith_5 : decode cX0_transactionsAbortedWith 5 = .ok (.aaload, 1) := by decide +kernel
theorem dX0_transactionsAbortedWith_6 : decode cX0_transactionsAbortedWith 6 = .ok (.invokevirtual 182, 3) := by decide +kernel
theorem dX0_transactionsAbortedWith_9 : decode cX0_transactionsAbortedWith 9 = .ok (.ifCond .ne 5, 3) := by decide +kernel
theorem dX0_transactionsAbortedWith_12 : decode cX0_transactionsAbortedWith 12 = .ok (.iconst 0, 1) := by decide +kernel
theorem dX0_transactionsAbortedWith_13 : decode cX0_transactionsAbortedWith 13 = .ok (.ireturn, 1) := by decide +kernel
theorem dX0_transactionsAbortedWith_14 : decode cX0_transactionsAbortedWith 14 = .ok (.iconst 1, 1) := by decide +kernel
theorem dX0_transactionsAbortedWith_15 : decode cX0_transactionsAbortedWith 15 = .ok (.iload_n 1, 1) := by decide +kernel
theorem dX0_transactionsAbortedWith_16 : decode cX0_transactionsAbortedWith 16 = .ok (.ishl, 1) := by decide +kernel
theorem dX0_transactionsAbortedWith_17 : decode cX0_transactionsAbortedWith 17 = .ok (.istore_n 2, 1) := by decide +kernel
theorem dX0_transactionsAbortedWith_18 : decode cX0_transactionsAbortedWith 18 = .ok (.iconst 0, 1) := by decide +kernel
theorem dX0_transactionsAbortedWith_19 : decode cX0_transactionsAbortedWith 19 = .ok (.istore_n 3, 1) := by decide +kernel
theorem dX0_transactionsAbortedWith_20 : decode cX0_transactionsAbortedWith 20 = .ok (.iload_n 3, 1) := by decide +kernel
theorem dX0_transactionsAbortedWith_21 : decode cX0_transactionsAbortedWith 21 = .ok (.bipush 16, 2) := by decide +kernel
theorem dX0_transactionsAbortedWith_23 : decode cX0_transactionsAbortedWith 23 = .ok (.if_icmp .ge 62, 3) := by decide +kernel
theorem dX0_transactionsAbortedWith_26 : decode cX0_transactionsAbortedWith 26 = .ok (.iconst 0, 1) := by decide +kernel
theorem dX0_transactionsAbortedWith_27 : decode cX0_transactionsAbortedWith 27 = .ok (.istore 4, 2) := by decide +kernel
theorem dX0_transactionsAbortedWith_29 : decode cX0_transactionsAbortedWith 29 = .ok (.iload 4, 2) := by decide +kernel
theorem dX0_transactionsAbortedWith_31 : decode cX0_transactionsAbortedWith 31 = .ok (.aload_n 0, 1) := by decide +kernel
theorem dX0_transactionsAbortedWith_32 : decode cX0_transactionsAbortedWith 32 = .ok (.getfield 18, 3) := by decide +kernel
theorem dX0_transactionsAbortedWith_35 : decode cX0_transactionsAbortedWith 35 = .ok (.if_icmp .ge 44, 3) := by decide +kernel
theorem dX0_transactionsAbortedWith_38 : decode cX0_transactionsAbortedWith 38 = .ok (.aload_n 0, 1) := by decide +kernel
theorem dX0_transactionsAbortedWith_39 : decode cX0_transactionsAbortedWith 39 = .ok (.getfield 23, 3) := by decide +kernel
theorem dX0_transactionsAbortedWith_42 : decode cX0_transactionsAbortedWith 42 = .ok (.iload 4, 2) := by decide +kernel
theorem dX0_transactionsAbortedWith_44 : decode cX0_transactionsAbortedWith 44 = .ok (.aaload, 1) := by decide +kernel
theorem dX0_transactionsAbortedWith_45 : decode cX0_transactionsAbortedWith 45 = .ok (.invokevirtual 182, 3) := by decide +kernel
theorem dX0_transactionsAbortedWith_48 : decode cX0_transactionsAbortedWith 48 = .ok (.ifCond .eq 25, 3) := by decide +kernel
theorem dX0_transactionsAbortedWith_51 : decode cX0_transactionsAbortedWith 51 = .ok (.aload_n 0, 1) := by decide +kernel
theorem dX0_transactionsAbortedWith_52 : decode cX0_transactionsAbortedWith 52 = .ok (.getfield 23, 3) := by decide +kernel
theorem dX0_transactionsAbortedWith_55 : decode cX0_transactionsAbortedWith 55 = .ok (.iload 4, 2) := by decide +kernel
theorem dX0_transactionsAbortedWith_57 : decode cX0_transactionsAbortedWith 57 = .ok (.aaload, 1) := by decide +kernel
theorem dX0_transactionsAbortedWith_58 : decode cX0_transactionsAbortedWith 58 = .ok (.getfield 130, 3) := by decide +kernel
theorem dX0_transactionsAbortedWith_61 : decode cX0_transactionsAbortedWith 61 = .ok (.iload_n 2, 1) := by decide +kernel
theorem dX0_transactionsAbortedWith_62 : decode cX0_transactionsAbortedWith 62 = .ok (.iand, 1) := by decide +kernel
theorem dX0_transactionsAbortedWith_63 : decode cX0_transactionsAbortedWith 63 = .ok (.ifCond .eq 10, 3) := by decide +kernel
theorem dX0_transactionsAbortedWith_66 : decode cX0_transactionsAbortedWith 66 = .ok (.iload_n 2, 1) := by decide +kernel
theorem dX0_transactionsAbortedWith_67 : decode cX0_transactionsAbortedWith 67 = .ok (.iconst 1, 1) := by decide +kernel
theorem dX0_transactionsAbortedWith_68 : decode cX0_transactionsAbortedWith 68 = .ok (.iload 4, 2) := by decide +kernel
theorem dX0_transactionsAbortedWith_70 : decode cX0_transactionsAbortedWith 70 = .ok (.ishl, 1) := by decide +kernel
theorem dX0_transactionsAbortedWith_71 : decode cX0_transactionsAbortedWith 71 = .ok (.ior, 1) := by decide +kernel
theorem dX0_transactionsAbortedWith_72 : decode cX0_transactionsAbortedWith 72 = .ok (.istore_n 2, 1) := by decide +kernel
theorem dX0_transactionsAbortedWith_73 : decode cX0_transactionsAbortedWith 73 = .ok (.iinc 4 1, 3) := by decide +kernel
theorem dX0_transactionsAbortedWith_76 : decode cX0_transactionsAbortedWith 76 = .ok (.goto (-47), 3) := by decide +kernel
theorem dX0_transactionsAbortedWith_79 : decode cX0_transactionsAbortedWith 79 = .ok (.iinc 3 1, 3) := by decide +kernel
theorem dX0_transactionsAbortedWith_82 : decode cX0_transactionsAbortedWith 82 = .ok (.goto (-62), 3) := by decide +kernel
theorem dX0_transactionsAbortedWith_85 : decode cX0_transactionsAbortedWith 85 = .ok (.iload_n 2, 1) := by decide +kernel
theorem dX0_transactionsAbortedWith_86 : decode cX0_transactionsAbortedWith 86 = .ok (.ireturn, 1) := by decide +kernel
theorem dX0_lastCommittedAtMost_0 : decode cX0_lastCommittedAtMost 0 = .ok (.aload_n 1, 1) := by decide +kernel
theorem dX0_lastCommittedAtMost_1 : decode cX0_lastCommittedAtMost 1 = .ok (.iload_n 2, 1) := by decide +kernel
theorem dX0_lastCommittedAtMost_2 : decode cX0_lastCommittedAtMost 2 = .ok (.invokevirtual 113, 3) := by decide +kernel
theorem dX0_lastCommittedAtMost_5 : decode cX0_lastCommittedAtMost 5 = .ok (.istore_n 3, 1) := by decide +kernel
theorem dX0_lastCommittedAtMost_6 : decode cX0_lastCommittedAtMost 6 = .ok (.iload_n 3, 1) := by decide +kernel
theorem dX0_lastCommittedAtMost_7 : decode cX0_lastCommittedAtMost 7 = .ok (.ifCond .lt 22, 3) := by decide +kernel
theorem dX0_lastCommittedAtMost_10 : decode cX0_lastCommittedAtMost 10 = .ok (.aload_n 0, 1) := by decide +kernel
theorem dX0_lastCommittedAtMost_11 : decode cX0_lastCommittedAtMost 11 = .ok (.aload_n 1, 1) := by decide +kernel
theorem dX0_lastCommittedAtMost_12 : decode cX0_lastCommittedAtMost 12 = .ok (.getfield 123, 3) := by decide +kernel
theorem dX0_lastCommittedAtMost_15 : decode cX0_lastCommittedAtMost 15 = .ok (.iload_n 3, 1) := by decide +kernel
theorem dX0_lastCommittedAtMost_16 : decode cX0_lastCommittedAtMost 16 = .ok (.iaload, 1) := by decide +kernel
theorem dX0_lastCommittedAtMost_17 : decode cX0_lastCommittedAtMost 17 = .ok (.invokevirtual 126, 3) := by decide +kernel
theorem dX0_lastCommittedAtMost_20 : decode cX0_lastCommittedAtMost 20 = .ok (.ifCond .eq 9, 3) := by decide +kernel
theorem dX0_lastCommittedAtMost_23 : decode cX0_lastCommittedAtMost 23 = .ok (.iinc 3 (-1), 3) := by decide +kernel
theorem dX0_lastCommittedAtMost_26 : decode cX0_lastCommittedAtMost 26 = .ok (.goto (-20), 3) := by decide +kernel
theorem dX0_lastCommittedAtMost_29 : decode cX0_lastCommittedAtMost 29 = .ok (.iload_n 3, 1) := by decide +kernel
theorem dX0_lastCommittedAtMost_30 : decode cX0_lastCommittedAtMost 30 = .ok (.ireturn, 1) := by decide +kernel
theorem dX0_lowestNeededTimestamp_0 : decode cX0_lowestNeededTimestamp 0 = .ok (.aload_n 0, 1) := by decide +kernel
theorem dX0_lowestNeededTimestamp_1 : decode cX0_lowestNeededTimestamp 1 = .ok (.getfield 15, 3) := by decide +kernel
theorem dX0_lowestNeededTimestamp_4 : decode cX0_lowestNeededTimestamp 4 = .ok (.istore_n 1, 1) := by decide +kernel
theorem dX0_lowestNeededTimestamp_5 : decode cX0_lowestNeededTimestamp 5 = .ok (.iconst 0, 1) := by decide +kernel
theorem dX0_lowestNeededTimestamp_6 : decode cX0_lowestNeededTimestamp 6 = .ok (.istore_n 2, 1) := by decide +kernel
theorem dX0_lowestNeededTimestamp_7 : decode cX0_lowestNeededTimestamp 7 = .ok (.iload_n 2, 1) := by decide +kernel
theorem dX0_lowestNeededTimestamp_8 : decode cX0_lowestNeededTimestamp 8 = .ok (.aload_n 0, 1) := by decide +kernel
theorem dX0_lowestNeededTimestamp_9 : decode cX0_lowestNeededTimestamp 9 = .ok (.getfield 18, 3) := by decide +kernel
theorem dX0_lowestNeededTimestamp_12 : decode cX0_lowestNeededTimestamp 12 = .ok (.if_icmp .ge 35, 3) := by decide +kernel
theorem dX0_lowestNeededTimestamp_15 : decode cX0_lowestNeededTimestamp 15 = .ok (.aload_n 0, 1) := by decide +kernel
theorem dX0_lowestNeededTimestamp_16 : decode cX0_lowestNeededTimestamp 16 = .ok (.getfield 23, 3) := by decide +kernel
theorem dX0_lowestNeededTimestamp_19 : decode cX0_lowestNeededTimestamp 19 = .ok (.iload_n 2, 1) := by decide +kernel
theorem dX0_lowestNeededTimestamp_20 : decode cX0_lowestNeededTimestamp 20 = .ok (.aaload, 1) := by decide +kernel
theorem dX0_lowestNeededTimestamp_21 : decode cX0_lowestNeededTimestamp 21 = .ok (.invokevirtual 182, 3) := by decide +kernel
theorem dX0_lowestNeededTimestamp_24 : decode cX0_lowestNeededTimestamp 24 = .ok (.ifCond .eq 17, 3) := by decide +kernel
theorem dX0_lowestNeededTimestamp_27 : decode cX0_lowestNeededTimestamp 27 = .ok (.iload_n 1, 1) := by decide +kernel
theorem dX0_lowestNeededTimestamp_28 : decode cX0_lowestNeededTimestamp 28 = .ok (.aload_n 0, 1) := by decide +kernel
theorem dX0_lowestNeededTimestamp_29 : decode cX0_lowestNeededTimestamp 29 = .ok (.getfield 23, 3) := by decide +kernel
theorem dX0_lowestNeededTimestamp_32 : decode cX0_lowestNeededTimestamp 32 = .ok (.iload_n 2, 1) := by decide +kernel
theorem dX0_lowestNeededTimestamp_33 : decode cX0_lowestNeededTimestamp 33 = .ok (.aaload, 1) := by decide +kernel
theorem dX0_lowestNeededTimestamp_34 : decode cX0_lowestNeededTimestamp 34 = .ok (.getfield 110, 3) := by decide +kernel
theorem dX0_lowestNeededTimestamp_37 : decode cX0_lowestNeededTimestamp 37 = .ok (.invokestatic 191, 3) := by decide +kernel
theorem dX0_lowestNeededTimestamp_40 : decode cX0_lowestNeededTimestamp 40 = .ok (.istore_n 1, 1) := by decide +kernel
theorem dX0_lowestNeededTimestamp_41 : decode cX0_lowestNeededTimestamp 41 = .ok (.iinc 2 1, 3) := by decide +kernel
theorem dX0_lowestNeededTimestamp_44 : decode cX0_lowestNeededTimestamp 44 = .ok (.goto (-37), 3) := by decide +kernel
theorem dX0_lowestNeededTimestamp_47 : decode cX0_lowestNeededTimestamp 47 = .ok (.iload_n 1, 1) := by decide +kernel
theorem dX0_lowestNeededTimestamp_48 : decode cX0_lowestNeededTimestamp 48 = .ok (.ireturn, 1) := by decide +kernel
theorem dX0_removeOldVersions_0 : decode cX0_removeOldVersions 0 = .ok (.aload_n 0, 1) := by decide +kernel
theorem dX0_removeOldVersions_1 : decode cX0_removeOldVersions 1 = .ok (.invokevirtual 196, 3) := by decide +kernel
theorem dX0_removeOldVersions_4 : decode cX0_removeOldVersions 4 = .ok (.istore_n 1, 1) := by decide +kernel
theorem dX0_removeOldVersions_5 : decode cX0_removeOldVersions 5 = .ok (.iconst 0, 1) := by decide +kernel
theorem dX0_removeOldVersions_6 : decode cX0_removeOldVersions 6 = .ok (.istore_n 2, 1) := by decide +kernel
theorem dX0_removeOldVersions_7 : decode cX0_removeOldVersions 7 = .ok (.iconst 0, 1) := by decide +kernel
theorem dX0_removeOldVersions_8 : decode cX0_removeOldVersions 8 = .ok (.istore_n 3, 1) := by decide +kernel
theorem dX0_removeOldVersions_9 : decode cX0_removeOldVersions 9 = .ok (.iload_n 3, 1) := by decide +kernel
theorem dX0_removeOldVersions_10 : decode cX0_removeOldVersions 10 = .ok (.bipush 8, 2) := by decide +kernel
theorem dX0_removeOldVersions_12 : decode cX0_removeOldVersions 12 = .ok (.if_icmp .ge 43, 3) := by decide +kernel
theorem dX0_removeOldVersions_15 : decode cX0_removeOldVersions 15 = .ok (.aload_n 0, 1) := by decide +kernel
theorem dX0_removeOldVersions_16 : decode cX0_removeOldVersions 16 = .ok (.aload_n 0, 1) := by decide +kernel
theorem dX0_removeOldVersions_17 : decode cX0_removeOldVersions 17 = .ok (.getfield 30, 3) := by decide +kernel
theorem dX0_removeOldVersions_20 : decode cX0_removeOldVersions 20 = .ok (.iload_n 3, 1) := by decide +kernel
theorem dX0_removeOldVersions_21 : decode cX0_removeOldVersions 21 = .ok (.aaload, 1) := by decide +kernel
theorem dX0_removeOldVersions_22 : decode cX0_removeOldVersions 22 = .ok (.iload_n 1, 1) := by decide +kernel
theorem dX0_removeOldVersions_23 : decode cX0_removeOldVersions 23 = .ok (.invokevirtual 199, 3) := by decide +kernel
theorem dX0_removeOldVersions_26 : decode cX0_removeOldVersions 26 = .ok (.istore 4, 2) := by decide +kernel
theorem dX0_removeOldVersions_28 : decode cX0_removeOldVersions 28 = .ok (.iload 4, 2) := by decide +kernel
theorem dX0_removeOldVersions_30 : decode cX0_removeOldVersions 30 = .ok (.ifCond .le 19, 3) := by decide +kernel
theorem dX0_removeOldVersions_33 : decode cX0_removeOldVersions 33 = .ok (.aload_n 0, 1) := by decide +kernel
theorem dX0_removeOldVersions_34 : decode cX0_removeOldVersions 34 = .ok (.getfield 30, 3) := by decide +kernel
theorem dX0_removeOldVersions_37 : decode cX0_removeOldVersions 37 = .ok (.iload_n 3, 1) := by decide +kernel
theorem dX0_removeOldVersions_38 : decode cX0_removeOldVersions 38 = .ok (.aaload, 1) := by decide +kernel
theorem dX0_removeOldVersions_39 : decode cX0_removeOldVersions 39 = .ok (.iload 4, 2) := by decide +kernel
theorem dX0_removeOldVersions_41 : decode cX0_removeOldVersions 41 = .ok (.invokevirtual 203, 3) := by decide +kernel
theorem dX0_removeOldVersions_44 : decode cX0_removeOldVersions 44 = .ok (.iload_n 2, 1) := by decide +kernel
theorem dX0_removeOldVersions_45 : decode cX0_removeOldVersions 45 = .ok (.iload 4, 2) := by decide +kernel
theorem dX0_removeOldVersions_47 : decode cX0_removeOldVersions 47 = .ok (.iadd, 1) := by decide +kernel
theorem dX0_removeOldVersions_48 : decode cX0_removeOldVersions 48 = .ok (.istore_n 2, 1) := by decide +kernel
theorem dX0_removeOldVersions_49 : decode cX0_removeOldVersions 49 = .ok (.iinc 3 1, 3) := by decide +kernel
theorem dX0_removeOldVersions_52 : decode cX0_removeOldVersions 52 = .ok (.goto (-43), 3) := by decide +kernel
theorem dX0_removeOldVersions_55 : decode cX0_removeOldVersions 55 = .ok (.iload_n 2, 1) := by decide +kernel
theorem dX0_removeOldVersions_56 : decode cX0_removeOldVersions 56 = .ok (.ireturn, 1) := by decide +kernel
theorem dX0_nextCommittedAfter_0 : decode cX0_nextCommittedAfter 0 = .ok (.iconst (-1), 1) := by decide +kernel
theorem dX0_nextCommittedAfter_1 : decode cX0_nextCommittedAfter 1 = .ok (.istore_n 2, 1) := by decide +kernel
theorem dX0_nextCommittedAfter_2 : decode cX0_nextCommittedAfter 2 = .ok (.iconst 0, 1) := by decide +kernel
theorem dX0_nextCommittedAfter_3 : decode cX0_nextCommittedAfter 3 = .ok (.istore_n 3, 1) := by decide +kernel
theorem dX0_nextCommittedAfter_4 : decode cX0_nextCommittedAfter 4 = .ok (.iload_n 3, 1) := by decide +kernel
theorem dX0_nextCommittedAfter_5 : decode cX0_nextCommittedAfter 5 = .ok (.aload_n 0, 1) := by decide +kernel
theorem dX0_nextCommittedAfter_6 : decode cX0_nextCommittedAfter 6 = .ok (.getfield 18, 3) := by decide +kernel
theorem dX0_nextCommittedAfter_9 : decode cX0_nextCommittedAfter 9 = .ok (.if_icmp .ge 58, 3) := by decide +kernel
theorem dX0_nextCommittedAfter_12 : decode cX0_nextCommittedAfter 12 = .ok (.aload_n 0, 1) := by decide +kernel
theorem dX0_nextCommittedAfter_13 : decode cX0_nextCommittedAfter 13 = .ok (.getfield 23, 3) := by decide +kernel
theorem dX0_nextCommittedAfter_16 : decode cX0_nextCommittedAfter 16 = .ok (.iload_n 3, 1) := by decide +kernel
theorem dX0_nextCommittedAfter_17 : decode cX0_nextCommittedAfter 17 = .ok (.aaload, 1) := by decide +kernel
theorem dX0_nextCommittedAfter_18 : decode cX0_nextCommittedAfter 18 = .ok (.astore 4, 2) := by decide +kernel
theorem dX0_nextCommittedAfter_20 : decode cX0_nextCommittedAfter 20 = .ok (.aload 4, 2) := by decide +kernel
theorem dX0_nextCommittedAfter_22 : decode cX0_nextCommittedAfter 22 = .ok (.getfield 151, 3) := by decide +kernel
theorem dX0_nextCommittedAfter_25 : decode cX0_nextCommittedAfter 25 = .ok (.iconst 2, 1) := by decide +kernel
theorem dX0_nextCommittedAfter_26 : decode cX0_nextCommittedAfter 26 = .ok (.if_icmp .ne 35, 3) := by decide +kernel
theorem dX0_nextCommittedAfter_29 : decode cX0_nextCommittedAfter 29 = .ok (.aload 4, 2) := by decide +kernel
theorem dX0_nextCommittedAfter_31 : decode cX0_nextCommittedAfter 31 = .ok (.getfield 110, 3) := by decide +kernel
theorem dX0_nextCommittedAfter_34 : decode cX0_nextCommittedAfter 34 = .ok (.iload_n 1, 1) := by decide +kernel
theorem dX0_nextCommittedAfter_35 : decode cX0_nextCommittedAfter 35 = .ok (.if_icmp .le 26, 3) := by decide +kernel
theorem dX0_nextCommittedAfter_38 : decode cX0_nextCommittedAfter 38 = .ok (.iload_n 2, 1) := by decide +kernel
theorem dX0_nextCommittedAfter_39 : decode cX0_nextCommittedAfter 39 = .ok (.ifCond .lt 20, 3) := by decide +kernel
theorem dX0_nextCommittedAfter_42 : decode cX0_nextCommittedAfter 42 = .ok (.aload 4, 2) := by decide +kernel
theorem dX0_nextCommittedAfter_44 : decode cX0_nextCommittedAfter 44 = .ok (.getfield 110, 3) := by decide +kernel
theorem dX0_nextCommittedAfter_47 : decode cX0_nextCommittedAfter 47 = .ok (.aload_n 0, 1) := by decide +kernel
theorem dX0_nextCommittedAfter_48 : decode cX0_nextCommittedAfter 48 = .ok (.getfield 23, 3) := by decide +kernel
theorem dX0_nextCommittedAfter_51 : decode cX0_nextCommittedAfter 51 = .ok (.iload_n 2, 1) := by decide +kernel
theorem dX0_nextCommittedAfter_52 : decode cX0_nextCommittedAfter 52 = .ok (.aaload, 1) := by decide +kernel
theorem dX0_nextCommittedAfter_53 : decode cX0_nextCommittedAfter 53 = .ok (.getfield 110, 3) := by decide +kernel
theorem dX0_nextCommittedAfter_56 : decode cX0_nextCommittedAfter 56 = .ok (.if_icmp .ge 5, 3) := by decide +kernel
theorem dX0_nextCommittedAfter_59 : decode cX0_nextCommittedAfter 59 = .ok (.iload_n 3, 1) := by decide +kernel
theorem dX0_nextCommittedAfter_60 : decode cX0_nextCommittedAfter 60 = .ok (.istore_n 2, 1) := by decide +kernel
theorem dX0_nextCommittedAfter_61 : decode cX0_nextCommittedAfter 61 = .ok (.iinc 3 1, 3) := by decide +kernel
theorem dX0_nextCommittedAfter_64 : decode cX0_nextCommittedAfter 64 = .ok (.goto (-60), 3) := by decide +kernel
theorem dX0_nextCommittedAfter_67 : decode cX0_nextCommittedAfter 67 = .ok (.iload_n 2, 1) := by decide +kernel
theorem dX0_nextCommittedAfter_68 : decode cX0_nextCommittedAfter 68 = .ok (.ireturn, 1) := by decide +kernel
theorem dX0_serialDifferences_0 : decode cX0_serialDifferences 0 = .ok (.iconst 0, 1) := by decide +kernel
theorem dX0_serialDifferences_1 : decode cX0_serialDifferences 1 = .ok (.istore_n 1, 1) := by decide +kernel
theorem dX0_serialDifferences_2 : decode cX0_serialDifferences 2 = .ok (.iload_n 1, 1) := by decide +kernel
theorem dX0_serialDifferences_3 : decode cX0_serialDifferences 3 = .ok (.bipush 8, 2) := by decide +kernel
theorem dX0_serialDifferences_5 : decode cX0_serialDifferences 5 = .ok (.if_icmp .ge 16, 3) := by decide +kernel
theorem dX0_serialDifferences_8 : decode cX0_serialDifferences 8 = .ok (.aload_n 0, 1) := by decide +kernel
theorem dX0_serialDifferences_9 : decode cX0_serialDifferences 9 = .ok (.getfield 42, 3) := by decide +kernel
theorem dX0_serialDifferences_12 : decode cX0_serialDifferences 12 = .ok (.iload_n 1, 1) := by decide +kernel
theorem dX0_serialDifferences_13 : decode cX0_serialDifferences 13 = .ok (.iconst 0, 1) := by decide +kernel
theorem dX0_serialDifferences_14 : decode cX0_serialDifferences 14 = .ok (.iastore, 1) := by decide +kernel
theorem dX0_serialDifferences_15 : decode cX0_serialDifferences 15 = .ok (.iinc 1 1, 3) := by decide +kernel
theorem dX0_serialDifferences_18 : decode cX0_serialDifferences 18 = .ok (.goto (-16), 3) := by decide +kernel
theorem dX0_serialDifferences_21 : decode cX0_serialDifferences 21 = .ok (.iconst 0, 1) := by decide +kernel
theorem dX0_serialDifferences_22 : decode cX0_serialDifferences 22 = .ok (.istore_n 1, 1) := by decide +kernel
theorem dX0_serialDifferences_23 : decode cX0_serialDifferences 23 = .ok (.aload_n 0, 1) := by decide +kernel
theorem dX0_serialDifferences_24 : decode cX0_serialDifferences 24 = .ok (.iconst 0, 1) := by decide +kernel
theorem dX0_serialDifferences_25 : decode cX0_serialDifferences 25 = .ok (.invokevirtual 206, 3) := by decide +kernel
theorem dX0_serialDifferences_28 : decode cX0_serialDifferences 28 = .ok (.istore_n 2, 1) := by decide +kernel
theorem dX0_serialDifferences_29 : decode cX0_serialDifferences 29 = .ok (.iconst 0, 1) := by decide +kernel
theorem dX0_serialDifferences_30 : decode cX0_serialDifferences 30 = .ok (.istore_n 3, 1) := by decide +kernel
theorem dX0_serialDifferences_31 : decode cX0_serialDifferences 31 = .ok (.iload_n 3, 1) := by decide +kernel
theorem dX0_serialDifferences_32 : decode cX0_serialDifferences 32 = .ok (.bipush 16, 2) := by decide +kernel
theorem dX0_serialDifferences_34 : decode cX0_serialDifferences 34 = .ok (.if_icmp .ge 43, 3) := by decide +kernel
theorem dX0_serialDifferences_37 : decode cX0_serialDifferences 37 = .ok (.iload_n 2, 1) := by decide +kernel
theorem dX0_serialDifferences_38 : decode cX0_serialDifferences 38 = .ok (.ifCond .lt 39, 3) := by decide +kernel
theorem dX0_serialDifferences_41 : decode cX0_serialDifferences 41 = .ok (.iload_n 1, 1) := by decide +kernel
theorem dX0_serialDifferences_42 : decode cX0_serialDifferences 42 = .ok (.aload_n 0, 1) := by decide +kernel
theorem dX0_serialDifferences_43 : decode cX0_serialDifferences 43 = .ok (.getfield 23, 3) := by decide +kernel
theorem dX0_serialDifferences_46 : decode cX0_serialDifferences 46 = .ok (.iload_n 2, 1) := by decide +kernel
theorem dX0_serialDifferences_47 : decode cX0_serialDifferences 47 = .ok (.aaload, 1) := by decide +kernel
theorem dX0_serialDifferences_48 : decode cX0_serialDifferences 48 = .ok (.aload_n 0, 1) := by decide +kernel
theorem dX0_serialDifferences_49 : decode cX0_serialDifferences 49 = .ok (.getfield 42, 3) := by decide +kernel
theorem dX0_serialDifferences_52 : decode cX0_serialDifferences 52 = .ok (.invokevirtual 209, 3) := by decide +kernel
theorem dX0_serialDifferences_55 : decode cX0_serialDifferences 55 = .ok (.iadd, 1) := by decide +kernel
theorem dX0_serialDifferences_56 : decode cX0_serialDifferences 56 = .ok (.istore_n 1, 1) := by decide +kernel
theorem dX0_serialDifferences_57 : decode cX0_serialDifferences 57 = .ok (.aload_n 0, 1) := by decide +kernel
theorem dX0_serialDifferences_58 : decode cX0_serialDifferences 58 = .ok (.aload_n 0, 1) := by decide +kernel
theorem dX0_serialDifferences_59 : decode cX0_serialDifferences 59 = .ok (.getfield 23, 3) := by decide +kernel
theorem dX0_serialDifferences_62 : decode cX0_serialDifferences 62 = .ok (.iload_n 2, 1) := by decide +kernel
theorem dX0_serialDifferences_63 : decode cX0_serialDifferences 63 = .ok (.aaload, 1) := by decide +kernel
theorem dX0_serialDifferences_64 : decode cX0_serialDifferences 64 = .ok (.getfield 110, 3) := by decide +kernel
theorem dX0_serialDifferences_67 : decode cX0_serialDifferences 67 = .ok (.invokevirtual 206, 3) := by decide +kernel
theorem dX0_serialDifferences_70 : decode cX0_serialDifferences 70 = .ok (.istore_n 2, 1) := by decide +kernel
theorem dX0_serialDifferences_71 : decode cX0_serialDifferences 71 = .ok (.iinc 3 1, 3) := by decide +kernel
theorem dX0_serialDifferences_74 : decode cX0_serialDifferences 74 = .ok (.goto (-43), 3) := by decide +kernel
theorem dX0_serialDifferences_77 : decode cX0_serialDifferences 77 = .ok (.iconst 0, 1) := by decide +kernel
theorem dX0_serialDifferences_78 : decode cX0_serialDifferences 78 = .ok (.istore_n 3, 1) := by decide +kernel
theorem dX0_serialDifferences_79 : decode cX0_serialDifferences 79 = .ok (.iload_n 3, 1) := by decide +kernel
theorem dX0_serialDifferences_80 : decode cX0_serialDifferences 80 = .ok (.bipush 8, 2) := by decide +kernel
theorem dX0_serialDifferences_82 : decode cX0_serialDifferences 82 = .ok (.if_icmp .ge 52, 3) := by decide +kernel
theorem dX0_serialDifferences_85 : decode cX0_serialDifferences 85 = .ok (.aload_n 0, 1) := by decide +kernel
theorem dX0_serialDifferences_86 : decode cX0_serialDifferences 86 = .ok (.aload_n 0, 1) := by decide +kernel
theorem dX0_serialDifferences_87 : decode cX0_serialDifferences 87 = .ok (.getfield 30, 3) := by decide +kernel
theorem dX0_serialDifferences_90 : decode cX0_serialDifferences 90 = .ok (.iload_n 3, 1) := by decide +kernel
theorem dX0_serialDifferences_91 : decode cX0_serialDifferences 91 = .ok (.aaload, 1) := by decide +kernel
theorem dX0_serialDifferences_92 : decode cX0_serialDifferences 92 = .ok (.ldc 215, 2) := by decide +kernel
theorem dX0_serialDifferences_94 : decode cX0_serialDifferences 94 = .ok (.invokevirtual 199, 3) := by decide +kernel
theorem dX0_serialDifferences_97 : decode cX0_serialDifferences 97 = .ok (.istore 4, 2) := by decide +kernel
theorem dX0_serialDifferences_99 : decode cX0_serialDifferences 99 = .ok (.iload 4, 2) := by decide +kernel
theorem dX0_serialDifferences_101 : decode cX0_serialDifferences 101 = .ok (.ifCond .lt 27, 3) := by decide +kernel
theorem dX0_serialDifferences_104 : decode cX0_serialDifferences 104 = .ok (.aload_n 0, 1) := by decide +kernel
theorem dX0_serialDifferences_105 : decode cX0_serialDifferences 105 = .ok (.getfield 30, 3) := by decide +kernel
theorem dX0_serialDifferences_108 : decode cX0_serialDifferences 108 = .ok (.iload_n 3, 1) := by decide +kernel
theorem dX0_serialDifferences_109 : decode cX0_serialDifferences 109 = .ok (.aaload, 1) := by decide +kernel
theorem dX0_serialDifferences_110 : decode cX0_serialDifferences 110 = .ok (.getfield 98, 3) := by decide +kernel
theorem dX0_serialDifferences_113 : decode cX0_serialDifferences 113 = .ok (.iload 4, 2) := by decide +kernel
theorem dX0_serialDifferences_115 : decode cX0_serialDifferences 115 = .ok (.iaload, 1) := by decide +kernel
theorem dX0_serialDifferences_116 : decode cX0_serialDifferences 116 = .ok (.aload_n 0, 1) := by decide +kernel
theorem dX0_serialDifferences_117 : decode cX0_serialDifferences 117 = .ok (.getfield 42, 3) := by decide +kernel
theorem dX0_serialDifferences_120 : decode cX0_serialDifferences 120 = .ok (.iload_n 3, 1) := by decide +kernel
theorem dX0_serialDifferences_121 : decode cX0_serialDifferences 121 = .ok (.iaload, 1) := by decide +kernel
theorem dX0_serialDifferences_122 : decode cX0_serialDifferences 122 = .ok (.if_icmp .eq 6, 3) := by decide +kernel
theorem dX0_serialDifferences_125 : decode cX0_serialDifferences 125 = .ok (.iinc 1 1, 3) := by decide +kernel
theorem dX0_serialDifferences_128 : decode cX0_serialDifferences 128 = .ok (.iinc 3 1, 3) := by decide +kernel
theorem dX0_serialDifferences_131 : decode cX0_serialDifferences 131 = .ok (.goto (-52), 3) := by decide +kernel
theorem dX0_serialDifferences_134 : decode cX0_serialDifferences 134 = .ok (.iload_n 1, 1) := by decide +kernel
theorem dX0_serialDifferences_135 : decode cX0_serialDifferences 135 = .ok (.ireturn, 1) := by decide +kernel

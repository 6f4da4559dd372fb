theorem dX7_copyRow_91 : decode cX7_copyRow 91 = .ok (.ireturn, 1) := by decide +kernel
theorem dX7_copyRow_92 : decode cX7_copyRow 92 = .ok (.aload_n 0, 1) := by decide +kernel
theorem dX7_copyRow_93 : decode cX7_copyRow 93 = .ok (.iload_n 1, 1) := by decide +kernel
theorem dX7_copyRow_94 : decode cX7_copyRow 94 = .ok (.iload_n 2, 1) := by decide +kernel
theorem dX7_copyRow_95 : decode cX7_copyRow 95 = .ok (.invokevirtual 251, 3) := by decide +kernel
theorem dX7_copyRow_98 : decode cX7_copyRow 98 = .ok (.aload_n 0, 1) := by decide +kernel
theorem dX7_copyRow_99 : decode cX7_copyRow 99 = .ok (.getfield 71, 3) := by decide +kernel
theorem dX7_copyRow_102 : decode cX7_copyRow 102 = .ok (.iload_n 1, 1) := by decide +kernel
theorem dX7_copyRow_103 : decode cX7_copyRow 103 = .ok (.iaload, 1) := by decide +kernel
theorem dX7_copyRow_104 : decode cX7_copyRow 104 = .ok (.ireturn, 1) := by decide +kernel
theorem dX7_pass_0 : decode cX7_pass 0 = .ok (.aload_n 0, 1) := by decide +kernel
theorem dX7_pass_1 : decode cX7_pass 1 = .ok (.getfield 255, 3) := by decide +kernel
theorem dX7_pass_4 : decode cX7_pass 4 = .ok (.ifCond .ne 13, 3) := by decide +kernel
theorem dX7_pass_7 : decode cX7_pass 7 = .ok (.aload_n 0, 1) := by decide +kernel
theorem dX7_pass_8 : decode cX7_pass 8 = .ok (.getfield 81, 3) := by decide +kernel
theorem dX7_pass_11 : decode cX7_pass 11 = .ok (.aload_n 0, 1) := by decide +kernel
theorem dX7_pass_12 : decode cX7_pass 12 = .ok (.getfield 259, 3) := by decide +kernel
theorem dX7_pass_15 : decode cX7_pass 15 = .ok (.iload_n 1, 1) := by decide +kernel
theorem dX7_pass_16 : decode cX7_pass 16 = .ok (.iastore, 1) := by decide +kernel
theorem dX7_pass_17 : decode cX7_pass 17 = .ok (.aload_n 0, 1) := by decide +kernel
theorem dX7_pass_18 : decode cX7_pass 18 = .ok (.dup, 1) := by decide +kernel
theorem dX7_pass_19 : decode cX7_pass 19 = .ok (.getfield 259, 3) := by decide +kernel
theorem dX7_pass_22 : decode cX7_pass 22 = .ok (.iconst 1, 1) := by decide +kernel
theorem dX7_pass_23 : decode cX7_pass 23 = .ok (.iadd, 1) := by decide +kernel
theorem dX7_pass_24 : decode cX7_pass 24 = .ok (.putfield 259, 3) := by decide +kernel
theorem dX7_pass_27 : decode cX7_pass 27 = .ok (.aload_n 0, 1) := by decide +kernel
theorem dX7_pass_28 : decode cX7_pass 28 = .ok (.getfield 81, 3) := by decide +kernel
theorem dX7_pass_31 : decode cX7_pass 31 = .ok (.aload_n 0, 1) := by decide +kernel
theorem dX7_pass_32 : decode cX7_pass 32 = .ok (.getfield 259, 3) := by decide +kernel
theorem dX7_pass_35 : decode cX7_pass 35 = .ok (.iconst 1, 1) := by decide +kernel
theorem dX7_pass_36 : decode cX7_pass 36 = .ok (.isub, 1) := by decide +kernel
theorem dX7_pass_37 : decode cX7_pass 37 = .ok (.iaload, 1) := by decide +kernel
theorem dX7_pass_38 : decode cX7_pass 38 = .ok (.ireturn, 1) := by decide +kernel
theorem dX7_passRow_0 : decode cX7_passRow 0 = .ok (.iconst 0, 1) := by decide +kernel
theorem dX7_passRow_1 : decode cX7_passRow 1 = .ok (.istore_n 2, 1) := by decide +kernel
theorem dX7_passRow_2 : decode cX7_passRow 2 = .ok (.iload_n 2, 1) := by decide +kernel
theorem dX7_passRow_3 : decode cX7_passRow 3 = .ok (.aload_n 1, 1) := by decide +kernel
theorem dX7_passRow_4 : decode cX7_passRow 4 = .ok (.arraylength, 1) := by decide +kernel
theorem dX7_passRow_5 : decode cX7_passRow 5 = .ok (.if_icmp .ge 19, 3) := by decide +kernel
theorem dX7_passRow_8 : decode cX7_passRow 8 = .ok (.aload_n 1, 1) := by decide +kernel
theorem dX7_passRow_9 : decode cX7_passRow 9 = .ok (.iload_n 2, 1) := by decide +kernel
theorem dX7_passRow_10 : decode cX7_passRow 10 = .ok (.aload_n 0, 1) := by decide +kernel
theorem dX7_passRow_11 : decode cX7_passRow 11 = .ok (.aload_n 1, 1) := by decide +kernel
theorem dX7_passRow_12 : decode cX7_passRow 12 = .ok (.iload_n 2, 1) := by decide +kernel
theorem dX7_passRow_13 : decode cX7_passRow 13 = .ok (.iaload, 1) := by decide +kernel
theorem dX7_passRow_14 : decode cX7_passRow 14 = .ok (.invokevirtual 262, 3) := by decide +kernel
theorem dX7_passRow_17 : decode cX7_passRow 17 = .ok (.iastore, 1) := by decide +kernel
theorem dX7_passRow_18 : decode cX7_passRow 18 = .ok (.iinc 2 1, 3) := by decide +kernel
theorem dX7_passRow_21 : decode cX7_passRow 21 = .ok (.goto (-19), 3) := by decide +kernel
theorem dX7_passRow_24 : decode cX7_passRow 24 = .ok (.return_, 1) := by decide +kernel
theorem dX7_passAll_0 : decode cX7_passAll 0 = .ok (.aload_n 0, 1) := by decide +kernel
theorem dX7_passAll_1 : decode cX7_passAll 1 = .ok (.iload_n 1, 1) := by decide +kernel
theorem dX7_passAll_2 : decode cX7_passAll 2 = .ok (.putfield 255, 3) := by decide +kernel
theorem dX7_passAll_5 : decode cX7_passAll 5 = .ok (.aload_n 0, 1) := by decide +kernel
theorem dX7_passAll_6 : decode cX7_passAll 6 = .ok (.iconst 0, 1) := by decide +kernel
theorem dX7_passAll_7 : decode cX7_passAll 7 = .ok (.putfield 259, 3) := by decide +kernel
theorem dX7_passAll_10 : decode cX7_passAll 10 = .ok (.aload_n 0, 1) := by decide +kernel
theorem dX7_passAll_11 : decode cX7_passAll 11 = .ok (.aload_n 0, 1) := by decide +kernel
theorem dX7_passAll_12 : decode cX7_passAll 12 = .ok (.aload_n 0, 1) := by decide +kernel
theorem dX7_passAll_13 : decode cX7_passAll 13 = .ok (.getfield 15, 3) := by decide +kernel
theorem dX7_passAll_16 : decode cX7_passAll 16 = .ok (.invokevirtual 262, 3) := by decide +kernel
theorem dX7_passAll_19 : decode cX7_passAll 19 = .ok (.putfield 15, 3) := by decide +kernel
theorem dX7_passAll_22 : decode cX7_passAll 22 = .ok (.aload_n 0, 1) := by decide +kernel
theorem dX7_passAll_23 : decode cX7_passAll 23 = .ok (.aload_n 0, 1) := by decide +kernel
theorem dX7_passAll_24 : decode cX7_passAll 24 = .ok (.aload_n 0, 1) := by decide +kernel
theorem dX7_passAll_25 : decode cX7_passAll 25 = .ok (.getfield 103, 3) := by decide +kernel
theorem dX7_passAll_28 : decode cX7_passAll 28 = .ok (.invokevirtual 262, 3) := by decide +kernel
theorem dX7_passAll_31 : decode cX7_passAll 31 = .ok (.putfield 103, 3) := by decide +kernel
theorem dX7_passAll_34 : decode cX7_passAll 34 = .ok (.aload_n 0, 1) := by decide +kernel
theorem dX7_passAll_35 : decode cX7_passAll 35 = .ok (.aload_n 0, 1) := by decide +kernel
theorem dX7_passAll_36 : decode cX7_passAll 36 = .ok (.aload_n 0, 1) := by decide +kernel
theorem dX7_passAll_37 : decode cX7_passAll 37 = .ok (.getfield 18, 3) := by decide +kernel
theorem dX7_passAll_40 : decode cX7_passAll 40 = .ok (.invokevirtual 262, 3) := by decide +kernel
theorem dX7_passAll_43 : decode cX7_passAll 43 = .ok (.putfield 18, 3) := by decide +kernel
theorem dX7_passAll_46 : decode cX7_passAll 46 = .ok (.aload_n 0, 1) := by decide +kernel
theorem dX7_passAll_47 : decode cX7_passAll 47 = .ok (.aload_n 0, 1) := by decide +kernel
theorem dX7_passAll_48 : decode cX7_passAll 48 = .ok (.aload_n 0, 1) := by decide +kernel
theorem dX7_passAll_49 : decode cX7_passAll 49 = .ok (.getfield 106, 3) := by decide +kernel
theorem dX7_passAll_52 : decode cX7_passAll 52 = .ok (.invokevirtual 262, 3) := by decide +kernel
theorem dX7_passAll_55 : decode cX7_passAll 55 = .ok (.putfield 106, 3) := by decide +kernel
theorem dX7_passAll_58 : decode cX7_passAll 58 = .ok (.aload_n 0, 1) := by decide +kernel
theorem dX7_passAll_59 : decode cX7_passAll 59 = .ok (.aload_n 0, 1) := by decide +kernel
theorem dX7_passAll_60 : decode cX7_passAll 60 = .ok (.getfield 21, 3) := by decide +kernel
theorem dX7_passAll_63 : decode cX7_passAll 63 = .ok (.invokevirtual 265, 3) := by decide +kernel
theorem dX7_passAll_66 : decode cX7_passAll 66 = .ok (.aload_n 0, 1) := by decide +kernel
theorem dX7_passAll_67 : decode cX7_passAll 67 = .ok (.aload_n 0, 1) := by decide +kernel
theorem dX7_passAll_68 : decode cX7_passAll 68 = .ok (.getfield 25, 3) := by decide +kernel
theorem dX7_passAll_71 : decode cX7_passAll 71 = .ok (.invokevirtual 265, 3) := by decide +kernel
theorem dX7_passAll_74 : decode cX7_passAll 74 = .ok (.aload_n 0, 1) := by decide +kernel
theorem dX7_passAll_75 : decode cX7_passAll 75 = .ok (.aload_n 0, 1) := by decide +kernel
theorem dX7_passAll_76 : decode cX7_passAll 76 = .ok (.getfield 28, 3) := by decide +kernel
theorem dX7_passAll_79 : decode cX7_passAll 79 = .ok (.invokevirtual 265, 3) := by decide +kernel
theorem dX7_passAll_82 : decode cX7_passAll 82 = .ok (.aload_n 0, 1) := by decide +kernel
theorem dX7_passAll_83 : decode cX7_passAll 83 = .ok (.aload_n 0, 1) := by decide +kernel
theorem dX7_passAll_84 : decode cX7_passAll 84 = .ok (.getfield 31, 3) := by decide +kernel
theorem dX7_passAll_87 : decode cX7_passAll 87 = .ok (.invokevirtual 265, 3) := by decide +kernel
theorem dX7_passAll_90 : decode cX7_passAll 90 = .ok (.aload_n 0, 1) := by decide +kernel
theorem dX7_passAll_91 : decode cX7_passAll 91 = .ok (.aload_n 0, 1) := by decide +kernel
theorem dX7_passAll_92 : decode cX7_passAll 92 = .ok (.getfield 34, 3) := by decide +kernel
theorem dX7_passAll_95 : decode cX7_passAll 95 = .ok (.invokevirtual 265, 3) := by decide +kernel
theorem dX7_passAll_98 : decode cX7_passAll 98 = .ok (.aload_n 0, 1) := by decide +kernel
theorem dX7_passAll_99 : decode cX7_passAll 99 = .ok (.aload_n 0, 1) := by decide +kernel
theorem dX7_passAll_100 : decode cX7_passAll 100 = .ok (.getfield 37, 3) := by decide +kernel
theorem dX7_passAll_103 : decode cX7_passAll 103 = .ok (.invokevirtual 265, 3) := by decide +kernel
theorem dX7_passAll_106 : decode cX7_passAll 106 = .ok (.aload_n 0, 1) := by decide +kernel
theorem dX7_passAll_107 : decode cX7_passAll 107 = .ok (.aload_n 0, 1) := by decide +kernel
theorem dX7_passAll_108 : decode cX7_passAll 108 = .ok (.getfield 40, 3) := by decide +kernel
theorem dX7_passAll_111 : decode cX7_passAll 111 = .ok (.invokevirtual 265, 3) := by decide +kernel
theorem dX7_passAll_114 : decode cX7_passAll 114 = .ok (.aload_n 0, 1) := by decide +kernel
theorem dX7_passAll_115 : decode cX7_passAll 115 = .ok (.aload_n 0, 1) := by decide +kernel
theorem dX7_passAll_116 : decode cX7_passAll 116 = .ok (.getfield 43, 3) := by decide +kernel
theorem dX7_passAll_119 : decode cX7_passAll 119 = .ok (.invokevirtual 265, 3) := by decide +kernel
theorem dX7_passAll_122 : decode cX7_passAll 122 = .ok (.aload_n 0, 1) := by decide +kernel
theorem dX7_passAll_123 : decode cX7_passAll 123 = .ok (.aload_n 0, 1) := by decide +kernel
theorem dX7_passAll_124 : decode cX7_passAll 124 = .ok (.getfield 46, 3) := by decide +kernel
theorem dX7_passAll_127 : decode cX7_passAll 127 = .ok (.invokevirtual 265, 3) := by decide +kernel
theorem dX7_passAll_130 : decode cX7_passAll 130 = .ok (.aload_n 0, 1) := by decide +kernel
theorem dX7_passAll_131 : decode cX7_passAll 131 = .ok (.aload_n 0, 1) := by decide +kernel
theorem dX7_passAll_132 : decode cX7_passAll 132 = .ok (.getfield 49, 3) := by decide +kernel
theorem dX7_passAll_135 : decode cX7_passAll 135 = .ok (.invokevirtual 265, 3) := by decide +kernel
theorem dX7_passAll_138 : decode cX7_passAll 138 = .ok (.aload_n 0, 1) := by decide +kernel
theorem dX7_passAll_139 : decode cX7_passAll 139 = .ok (.aload_n 0, 1) := by decide +kernel
theorem dX7_passAll_140 : decode cX7_passAll 140 = .ok (.getfield 52, 3) := by decide +kernel
theorem dX7_passAll_143 : decode cX7_passAll 143 = .ok (.invokevirtual 265, 3) := by decide +kernel
theorem dX7_passAll_146 : decode cX7_passAll 146 = .ok (.return_, 1) := by decide +kernel
theorem dX7_snapshot_0 : decode cX7_snapshot 0 = .ok (.aload_n 0, 1) := by decide +kernel
theorem dX7_snapshot_1 : decode cX7_snapshot 1 = .ok (.iconst 0, 1) := by decide +kernel
theorem dX7_snapshot_2 : decode cX7_snapshot 2 = .ok (.putfield 3, 3) := by decide +kernel
theorem dX7_snapshot_5 : decode cX7_snapshot 5 = .ok (.aload_n 0, 1) := by decide +kernel
theorem dX7_snapshot_6 : decode cX7_snapshot 6 = .ok (.iconst 1, 1) := by decide +kernel
theorem dX7_snapshot_7 : decode cX7_snapshot 7 = .ok (.putfield 269, 3) := by decide +kernel
theorem dX7_snapshot_10 : decode cX7_snapshot 10 = .ok (.aload_n 0, 1) := by decide +kernel
theorem dX7_snapshot_11 : decode cX7_snapshot 11 = .ok (.iconst 0, 1) := by decide +kernel
theorem dX7_snapshot_12 : decode cX7_snapshot 12 = .ok (.invokevirtual 272, 3) := by decide +kernel
theorem dX7_snapshot_15 : decode cX7_snapshot 15 = .ok (.aload_n 0, 1) := by decide +kernel
theorem dX7_snapshot_16 : decode cX7_snapshot 16 = .ok (.getfield 103, 3) := by decide +kernel
theorem dX7_snapshot_19 : decode cX7_snapshot 19 = .ok (.ireturn, 1) := by decide +kernel
theorem dX7_restore_0 : decode cX7_restore 0 = .ok (.aload_n 0, 1) := by decide +kernel
theorem dX7_restore_1 : decode cX7_restore 1 = .ok (.iconst 0, 1) := by decide +kernel
theorem dX7_restore_2 : decode cX7_restore 2 = .ok (.putfield 3, 3) := by decide +kernel
theorem dX7_restore_5 : decode cX7_restore 5 = .ok (.aload_n 0, 1) := by decide +kernel
theorem dX7_restore_6 : decode cX7_restore 6 = .ok (.getfield 269, 3) := by decide +kernel
theorem dX7_restore_9 : decode cX7_restore 9 = .ok (.ifCond .ne 9, 3) := by decide +kernel
theorem dX7_restore_12 : decode cX7_restore 12 = .ok (.aload_n 0, 1) := by decide +kernel
theorem dX7_restore_13 : decode cX7_restore 13 = .ok (.iconst 1, 1) := by decide +kernel
theorem dX7_restore_14 : decode cX7_restore 14 = .ok (.invokevirtual 99, 3) := by decide +kernel
theorem dX7_restore_17 : decode cX7_restore 17 = .ok (.ireturn, 1) := by decide +kernel
theorem dX7_restore_18 : decode cX7_restore 18 = .ok (.aload_n 0, 1) := by decide +kernel
theorem dX7_restore_19 : decode cX7_restore 19 = .ok (.iconst 1, 1) := by decide +kernel
theorem dX7_restore_20 : decode cX7_restore 20 = .ok (.invokevirtual 272, 3) := by decide +kernel
theorem dX7_restore_23 : decode cX7_restore 23 = .ok (.aload_n 0, 1) := by decide +kernel
theorem dX7_restore_24 : decode cX7_restore 24 = .ok (.getfield 103, 3) := by decide +kernel
theorem dX7_restore_27 : decode cX7_restore 27 = .ok (.ireturn, 1) := by decide +kernel

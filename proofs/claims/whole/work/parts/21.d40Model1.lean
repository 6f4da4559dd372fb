theorem dX7_lastUpTo_11 : decode cX7_lastUpTo 11 = .ok (.iload_n 1, 1) := by decide +kernel
theorem dX7_lastUpTo_12 : decode cX7_lastUpTo 12 = .ok (.iaload, 1) := by decide +kernel
theorem dX7_lastUpTo_13 : decode cX7_lastUpTo 13 = .ok (.if_icmp .ge 27, 3) := by decide +kernel
theorem dX7_lastUpTo_16 : decode cX7_lastUpTo 16 = .ok (.aload_n 0, 1) := by decide +kernel
theorem dX7_lastUpTo_17 : decode cX7_lastUpTo 17 = .ok (.iload_n 1, 1) := by decide +kernel
theorem dX7_lastUpTo_18 : decode cX7_lastUpTo 18 = .ok (.iload 4, 2) := by decide +kernel
theorem dX7_lastUpTo_20 : decode cX7_lastUpTo 20 = .ok (.invokevirtual 140, 3) := by decide +kernel
theorem dX7_lastUpTo_23 : decode cX7_lastUpTo 23 = .ok (.iload_n 2, 1) := by decide +kernel
theorem dX7_lastUpTo_24 : decode cX7_lastUpTo 24 = .ok (.if_icmp .gt 8, 3) := by decide +kernel
theorem dX7_lastUpTo_27 : decode cX7_lastUpTo 27 = .ok (.iload 4, 2) := by decide +kernel
theorem dX7_lastUpTo_29 : decode cX7_lastUpTo 29 = .ok (.goto 4, 3) := by decide +kernel
theorem dX7_lastUpTo_32 : decode cX7_lastUpTo 32 = .ok (.iload_n 3, 1) := by decide +kernel
theorem dX7_lastUpTo_33 : decode cX7_lastUpTo 33 = .ok (.istore_n 3, 1) := by decide +kernel
theorem dX7_lastUpTo_34 : decode cX7_lastUpTo 34 = .ok (.iinc 4 1, 3) := by decide +kernel
theorem dX7_lastUpTo_37 : decode cX7_lastUpTo 37 = .ok (.goto (-32), 3) := by decide +kernel
theorem dX7_lastUpTo_40 : decode cX7_lastUpTo 40 = .ok (.iload_n 3, 1) := by decide +kernel
theorem dX7_lastUpTo_41 : decode cX7_lastUpTo 41 = .ok (.ireturn, 1) := by decide +kernel
theorem dX7_doRead_0 : decode cX7_doRead 0 = .ok (.aload_n 0, 1) := by decide +kernel
theorem dX7_doRead_1 : decode cX7_doRead 1 = .ok (.getfield 43, 3) := by decide +kernel
theorem dX7_doRead_4 : decode cX7_doRead 4 = .ok (.iload_n 2, 1) := by decide +kernel
theorem dX7_doRead_5 : decode cX7_doRead 5 = .ok (.iaload, 1) := by decide +kernel
theorem dX7_doRead_6 : decode cX7_doRead 6 = .ok (.iconst 1, 1) := by decide +kernel
theorem dX7_doRead_7 : decode cX7_doRead 7 = .ok (.isub, 1) := by decide +kernel
theorem dX7_doRead_8 : decode cX7_doRead 8 = .ok (.istore_n 3, 1) := by decide +kernel
theorem dX7_doRead_9 : decode cX7_doRead 9 = .ok (.aload_n 0, 1) := by decide +kernel
theorem dX7_doRead_10 : decode cX7_doRead 10 = .ok (.getfield 15, 3) := by decide +kernel
theorem dX7_doRead_13 : decode cX7_doRead 13 = .ok (.iconst 2, 1) := by decide +kernel
theorem dX7_doRead_14 : decode cX7_doRead 14 = .ok (.if_icmp .ge 29, 3) := by decide +kernel
theorem dX7_doRead_17 : decode cX7_doRead 17 = .ok (.aload_n 0, 1) := by decide +kernel
theorem dX7_doRead_18 : decode cX7_doRead 18 = .ok (.iload_n 2, 1) := by decide +kernel
theorem dX7_doRead_19 : decode cX7_doRead 19 = .ok (.iload_n 3, 1) := by decide +kernel
theorem dX7_doRead_20 : decode cX7_doRead 20 = .ok (.invokevirtual 140, 3) := by decide +kernel
theorem dX7_doRead_23 : decode cX7_doRead 23 = .ok (.aload_n 0, 1) := by decide +kernel
theorem dX7_doRead_24 : decode cX7_doRead 24 = .ok (.getfield 25, 3) := by decide +kernel
theorem dX7_doRead_27 : decode cX7_doRead 27 = .ok (.iload_n 1, 1) := by decide +kernel
theorem dX7_doRead_28 : decode cX7_doRead 28 = .ok (.iaload, 1) := by decide +kernel
theorem dX7_doRead_29 : decode cX7_doRead 29 = .ok (.if_icmp .le 14, 3) := by decide +kernel
theorem dX7_doRead_32 : decode cX7_doRead 32 = .ok (.aload_n 0, 1) := by decide +kernel
theorem dX7_doRead_33 : decode cX7_doRead 33 = .ok (.iload_n 1, 1) := by decide +kernel
theorem dX7_doRead_34 : decode cX7_doRead 34 = .ok (.bipush 6, 2) := by decide +kernel
theorem dX7_doRead_36 : decode cX7_doRead 36 = .ok (.iload_n 2, 1) := by decide +kernel
theorem dX7_doRead_37 : decode cX7_doRead 37 = .ok (.invokevirtual 121, 3) := by decide +kernel
theorem dX7_doRead_40 : decode cX7_doRead 40 = .ok (.pop, 1) := by decide +kernel
theorem dX7_doRead_41 : decode cX7_doRead 41 = .ok (.iconst 0, 1) := by decide +kernel
theorem dX7_doRead_42 : decode cX7_doRead 42 = .ok (.ireturn, 1) := by decide +kernel
theorem dX7_doRead_43 : decode cX7_doRead 43 = .ok (.aload_n 0, 1) := by decide +kernel
theorem dX7_doRead_44 : decode cX7_doRead 44 = .ok (.getfield 15, 3) := by decide +kernel
theorem dX7_doRead_47 : decode cX7_doRead 47 = .ok (.iconst 2, 1) := by decide +kernel
theorem dX7_doRead_48 : decode cX7_doRead 48 = .ok (.if_icmp .ge 7, 3) := by decide +kernel
theorem dX7_doRead_51 : decode cX7_doRead 51 = .ok (.iload_n 3, 1) := by decide +kernel
theorem dX7_doRead_52 : decode cX7_doRead 52 = .ok (.goto 14, 3) := by decide +kernel
theorem dX7_doRead_55 : decode cX7_doRead 55 = .ok (.aload_n 0, 1) := by decide +kernel
theorem dX7_doRead_56 : decode cX7_doRead 56 = .ok (.iload_n 2, 1) := by decide +kernel
theorem dX7_doRead_57 : decode cX7_doRead 57 = .ok (.aload_n 0, 1) := by decide +kernel
theorem dX7_doRead_58 : decode cX7_doRead 58 = .ok (.getfield 25, 3) := by decide +kernel
theorem dX7_doRead_61 : decode cX7_doRead 61 = .ok (.iload_n 1, 1) := by decide +kernel
theorem dX7_doRead_62 : decode cX7_doRead 62 = .ok (.iaload, 1) := by decide +kernel
theorem dX7_doRead_63 : decode cX7_doRead 63 = .ok (.invokevirtual 143, 3) := by decide +kernel
theorem dX7_doRead_66 : decode cX7_doRead 66 = .ok (.istore 4, 2) := by decide +kernel
theorem dX7_doRead_68 : decode cX7_doRead 68 = .ok (.iload_n 2, 1) := by decide +kernel
theorem dX7_doRead_69 : decode cX7_doRead 69 = .ok (.iload 4, 2) := by decide +kernel
theorem dX7_doRead_71 : decode cX7_doRead 71 = .ok (.invokestatic 91, 3) := by decide +kernel
theorem dX7_doRead_74 : decode cX7_doRead 74 = .ok (.istore 5, 2) := by decide +kernel
theorem dX7_doRead_76 : decode cX7_doRead 76 = .ok (.aload_n 0, 1) := by decide +kernel
theorem dX7_doRead_77 : decode cX7_doRead 77 = .ok (.getfield 46, 3) := by decide +kernel
theorem dX7_doRead_80 : decode cX7_doRead 80 = .ok (.iload 5, 2) := by decide +kernel
theorem dX7_doRead_82 : decode cX7_doRead 82 = .ok (.iconst 1, 1) := by decide +kernel
theorem dX7_doRead_83 : decode cX7_doRead 83 = .ok (.iadd, 1) := by decide +kernel
theorem dX7_doRead_84 : decode cX7_doRead 84 = .ok (.aload_n 0, 1) := by decide +kernel
theorem dX7_doRead_85 : decode cX7_doRead 85 = .ok (.getfield 46, 3) := by decide +kernel
theorem dX7_doRead_88 : decode cX7_doRead 88 = .ok (.iload 5, 2) := by decide +kernel
theorem dX7_doRead_90 : decode cX7_doRead 90 = .ok (.iconst 1, 1) := by decide +kernel
theorem dX7_doRead_91 : decode cX7_doRead 91 = .ok (.iadd, 1) := by decide +kernel
theorem dX7_doRead_92 : decode cX7_doRead 92 = .ok (.iaload, 1) := by decide +kernel
theorem dX7_doRead_93 : decode cX7_doRead 93 = .ok (.aload_n 0, 1) := by decide +kernel
theorem dX7_doRead_94 : decode cX7_doRead 94 = .ok (.getfield 25, 3) := by decide +kernel
theorem dX7_doRead_97 : decode cX7_doRead 97 = .ok (.iload_n 1, 1) := by decide +kernel
theorem dX7_doRead_98 : decode cX7_doRead 98 = .ok (.iaload, 1) := by decide +kernel
theorem dX7_doRead_99 : decode cX7_doRead 99 = .ok (.invokestatic 146, 3) := by decide +kernel
theorem dX7_doRead_102 : decode cX7_doRead 102 = .ok (.iastore, 1) := by decide +kernel
theorem dX7_doRead_103 : decode cX7_doRead 103 = .ok (.aload_n 0, 1) := by decide +kernel
theorem dX7_doRead_104 : decode cX7_doRead 104 = .ok (.getfield 46, 3) := by decide +kernel
theorem dX7_doRead_107 : decode cX7_doRead 107 = .ok (.iload 5, 2) := by decide +kernel
theorem dX7_doRead_109 : decode cX7_doRead 109 = .ok (.iconst 3, 1) := by decide +kernel
theorem dX7_doRead_110 : decode cX7_doRead 110 = .ok (.iadd, 1) := by decide +kernel
theorem dX7_doRead_111 : decode cX7_doRead 111 = .ok (.iaload, 1) := by decide +kernel
theorem dX7_doRead_112 : decode cX7_doRead 112 = .ok (.istore 6, 2) := by decide +kernel
theorem dX7_doRead_114 : decode cX7_doRead 114 = .ok (.iload 6, 2) := by decide +kernel
theorem dX7_doRead_116 : decode cX7_doRead 116 = .ok (.iload_n 1, 1) := by decide +kernel
theorem dX7_doRead_117 : decode cX7_doRead 117 = .ok (.if_icmp .eq 25, 3) := by decide +kernel
theorem dX7_doRead_120 : decode cX7_doRead 120 = .ok (.aload_n 0, 1) := by decide +kernel
theorem dX7_doRead_121 : decode cX7_doRead 121 = .ok (.iload 6, 2) := by decide +kernel
theorem dX7_doRead_123 : decode cX7_doRead 123 = .ok (.invokevirtual 117, 3) := by decide +kernel
theorem dX7_doRead_126 : decode cX7_doRead 126 = .ok (.ifCond .eq 16, 3) := by decide +kernel
theorem dX7_doRead_129 : decode cX7_doRead 129 = .ok (.aload_n 0, 1) := by decide +kernel
theorem dX7_doRead_130 : decode cX7_doRead 130 = .ok (.getfield 40, 3) := by decide +kernel
theorem dX7_doRead_133 : decode cX7_doRead 133 = .ok (.iload_n 1, 1) := by decide +kernel
theorem dX7_doRead_134 : decode cX7_doRead 134 = .ok (.dup2, 1) := by decide +kernel
theorem dX7_doRead_135 : decode cX7_doRead 135 = .ok (.iaload, 1) := by decide +kernel
theorem dX7_doRead_136 : decode cX7_doRead 136 = .ok (.iconst 1, 1) := by decide +kernel
theorem dX7_doRead_137 : decode cX7_doRead 137 = .ok (.iload 6, 2) := by decide +kernel
theorem dX7_doRead_139 : decode cX7_doRead 139 = .ok (.ishl, 1) := by decide +kernel
theorem dX7_doRead_140 : decode cX7_doRead 140 = .ok (.ior, 1) := by decide +kernel
theorem dX7_doRead_141 : decode cX7_doRead 141 = .ok (.iastore, 1) := by decide +kernel
theorem dX7_doRead_142 : decode cX7_doRead 142 = .ok (.aload_n 0, 1) := by decide +kernel
theorem dX7_doRead_143 : decode cX7_doRead 143 = .ok (.aload_n 0, 1) := by decide +kernel
theorem dX7_doRead_144 : decode cX7_doRead 144 = .ok (.getfield 46, 3) := by decide +kernel
theorem dX7_doRead_147 : decode cX7_doRead 147 = .ok (.iload 5, 2) := by decide +kernel
theorem dX7_doRead_149 : decode cX7_doRead 149 = .ok (.iconst 2, 1) := by decide +kernel
theorem dX7_doRead_150 : decode cX7_doRead 150 = .ok (.iadd, 1) := by decide +kernel
theorem dX7_doRead_151 : decode cX7_doRead 151 = .ok (.iaload, 1) := by decide +kernel
theorem dX7_doRead_152 : decode cX7_doRead 152 = .ok (.putfield 151, 3) := by decide +kernel
theorem dX7_doRead_155 : decode cX7_doRead 155 = .ok (.aload_n 0, 1) := by decide +kernel
theorem dX7_doRead_156 : decode cX7_doRead 156 = .ok (.iconst 1, 1) := by decide +kernel
theorem dX7_doRead_157 : decode cX7_doRead 157 = .ok (.iload_n 1, 1) := by decide +kernel
theorem dX7_doRead_158 : decode cX7_doRead 158 = .ok (.iload_n 2, 1) := by decide +kernel
theorem dX7_doRead_159 : decode cX7_doRead 159 = .ok (.invokevirtual 109, 3) := by decide +kernel
theorem dX7_doRead_162 : decode cX7_doRead 162 = .ok (.iconst 1, 1) := by decide +kernel
theorem dX7_doRead_163 : decode cX7_doRead 163 = .ok (.ireturn, 1) := by decide +kernel
theorem dX7_isRefused_0 : decode cX7_isRefused 0 = .ok (.aload_n 0, 1) := by decide +kernel
theorem dX7_isRefused_1 : decode cX7_isRefused 1 = .ok (.getfield 15, 3) := by decide +kernel
theorem dX7_isRefused_4 : decode cX7_isRefused 4 = .ok (.iconst 2, 1) := by decide +kernel
theorem dX7_isRefused_5 : decode cX7_isRefused 5 = .ok (.if_icmp .ne 40, 3) := by decide +kernel
theorem dX7_isRefused_8 : decode cX7_isRefused 8 = .ok (.aload_n 0, 1) := by decide +kernel
theorem dX7_isRefused_9 : decode cX7_isRefused 9 = .ok (.getfield 46, 3) := by decide +kernel
theorem dX7_isRefused_12 : decode cX7_isRefused 12 = .ok (.iload_n 2, 1) := by decide +kernel
theorem dX7_isRefused_13 : decode cX7_isRefused 13 = .ok (.aload_n 0, 1) := by decide +kernel
theorem dX7_isRefused_14 : decode cX7_isRefused 14 = .ok (.iload_n 2, 1) := by decide +kernel
theorem dX7_isRefused_15 : decode cX7_isRefused 15 = .ok (.aload_n 0, 1) := by decide +kernel
theorem dX7_isRefused_16 : decode cX7_isRefused 16 = .ok (.getfield 25, 3) := by decide +kernel
theorem dX7_isRefused_19 : decode cX7_isRefused 19 = .ok (.iload_n 1, 1) := by decide +kernel
theorem dX7_isRefused_20 : decode cX7_isRefused 20 = .ok (.iaload, 1) := by decide +kernel
theorem dX7_isRefused_21 : decode cX7_isRefused 21 = .ok (.invokevirtual 143, 3) := by decide +kernel
theorem dX7_isRefused_24 : decode cX7_isRefused 24 = .ok (.invokestatic 91, 3) := by decide +kernel
theorem dX7_isRefused_27 : decode cX7_isRefused 27 = .ok (.iconst 1, 1) := by decide +kernel
theorem dX7_isRefused_28 : decode cX7_isRefused 28 = .ok (.iadd, 1) := by decide +kernel
theorem dX7_isRefused_29 : decode cX7_isRefused 29 = .ok (.iaload, 1) := by decide +kernel
theorem dX7_isRefused_30 : decode cX7_isRefused 30 = .ok (.aload_n 0, 1) := by decide +kernel
theorem dX7_isRefused_31 : decode cX7_isRefused 31 = .ok (.getfield 25, 3) := by decide +kernel
theorem dX7_isRefused_34 : decode cX7_isRefused 34 = .ok (.iload_n 1, 1) := by decide +kernel
theorem dX7_isRefused_35 : decode cX7_isRefused 35 = .ok (.iaload, 1) := by decide +kernel
theorem dX7_isRefused_36 : decode cX7_isRefused 36 = .ok (.if_icmp .le 7, 3) := by decide +kernel
theorem dX7_isRefused_39 : decode cX7_isRefused 39 = .ok (.iconst 1, 1) := by decide +kernel
theorem dX7_isRefused_40 : decode cX7_isRefused 40 = .ok (.goto 4, 3) := by decide +kernel
theorem dX7_isRefused_43 : decode cX7_isRefused 43 = .ok (.iconst 0, 1) := by decide +kernel
theorem dX7_isRefused_44 : decode cX7_isRefused 44 = .ok (.ireturn, 1) := by decide +kernel
theorem dX7_isRefused_45 : decode cX7_isRefused 45 = .ok (.aload_n 0, 1) := by decide +kernel
theorem dX7_isRefused_46 : decode cX7_isRefused 46 = .ok (.getfield 15, 3) := by decide +kernel
theorem dX7_isRefused_49 : decode cX7_isRefused 49 = .ok (.ifCond .ne 29, 3) := by decide +kernel
theorem dX7_isRefused_52 : decode cX7_isRefused 52 = .ok (.aload_n 0, 1) := by decide +kernel
theorem dX7_isRefused_53 : decode cX7_isRefused 53 = .ok (.iload_n 2, 1) := by decide +kernel
theorem dX7_isRefused_54 : decode cX7_isRefused 54 = .ok (.aload_n 0, 1) := by decide +kernel
theorem dX7_isRefused_55 : decode cX7_isRefused 55 = .ok (.getfield 43, 3) := by decide +kernel
theorem dX7_isRefused_58 : decode cX7_isRefused 58 = .ok (.iload_n 2, 1) := by decide +kernel
theorem dX7_isRefused_59 : decode cX7_isRefused 59 = .ok (.iaload, 1) := by decide +kernel
theorem dX7_isRefused_60 : decode cX7_isRefused 60 = .ok (.iconst 1, 1) := by decide +kernel
theorem dX7_isRefused_61 : decode cX7_isRefused 61 = .ok (.isub, 1) := by decide +kernel
theorem dX7_isRefused_62 : decode cX7_isRefused 62 = .ok (.invokevirtual 140, 3) := by decide +kernel
theorem dX7_isRefused_65 : decode cX7_isRefused 65 = .ok (.aload_n 0, 1) := by decide +kernel
theorem dX7_isRefused_66 : decode cX7_isRefused 66 = .ok (.getfield 25, 3) := by decide +kernel
theorem dX7_isRefused_69 : decode cX7_isRefused 69 = .ok (.iload_n 1, 1) := by decide +kernel
theorem dX7_isRefused_70 : decode cX7_isRefused 70 = .ok (.iaload, 1) := by decide +kernel
theorem dX7_isRefused_71 : decode cX7_isRefused 71 = .ok (.if_icmp .le 7, 3) := by decide +kernel
theorem dX7_isRefused_74 : decode cX7_isRefused 74 = .ok (.iconst 1, 1) := by decide +kernel
theorem dX7_isRefused_75 : decode cX7_isRefused 75 = .ok (.goto 4, 3) := by decide +kernel
theorem dX7_isRefused_78 : decode cX7_isRefused 78 = .ok (.iconst 0, 1) := by decide +kernel
theorem dX7_isRefused_79 : decode cX7_isRefused 79 = .ok (.istore_n 3, 1) := by decide +kernel
theorem dX7_isRefused_80 : decode cX7_isRefused 80 = .ok (.iconst 0, 1) := by decide +kernel
theorem dX7_isRefused_81 : decode cX7_isRefused 81 = .ok (.istore 4, 2) := by decide +kernel
theorem dX7_isRefused_83 : decode cX7_isRefused 83 = .ok (.iload 4, 2) := by decide +kernel
theorem dX7_isRefused_85 : decode cX7_isRefused 85 = .ok (.aload_n 0, 1) := by decide +kernel
theorem dX7_isRefused_86 : decode cX7_isRefused 86 = .ok (.getfield 43, 3) := by decide +kernel
theorem dX7_isRefused_89 : decode cX7_isRefused 89 = .ok (.iload_n 2, 1) := by decide +kernel
theorem dX7_isRefused_90 : decode cX7_isRefused 90 = .ok (.iaload, 1) := by decide +kernel
theorem dX7_isRefused_91 : decode cX7_isRefused 91 = .ok (.if_icmp .ge 41, 3) := by decide +kernel
theorem dX7_isRefused_94 : decode cX7_isRefused 94 = .ok (.iload_n 3, 1) := by decide +kernel
theorem dX7_isRefused_95 : decode cX7_isRefused 95 = .ok (.ifCond .ne 25, 3) := by decide +kernel
theorem dX7_isRefused_98 : decode cX7_isRefused 98 = .ok (.aload_n 0, 1) := by decide +kernel
theorem dX7_isRefused_99 : decode cX7_isRefused 99 = .ok (.getfield 46, 3) := by decide +kernel
theorem dX7_isRefused_102 : decode cX7_isRefused 102 = .ok (.iload_n 2, 1) := by decide +kernel
theorem dX7_isRefused_103 : decode cX7_isRefused 103 = .ok (.iload 4, 2) := by decide +kernel
theorem dX7_isRefused_105 : decode cX7_isRefused 105 = .ok (.invokestatic 91, 3) := by decide +kernel
theorem dX7_isRefused_108 : decode cX7_isRefused 108 = .ok (.iconst 1, 1) := by decide +kernel
theorem dX7_isRefused_109 : decode cX7_isRefused 109 = .ok (.iadd, 1) := by decide +kernel
theorem dX7_isRefused_110 : decode cX7_isRefused 110 = .ok (.iaload, 1) := by decide +kernel
theorem dX7_isRefused_111 : decode cX7_isRefused 111 = .ok (.aload_n 0, 1) := by decide +kernel
theorem dX7_isRefused_112 : decode cX7_isRefused 112 = .ok (.getfield 25, 3) := by decide +kernel
theorem dX7_isRefused_115 : decode cX7_isRefused 115 = .ok (.iload_n 1, 1) := by decide +kernel
theorem dX7_isRefused_116 : decode cX7_isRefused 116 = .ok (.iaload, 1) := by decide +kernel
theorem dX7_isRefused_117 : decode cX7_isRefused 117 = .ok (.if_icmp .le 7, 3) := by decide +kernel
theorem dX7_isRefused_120 : decode cX7_isRefused 120 = .ok (.iconst 1, 1) := by decide +kernel
theorem dX7_isRefused_121 : decode cX7_isRefused 121 = .ok (.goto 4, 3) := by decide +kernel
theorem dX7_isRefused_124 : decode cX7_isRefused 124 = .ok (.iconst 0, 1) := by decide +kernel
theorem dX7_isRefused_125 : decode cX7_isRefused 125 = .ok (.istore_n 3, 1) := by decide +kernel
theorem dX7_isRefused_126 : decode cX7_isRefused 126 = .ok (.iinc 4 1, 3) := by decide +kernel
theorem dX7_isRefused_129 : decode cX7_isRefused 129 = .ok (.goto (-46), 3) := by decide +kernel
theorem dX7_isRefused_132 : decode cX7_isRefused 132 = .ok (.iload_n 3, 1) := by decide +kernel
theorem dX7_isRefused_133 : decode cX7_isRefused 133 = .ok (.ireturn, 1) := by decide +kernel
theorem dX7_doWrite_0 : decode cX7_doWrite 0 = .ok (.aload_n 0, 1) := by decide +kernel
theorem dX7_doWrite_1 : decode cX7_doWrite 1 = .ok (.iload_n 1, 1) := by decide +kernel
theorem dX7_doWrite_2 : decode cX7_doWrite 2 = .ok (.iload_n 2, 1) := by decide +kernel
theorem dX7_doWrite_3 : decode cX7_doWrite 3 = .ok (.invokevirtual 154, 3) := by decide +kernel
theorem dX7_doWrite_6 : decode cX7_doWrite 6 = .ok (.ifCond .eq 15, 3) := by decide +kernel
theorem dX7_doWrite_9 : decode cX7_doWrite 9 = .ok (.aload_n 0, 1) := by decide +kernel
theorem dX7_doWrite_10 : decode cX7_doWrite 10 = .ok (.iload_n 1, 1) := by decide +kernel
theorem dX7_doWrite_11 : decode cX7_doWrite 11 = .ok (.bipush 6, 2) := by decide +kernel
theorem dX7_doWrite_13 : decode cX7_doWrite 13 = .ok (.iload_n 2, 1) := by decide +kernel
theorem dX7_doWrite_14 : decode cX7_doWrite 14 = .ok (.invokevirtual 121, 3) := by decide +kernel
theorem dX7_doWrite_17 : decode cX7_doWrite 17 = .ok (.pop, 1) := by decide +kernel
theorem dX7_doWrite_18 : decode cX7_doWrite 18 = .ok (.ldc 158, 2) := by decide +kernel
theorem dX7_doWrite_20 : decode cX7_doWrite 20 = .ok (.ireturn, 1) := by decide +kernel
theorem dX7_doWrite_21 : decode cX7_doWrite 21 = .ok (.aload_n 0, 1) := by decide +kernel
theorem dX7_doWrite_22 : decode cX7_doWrite 22 = .ok (.getfield 15, 3) := by decide +kernel
theorem dX7_doWrite_25 : decode cX7_doWrite 25 = .ok (.iconst 1, 1) := by decide +kernel
theorem dX7_doWrite_26 : decode cX7_doWrite 26 = .ok (.if_icmp .ne 29, 3) := by decide +kernel
theorem dX7_doWrite_29 : decode cX7_doWrite 29 = .ok (.aload_n 0, 1) := by decide +kernel
theorem dX7_doWrite_30 : decode cX7_doWrite 30 = .ok (.iload_n 2, 1) := by decide +kernel
theorem dX7_doWrite_31 : decode cX7_doWrite 31 = .ok (.aload_n 0, 1) := by decide +kernel
theorem dX7_doWrite_32 : decode cX7_doWrite 32 = .ok (.getfield 43, 3) := by decide +kernel
theorem dX7_doWrite_35 : decode cX7_doWrite 35 = .ok (.iload_n 2, 1) := by decide +kernel
theorem dX7_doWrite_36 : decode cX7_doWrite 36 = .ok (.iaload, 1) := by decide +kernel
theorem dX7_doWrite_37 : decode cX7_doWrite 37 = .ok (.iconst 1, 1) := by decide +kernel
theorem dX7_doWrite_38 : decode cX7_doWrite 38 = .ok (.isub, 1) := by decide +kernel
theorem dX7_doWrite_39 : decode cX7_doWrite 39 = .ok (.invokevirtual 140, 3) := by decide +kernel
theorem dX7_doWrite_42 : decode cX7_doWrite 42 = .ok (.aload_n 0, 1) := by decide +kernel
theorem dX7_doWrite_43 : decode cX7_doWrite 43 = .ok (.getfield 25, 3) := by decide +kernel
theorem dX7_doWrite_46 : decode cX7_doWrite 46 = .ok (.iload_n 1, 1) := by decide +kernel
theorem dX7_doWrite_47 : decode cX7_doWrite 47 = .ok (.iaload, 1) := by decide +kernel
theorem dX7_doWrite_48 : decode cX7_doWrite 48 = .ok (.if_icmp .le 7, 3) := by decide +kernel
theorem dX7_doWrite_51 : decode cX7_doWrite 51 = .ok (.iconst 1, 1) := by decide +kernel
theorem dX7_doWrite_52 : decode cX7_doWrite 52 = .ok (.goto 4, 3) := by decide +kernel
theorem dX7_doWrite_55 : decode cX7_doWrite 55 = .ok (.iconst 0, 1) := by decide +kernel
theorem dX7_doWrite_56 : decode cX7_doWrite 56 = .ok (.istore 4, 2) := by decide +kernel
theorem dX7_doWrite_58 : decode cX7_doWrite 58 = .ok (.aload_n 0, 1) := by decide +kernel
theorem dX7_doWrite_59 : decode cX7_doWrite 59 = .ok (.iload_n 2, 1) := by decide +kernel
theorem dX7_doWrite_60 : decode cX7_doWrite 60 = .ok (.aload_n 0, 1) := by decide +kernel
theorem dX7_doWrite_61 : decode cX7_doWrite 61 = .ok (.getfield 25, 3) := by decide +kernel
theorem dX7_doWrite_64 : decode cX7_doWrite 64 = .ok (.iload_n 1, 1) := by decide +kernel
theorem dX7_doWrite_65 : decode cX7_doWrite 65 = .ok (.iaload, 1) := by decide +kernel
theorem dX7_doWrite_66 : decode cX7_doWrite 66 = .ok (.invokevirtual 143, 3) := by decide +kernel
theorem dX7_doWrite_69 : decode cX7_doWrite 69 = .ok (.istore 5, 2) := by decide +kernel
theorem dX7_doWrite_71 : decode cX7_doWrite 71 = .ok (.iload 5, 2) := by decide +kernel
theorem dX7_doWrite_73 : decode cX7_doWrite 73 = .ok (.iconst (-1), 1) := by decide +kernel
theorem dX7_doWrite_74 : decode cX7_doWrite 74 = .ok (.if_icmp .eq 36, 3) := by decide +kernel
theorem dX7_doWrite_77 : decode cX7_doWrite 77 = .ok (.aload_n 0, 1) := by decide +kernel
theorem dX7_doWrite_78 : decode cX7_doWrite 78 = .ok (.iload_n 2, 1) := by decide +kernel
theorem dX7_doWrite_79 : decode cX7_doWrite 79 = .ok (.iload 5, 2) := by decide +kernel
theorem dX7_doWrite_81 : decode cX7_doWrite 81 = .ok (.invokevirtual 140, 3) := by decide +kernel
theorem dX7_doWrite_84 : decode cX7_doWrite 84 = .ok (.aload_n 0, 1) := by decide +kernel
theorem dX7_doWrite_85 : decode cX7_doWrite 85 = .ok (.getfield 25, 3) := by decide +kernel
theorem dX7_doWrite_88 : decode cX7_doWrite 88 = .ok (.iload_n 1, 1) := by decide +kernel
theorem dX7_doWrite_89 : decode cX7_doWrite 89 = .ok (.iaload, 1) := by decide +kernel
theorem dX7_doWrite_90 : decode cX7_doWrite 90 = .ok (.if_icmp .ne 20, 3) := by decide +kernel
theorem dX7_doWrite_93 : decode cX7_doWrite 93 = .ok (.aload_n 0, 1) := by decide +kernel
theorem dX7_doWrite_94 : decode cX7_doWrite 94 = .ok (.getfield 46, 3) := by decide +kernel
theorem dX7_doWrite_97 : decode cX7_doWrite 97 = .ok (.iload_n 2, 1) := by decide +kernel
theorem dX7_doWrite_98 : decode cX7_doWrite 98 = .ok (.iload 5, 2) := by decide +kernel
theorem dX7_doWrite_100 : decode cX7_doWrite 100 = .ok (.invokestatic 91, 3) := by decide +kernel
theorem dX7_doWrite_103 : decode cX7_doWrite 103 = .ok (.iconst 2, 1) := by decide +kernel
theorem dX7_doWrite_104 : decode cX7_doWrite 104 = .ok (.iadd, 1) := by decide +kernel
theorem dX7_doWrite_105 : decode cX7_doWrite 105 = .ok (.iload_n 3, 1) := by decide +kernel
theorem dX7_doWrite_106 : decode cX7_doWrite 106 = .ok (.iastore, 1) := by decide +kernel
theorem dX7_doWrite_107 : decode cX7_doWrite 107 = .ok (.goto 105, 3) := by decide +kernel
theorem dX7_doWrite_110 : decode cX7_doWrite 110 = .ok (.aload_n 0, 1) := by decide +kernel
theorem dX7_doWrite_111 : decode cX7_doWrite 111 = .ok (.getfield 43, 3) := by decide +kernel
theorem dX7_doWrite_114 : decode cX7_doWrite 114 = .ok (.iload_n 2, 1) := by decide +kernel
theorem dX7_doWrite_115 : decode cX7_doWrite 115 = .ok (.iaload, 1) := by decide +kernel
theorem dX7_doWrite_116 : decode cX7_doWrite 116 = .ok (.istore 6, 2) := by decide +kernel
theorem dX7_doWrite_118 : decode cX7_doWrite 118 = .ok (.iload 6, 2) := by decide +kernel
theorem dX7_doWrite_120 : decode cX7_doWrite 120 = .ok (.iload 5, 2) := by decide +kernel
theorem dX7_doWrite_122 : decode cX7_doWrite 122 = .ok (.iconst 1, 1) := by decide +kernel
theorem dX7_doWrite_123 : decode cX7_doWrite 123 = .ok (.iadd, 1) := by decide +kernel
theorem dX7_doWrite_124 : decode cX7_doWrite 124 = .ok (.if_icmp .le 60, 3) := by decide +kernel
theorem dX7_doWrite_127 : decode cX7_doWrite 127 = .ok (.iload_n 2, 1) := by decide +kernel
theorem dX7_doWrite_128 : decode cX7_doWrite 128 = .ok (.iload 6, 2) := by decide +kernel
theorem dX7_doWrite_130 : decode cX7_doWrite 130 = .ok (.iconst 1, 1) := by decide +kernel
theorem dX7_doWrite_131 : decode cX7_doWrite 131 = .ok (.isub, 1) := by decide +kernel
theorem dX7_doWrite_132 : decode cX7_doWrite 132 = .ok (.invokestatic 91, 3) := by decide +kernel
theorem dX7_doWrite_135 : decode cX7_doWrite 135 = .ok (.istore 7, 2) := by decide +kernel
theorem dX7_doWrite_137 : decode cX7_doWrite 137 = .ok (.aload_n 0, 1) := by decide +kernel
theorem dX7_doWrite_138 : decode cX7_doWrite 138 = .ok (.iload_n 2, 1) := by decide +kernel
theorem dX7_doWrite_139 : decode cX7_doWrite 139 = .ok (.iload 6, 2) := by decide +kernel
theorem dX7_doWrite_141 : decode cX7_doWrite 141 = .ok (.aload_n 0, 1) := by decide +kernel
theorem dX7_doWrite_142 : decode cX7_doWrite 142 = .ok (.getfield 46, 3) := by decide +kernel
theorem dX7_doWrite_145 : decode cX7_doWrite 145 = .ok (.iload 7, 2) := by decide +kernel
theorem dX7_doWrite_147 : decode cX7_doWrite 147 = .ok (.iaload, 1) := by decide +kernel
theorem dX7_doWrite_148 : decode cX7_doWrite 148 = .ok (.aload_n 0, 1) := by decide +kernel
theorem dX7_doWrite_149 : decode cX7_doWrite 149 = .ok (.getfield 46, 3) := by decide +kernel
theorem dX7_doWrite_152 : decode cX7_doWrite 152 = .ok (.iload 7, 2) := by decide +kernel
theorem dX7_doWrite_154 : decode cX7_doWrite 154 = .ok (.iconst 1, 1) := by decide +kernel
theorem dX7_doWrite_155 : decode cX7_doWrite 155 = .ok (.iadd, 1) := by decide +kernel
theorem dX7_doWrite_156 : decode cX7_doWrite 156 = .ok (.iaload, 1) := by decide +kernel
theorem dX7_doWrite_157 : decode cX7_doWrite 157 = .ok (.aload_n 0, 1) := by decide +kernel
theorem dX7_doWrite_158 : decode cX7_doWrite 158 = .ok (.getfield 46, 3) := by decide +kernel
theorem dX7_doWrite_161 : decode cX7_doWrite 161 = .ok (.iload 7, 2) := by decide +kernel
theorem dX7_doWrite_163 : decode cX7_doWrite 163 = .ok (.iconst 2, 1) := by decide +kernel
theorem dX7_doWrite_164 : decode cX7_doWrite 164 = .ok (.iadd, 1) := by decide +kernel
theorem dX7_doWrite_165 : decode cX7_doWrite 165 = .ok (.iaload, 1) := by decide +kernel
theorem dX7_doWrite_166 : decode cX7_doWrite 166 = .ok (.aload_n 0, 1) := by decide +kernel
theorem dX7_doWrite_167 : decode cX7_doWrite 167 = .ok (.getfield 46, 3) := by decide +kernel
theorem dX7_doWrite_170 : decode cX7_doWrite 170 = .ok (.iload 7, 2) := by decide +kernel
theorem dX7_doWrite_172 : decode cX7_doWrite 172 = .ok (.iconst 3, 1) := by decide +kernel
theorem dX7_doWrite_173 : decode cX7_doWrite 173 = .ok (.iadd, 1) := by decide +kernel
theorem dX7_doWrite_174 : decode cX7_doWrite 174 = .ok (.iaload, 1) := by decide +kernel
theorem dX7_doWrite_175 : decode cX7_doWrite 175 = .ok (.invokevirtual 87, 3) := by decide +kernel
theorem dX7_doWrite_178 : decode cX7_doWrite 178 = .ok (.iinc 6 (-1), 3) := by decide +kernel
theorem dX7_doWrite_181 : decode cX7_doWrite 181 = .ok (.goto (-63), 3) := by decide +kernel
theorem dX7_doWrite_184 : decode cX7_doWrite 184 = .ok (.aload_n 0, 1) := by decide +kernel
theorem dX7_doWrite_185 : decode cX7_doWrite 185 = .ok (.iload_n 2, 1) := by decide +kernel
theorem dX7_doWrite_186 : decode cX7_doWrite 186 = .ok (.iload 5, 2) := by decide +kernel
theorem dX7_doWrite_188 : decode cX7_doWrite 188 = .ok (.iconst 1, 1) := by decide +kernel
theorem dX7_doWrite_189 : decode cX7_doWrite 189 = .ok (.iadd, 1) := by decide +kernel
theorem dX7_doWrite_190 : decode cX7_doWrite 190 = .ok (.aload_n 0, 1) := by decide +kernel
theorem dX7_doWrite_191 : decode cX7_doWrite 191 = .ok (.getfield 25, 3) := by decide +kernel
theorem dX7_doWrite_194 : decode cX7_doWrite 194 = .ok (.iload_n 1, 1) := by decide +kernel
theorem dX7_doWrite_195 : decode cX7_doWrite 195 = .ok (.iaload, 1) := by decide +kernel
theorem dX7_doWrite_196 : decode cX7_doWrite 196 = .ok (.iconst 0, 1) := by decide +kernel
theorem dX7_doWrite_197 : decode cX7_doWrite 197 = .ok (.iload_n 3, 1) := by decide +kernel
theorem dX7_doWrite_198 : decode cX7_doWrite 198 = .ok (.iload_n 1, 1) := by decide +kernel
theorem dX7_doWrite_199 : decode cX7_doWrite 199 = .ok (.invokevirtual 87, 3) := by decide +kernel
theorem dX7_doWrite_202 : decode cX7_doWrite 202 = .ok (.aload_n 0, 1) := by decide +kernel
theorem dX7_doWrite_203 : decode cX7_doWrite 203 = .ok (.getfield 43, 3) := by decide +kernel
theorem dX7_doWrite_206 : decode cX7_doWrite 206 = .ok (.iload_n 2, 1) := by decide +kernel
theorem dX7_doWrite_207 : decode cX7_doWrite 207 = .ok (.dup2, 1) := by decide +kernel
theorem dX7_doWrite_208 : decode cX7_doWrite 208 = .ok (.iaload, 1) := by decide +kernel
theorem dX7_doWrite_209 : decode cX7_doWrite 209 = .ok (.iconst 1, 1) := by decide +kernel
theorem dX7_doWrite_210 : decode cX7_doWrite 210 = .ok (.iadd, 1) := by decide +kernel
theorem dX7_doWrite_211 : decode cX7_doWrite 211 = .ok (.iastore, 1) := by decide +kernel
theorem dX7_doWrite_212 : decode cX7_doWrite 212 = .ok (.aload_n 0, 1) := by decide +kernel
theorem dX7_doWrite_213 : decode cX7_doWrite 213 = .ok (.iload 4, 2) := by decide +kernel
theorem dX7_doWrite_215 : decode cX7_doWrite 215 = .ok (.ifCond .eq 7, 3) := by decide +kernel
theorem dX7_doWrite_218 : decode cX7_doWrite 218 = .ok (.iconst 3, 1) := by decide +kernel
theorem dX7_doWrite_219 : decode cX7_doWrite 219 = .ok (.goto 4, 3) := by decide +kernel
theorem dX7_doWrite_222 : decode cX7_doWrite 222 = .ok (.iconst 2, 1) := by decide +kernel
theorem dX7_doWrite_223 : decode cX7_doWrite 223 = .ok (.iload_n 1, 1) := by decide +kernel
theorem dX7_doWrite_224 : decode cX7_doWrite 224 = .ok (.iload_n 2, 1) := by decide +kernel
theorem dX7_doWrite_225 : decode cX7_doWrite 225 = .ok (.invokevirtual 109, 3) := by decide +kernel
theorem dX7_doWrite_228 : decode cX7_doWrite 228 = .ok (.iload 4, 2) := by decide +kernel
theorem dX7_doWrite_230 : decode cX7_doWrite 230 = .ok (.ifCond .eq 7, 3) := by decide +kernel
theorem dX7_doWrite_233 : decode cX7_doWrite 233 = .ok (.iconst 1, 1) := by decide +kernel
theorem dX7_doWrite_234 : decode cX7_doWrite 234 = .ok (.goto 4, 3) := by decide +kernel
theorem dX7_doWrite_237 : decode cX7_doWrite 237 = .ok (.iconst 0, 1) := by decide +kernel
theorem dX7_doWrite_238 : decode cX7_doWrite 238 = .ok (.ireturn, 1) := by decide +kernel
theorem dX7_listPlace_0 : decode cX7_listPlace 0 = .ok (.iconst 4, 1) := by decide +kernel
theorem dX7_listPlace_1 : decode cX7_listPlace 1 = .ok (.bipush 20, 2) := by decide +kernel
theorem dX7_listPlace_3 : decode cX7_listPlace 3 = .ok (.iload_n 1, 1) := by decide +kernel
theorem dX7_listPlace_4 : decode cX7_listPlace 4 = .ok (.imul, 1) := by decide +kernel
theorem dX7_listPlace_5 : decode cX7_listPlace 5 = .ok (.iload_n 2, 1) := by decide +kernel
theorem dX7_listPlace_6 : decode cX7_listPlace 6 = .ok (.iadd, 1) := by decide +kernel
theorem dX7_listPlace_7 : decode cX7_listPlace 7 = .ok (.imul, 1) := by decide +kernel
theorem dX7_listPlace_8 : decode cX7_listPlace 8 = .ok (.ireturn, 1) := by decide +kernel
theorem dX7_doOperation_0 : decode cX7_doOperation 0 = .ok (.aload_n 0, 1) := by decide +kernel
theorem dX7_doOperation_1 : decode cX7_doOperation 1 = .ok (.iload_n 1, 1) := by decide +kernel
theorem dX7_doOperation_2 : decode cX7_doOperation 2 = .ok (.iload_n 2, 1) := by decide +kernel
theorem dX7_doOperation_3 : decode cX7_doOperation 3 = .ok (.invokevirtual 159, 3) := by decide +kernel
theorem dX7_doOperation_6 : decode cX7_doOperation 6 = .ok (.istore_n 3, 1) := by decide +kernel
theorem dX7_doOperation_7 : decode cX7_doOperation 7 = .ok (.aload_n 0, 1) := by decide +kernel
theorem dX7_doOperation_8 : decode cX7_doOperation 8 = .ok (.getfield 37, 3) := by decide +kernel
theorem dX7_doOperation_11 : decode cX7_doOperation 11 = .ok (.iload_n 3, 1) := by decide +kernel
theorem dX7_doOperation_12 : decode cX7_doOperation 12 = .ok (.iaload, 1) := by decide +kernel
theorem dX7_doOperation_13 : decode cX7_doOperation 13 = .ok (.istore 4, 2) := by decide +kernel
theorem dX7_doOperation_15 : decode cX7_doOperation 15 = .ok (.aload_n 0, 1) := by decide +kernel
theorem dX7_doOperation_16 : decode cX7_doOperation 16 = .ok (.getfield 37, 3) := by decide +kernel
theorem dX7_doOperation_19 : decode cX7_doOperation 19 = .ok (.iload_n 3, 1) := by decide +kernel
theorem dX7_doOperation_20 : decode cX7_doOperation 20 = .ok (.iconst 1, 1) := by decide +kernel
theorem dX7_doOperation_21 : decode cX7_doOperation 21 = .ok (.iadd, 1) := by decide +kernel
theorem dX7_doOperation_22 : decode cX7_doOperation 22 = .ok (.iaload, 1) := by decide +kernel
theorem dX7_doOperation_23 : decode cX7_doOperation 23 = .ok (.istore 5, 2) := by decide +kernel
theorem dX7_doOperation_25 : decode cX7_doOperation 25 = .ok (.iconst 0, 1) := by decide +kernel
theorem dX7_doOperation_26 : decode cX7_doOperation 26 = .ok (.istore 6, 2) := by decide +kernel
theorem dX7_doOperation_28 : decode cX7_doOperation 28 = .ok (.iload 4, 2) := by decide +kernel
theorem dX7_doOperation_30 : decode cX7_doOperation 30 = .ok (.iconst 1, 1) := by decide +kernel
theorem dX7_doOperation_31 : decode cX7_doOperation 31 = .ok (.if_icmp .eq 21, 3) := by decide +kernel
theorem dX7_doOperation_34 : decode cX7_doOperation 34 = .ok (.aload_n 0, 1) := by decide +kernel
theorem dX7_doOperation_35 : decode cX7_doOperation 35 = .ok (.iload_n 1, 1) := by decide +kernel
theorem dX7_doOperation_36 : decode cX7_doOperation 36 = .ok (.iload 5, 2) := by decide +kernel
theorem dX7_doOperation_38 : decode cX7_doOperation 38 = .ok (.invokevirtual 162, 3) := by decide +kernel
theorem dX7_doOperation_41 : decode cX7_doOperation 41 = .ok (.ifCond .ne 5, 3) := by decide +kernel
theorem dX7_doOperation_44 : decode cX7_doOperation 44 = .ok (.iconst 0, 1) := by decide +kernel
theorem dX7_doOperation_45 : decode cX7_doOperation 45 = .ok (.ireturn, 1) := by decide +kernel
theorem dX7_doOperation_46 : decode cX7_doOperation 46 = .ok (.aload_n 0, 1) := by decide +kernel
theorem dX7_doOperation_47 : decode cX7_doOperation 47 = .ok (.getfield 151, 3) := by decide +kernel
theorem dX7_doOperation_50 : decode cX7_doOperation 50 = .ok (.istore 6, 2) := by decide +kernel
theorem dX7_doOperation_52 : decode cX7_doOperation 52 = .ok (.iload 4, 2) := by decide +kernel
theorem dX7_doOperation_54 : decode cX7_doOperation 54 = .ok (.ifCond .eq 61, 3) := by decide +kernel
theorem dX7_doOperation_57 : decode cX7_doOperation 57 = .ok (.aload_n 0, 1) := by decide +kernel
theorem dX7_doOperation_58 : decode cX7_doOperation 58 = .ok (.iload 4, 2) := by decide +kernel
theorem dX7_doOperation_60 : decode cX7_doOperation 60 = .ok (.iconst 1, 1) := by decide +kernel
theorem dX7_doOperation_61 : decode cX7_doOperation 61 = .ok (.if_icmp .ne 14, 3) := by decide +kernel
theorem dX7_doOperation_64 : decode cX7_doOperation 64 = .ok (.aload_n 0, 1) := by decide +kernel
theorem dX7_doOperation_65 : decode cX7_doOperation 65 = .ok (.getfield 37, 3) := by decide +kernel
theorem dX7_doOperation_68 : decode cX7_doOperation 68 = .ok (.iload_n 3, 1) := by decide +kernel
theorem dX7_doOperation_69 : decode cX7_doOperation 69 = .ok (.iconst 2, 1) := by decide +kernel
theorem dX7_doOperation_70 : decode cX7_doOperation 70 = .ok (.iadd, 1) := by decide +kernel
theorem dX7_doOperation_71 : decode cX7_doOperation 71 = .ok (.iaload, 1) := by decide +kernel
theorem dX7_doOperation_72 : decode cX7_doOperation 72 = .ok (.goto 14, 3) := by decide +kernel
theorem dX7_doOperation_75 : decode cX7_doOperation 75 = .ok (.iload 6, 2) := by decide +kernel
theorem dX7_doOperation_77 : decode cX7_doOperation 77 = .ok (.aload_n 0, 1) := by decide +kernel
theorem dX7_doOperation_78 : decode cX7_doOperation 78 = .ok (.getfield 37, 3) := by decide +kernel
theorem dX7_doOperation_81 : decode cX7_doOperation 81 = .ok (.iload_n 3, 1) := by decide +kernel
theorem dX7_doOperation_82 : decode cX7_doOperation 82 = .ok (.iconst 2, 1) := by decide +kernel
theorem dX7_doOperation_83 : decode cX7_doOperation 83 = .ok (.iadd, 1) := by decide +kernel
theorem dX7_doOperation_84 : decode cX7_doOperation 84 = .ok (.iaload, 1) := by decide +kernel
theorem dX7_doOperation_85 : decode cX7_doOperation 85 = .ok (.iadd, 1) := by decide +kernel
theorem dX7_doOperation_86 : decode cX7_doOperation 86 = .ok (.putfield 165, 3) := by decide +kernel
theorem dX7_doOperation_89 : decode cX7_doOperation 89 = .ok (.aload_n 0, 1) := by decide +kernel
theorem dX7_doOperation_90 : decode cX7_doOperation 90 = .ok (.aload_n 0, 1) := by decide +kernel
theorem dX7_doOperation_91 : decode cX7_doOperation 91 = .ok (.iload_n 1, 1) := by decide +kernel
theorem dX7_doOperation_92 : decode cX7_doOperation 92 = .ok (.iload 5, 2) := by decide +kernel
theorem dX7_doOperation_94 : decode cX7_doOperation 94 = .ok (.aload_n 0, 1) := by decide +kernel
theorem dX7_doOperation_95 : decode cX7_doOperation 95 = .ok (.getfield 165, 3) := by decide +kernel
theorem dX7_doOperation_98 : decode cX7_doOperation 98 = .ok (.invokevirtual 168, 3) := by decide +kernel
theorem dX7_doOperation_101 : decode cX7_doOperation 101 = .ok (.putfield 171, 3) := by decide +kernel
theorem dX7_doOperation_104 : decode cX7_doOperation 104 = .ok (.aload_n 0, 1) := by decide +kernel
theorem dX7_doOperation_105 : decode cX7_doOperation 105 = .ok (.getfield 171, 3) := by decide +kernel
theorem dX7_doOperation_108 : decode cX7_doOperation 108 = .ok (.ldc 158, 2) := by decide +kernel
theorem dX7_doOperation_110 : decode cX7_doOperation 110 = .ok (.if_icmp .ne 5, 3) := by decide +kernel
theorem dX7_doOperation_113 : decode cX7_doOperation 113 = .ok (.iconst 0, 1) := by decide +kernel
theorem dX7_doOperation_114 : decode cX7_doOperation 114 = .ok (.ireturn, 1) := by decide +kernel
theorem dX7_doOperation_115 : decode cX7_doOperation 115 = .ok (.aload_n 0, 1) := by decide +kernel
theorem dX7_doOperation_116 : decode cX7_doOperation 116 = .ok (.getfield 37, 3) := by decide +kernel
theorem dX7_doOperation_119 : decode cX7_doOperation 119 = .ok (.iload_n 3, 1) := by decide +kernel
theorem dX7_doOperation_120 : decode cX7_doOperation 120 = .ok (.iconst 3, 1) := by decide +kernel
theorem dX7_doOperation_121 : decode cX7_doOperation 121 = .ok (.iadd, 1) := by decide +kernel
theorem dX7_doOperation_122 : decode cX7_doOperation 122 = .ok (.iload 6, 2) := by decide +kernel
theorem dX7_doOperation_124 : decode cX7_doOperation 124 = .ok (.iastore, 1) := by decide +kernel
theorem dX7_doOperation_125 : decode cX7_doOperation 125 = .ok (.iconst 1, 1) := by decide +kernel
theorem dX7_doOperation_126 : decode cX7_doOperation 126 = .ok (.ireturn, 1) := by decide +kernel
theorem dX7_ask_0 : decode cX7_ask 0 = .ok (.aload_n 0, 1) := by decide +kernel
theorem dX7_ask_1 : decode cX7_ask 1 = .ok (.iload_n 1, 1) := by decide +kernel
theorem dX7_ask_2 : decode cX7_ask 2 = .ok (.aload_n 0, 1) := by decide +kernel
theorem dX7_ask_3 : decode cX7_ask 3 = .ok (.getfield 34, 3) := by decide +kernel
theorem dX7_ask_6 : decode cX7_ask 6 = .ok (.iload_n 1, 1) := by decide +kernel
theorem dX7_ask_7 : decode cX7_ask 7 = .ok (.iaload, 1) := by decide +kernel
theorem dX7_ask_8 : decode cX7_ask 8 = .ok (.invokevirtual 159, 3) := by decide +kernel
theorem dX7_ask_11 : decode cX7_ask 11 = .ok (.istore 5, 2) := by decide +kernel
theorem dX7_ask_13 : decode cX7_ask 13 = .ok (.aload_n 0, 1) := by decide +kernel
theorem dX7_ask_14 : decode cX7_ask 14 = .ok (.getfield 37, 3) := by decide +kernel
theorem dX7_ask_17 : decode cX7_ask 17 = .ok (.iload 5, 2) := by decide +kernel
theorem dX7_ask_19 : decode cX7_ask 19 = .ok (.iload_n 2, 1) := by decide +kernel
theorem dX7_ask_20 : decode cX7_ask 20 = .ok (.iastore, 1) := by decide +kernel
theorem dX7_ask_21 : decode cX7_ask 21 = .ok (.aload_n 0, 1) := by decide +kernel
theorem dX7_ask_22 : decode cX7_ask 22 = .ok (.getfield 37, 3) := by decide +kernel
theorem dX7_ask_25 : decode cX7_ask 25 = .ok (.iload 5, 2) := by decide +kernel
theorem dX7_ask_27 : decode cX7_ask 27 = .ok (.iconst 1, 1) := by decide +kernel
theorem dX7_ask_28 : decode cX7_ask 28 = .ok (.iadd, 1) := by decide +kernel
theorem dX7_ask_29 : decode cX7_ask 29 = .ok (.iload_n 3, 1) := by decide +kernel
theorem dX7_ask_30 : decode cX7_ask 30 = .ok (.iastore, 1) := by decide +kernel
theorem dX7_ask_31 : decode cX7_ask 31 = .ok (.aload_n 0, 1) := by decide +kernel
theorem dX7_ask_32 : decode cX7_ask 32 = .ok (.getfield 37, 3) := by decide +kernel
theorem dX7_ask_35 : decode cX7_ask 35 = .ok (.iload 5, 2) := by decide +kernel
theorem dX7_ask_37 : decode cX7_ask 37 = .ok (.iconst 2, 1) := by decide +kernel
theorem dX7_ask_38 : decode cX7_ask 38 = .ok (.iadd, 1) := by decide +kernel
theorem dX7_ask_39 : decode cX7_ask 39 = .ok (.iload 4, 2) := by decide +kernel
theorem dX7_ask_41 : decode cX7_ask 41 = .ok (.iastore, 1) := by decide +kernel
theorem dX7_ask_42 : decode cX7_ask 42 = .ok (.aload_n 0, 1) := by decide +kernel
theorem dX7_ask_43 : decode cX7_ask 43 = .ok (.getfield 37, 3) := by decide +kernel
theorem dX7_ask_46 : decode cX7_ask 46 = .ok (.iload 5, 2) := by decide +kernel
theorem dX7_ask_48 : decode cX7_ask 48 = .ok (.iconst 3, 1) := by decide +kernel
theorem dX7_ask_49 : decode cX7_ask 49 = .ok (.iadd, 1) := by decide +kernel
theorem dX7_ask_50 : decode cX7_ask 50 = .ok (.iconst 0, 1) := by decide +kernel
theorem dX7_ask_51 : decode cX7_ask 51 = .ok (.iastore, 1) := by decide +kernel
theorem dX7_ask_52 : decode cX7_ask 52 = .ok (.aload_n 0, 1) := by decide +kernel
theorem dX7_ask_53 : decode cX7_ask 53 = .ok (.getfield 34, 3) := by decide +kernel
theorem dX7_ask_56 : decode cX7_ask 56 = .ok (.iload_n 1, 1) := by decide +kernel
theorem dX7_ask_57 : decode cX7_ask 57 = .ok (.dup2, 1) := by decide +kernel
theorem dX7_ask_58 : decode cX7_ask 58 = .ok (.iaload, 1) := by decide +kernel
theorem dX7_ask_59 : decode cX7_ask 59 = .ok (.iconst 1, 1) := by decide +kernel
theorem dX7_ask_60 : decode cX7_ask 60 = .ok (.iadd, 1) := by decide +kernel
theorem dX7_ask_61 : decode cX7_ask 61 = .ok (.iastore, 1) := by decide +kernel
theorem dX7_ask_62 : decode cX7_ask 62 = .ok (.aload_n 0, 1) := by decide +kernel
theorem dX7_ask_63 : decode cX7_ask 63 = .ok (.iload_n 1, 1) := by decide +kernel
theorem dX7_ask_64 : decode cX7_ask 64 = .ok (.aload_n 0, 1) := by decide +kernel
theorem dX7_ask_65 : decode cX7_ask 65 = .ok (.getfield 34, 3) := by decide +kernel
theorem dX7_ask_68 : decode cX7_ask 68 = .ok (.iload_n 1, 1) := by decide +kernel
theorem dX7_ask_69 : decode cX7_ask 69 = .ok (.iaload, 1) := by decide +kernel
theorem dX7_ask_70 : decode cX7_ask 70 = .ok (.iconst 1, 1) := by decide +kernel
theorem dX7_ask_71 : decode cX7_ask 71 = .ok (.isub, 1) := by decide +kernel
theorem dX7_ask_72 : decode cX7_ask 72 = .ok (.invokevirtual 174, 3) := by decide +kernel
theorem dX7_ask_75 : decode cX7_ask 75 = .ok (.ireturn, 1) := by decide +kernel
theorem dX7_operationProblem_0 : decode cX7_operationProblem 0 = .ok (.aload_n 0, 1) := by decide +kernel
theorem dX7_operationProblem_1 : decode cX7_operationProblem 1 = .ok (.iload_n 1, 1) := by decide +kernel
theorem dX7_operationProblem_2 : decode cX7_operationProblem 2 = .ok (.invokevirtual 128, 3) := by decide +kernel
theorem dX7_operationProblem_5 : decode cX7_operationProblem 5 = .ok (.ifCond .eq 10, 3) := by decide +kernel
theorem dX7_operationProblem_8 : decode cX7_operationProblem 8 = .ok (.iload_n 2, 1) := by decide +kernel
theorem dX7_operationProblem_9 : decode cX7_operationProblem 9 = .ok (.invokestatic 177, 3) := by decide +kernel
theorem dX7_operationProblem_12 : decode cX7_operationProblem 12 = .ok (.ifCond .ne 7, 3) := by decide +kernel
theorem dX7_operationProblem_15 : decode cX7_operationProblem 15 = .ok (.iconst 1, 1) := by decide +kernel
theorem dX7_operationProblem_16 : decode cX7_operationProblem 16 = .ok (.goto 32, 3) := by decide +kernel
theorem dX7_operationProblem_19 : decode cX7_operationProblem 19 = .ok (.aload_n 0, 1) := by decide +kernel
theorem dX7_operationProblem_20 : decode cX7_operationProblem 20 = .ok (.getfield 21, 3) := by decide +kernel
theorem dX7_operationProblem_23 : decode cX7_operationProblem 23 = .ok (.iload_n 1, 1) := by decide +kernel
theorem dX7_operationProblem_24 : decode cX7_operationProblem 24 = .ok (.iaload, 1) := by decide +kernel
theorem dX7_operationProblem_25 : decode cX7_operationProblem 25 = .ok (.ifCond .eq 7, 3) := by decide +kernel
theorem dX7_operationProblem_28 : decode cX7_operationProblem 28 = .ok (.iconst 2, 1) := by decide +kernel
theorem dX7_operationProblem_29 : decode cX7_operationProblem 29 = .ok (.goto 19, 3) := by decide +kernel
theorem dX7_operationProblem_32 : decode cX7_operationProblem 32 = .ok (.aload_n 0, 1) := by decide +kernel
theorem dX7_operationProblem_33 : decode cX7_operationProblem 33 = .ok (.getfield 34, 3) := by decide +kernel
theorem dX7_operationProblem_36 : decode cX7_operationProblem 36 = .ok (.iload_n 1, 1) := by decide +kernel
theorem dX7_operationProblem_37 : decode cX7_operationProblem 37 = .ok (.iaload, 1) := by decide +kernel
theorem dX7_operationProblem_38 : decode cX7_operationProblem 38 = .ok (.bipush 20, 2) := by decide +kernel
theorem dX7_operationProblem_40 : decode cX7_operationProblem 40 = .ok (.if_icmp .ne 7, 3) := by decide +kernel
theorem dX7_operationProblem_43 : decode cX7_operationProblem 43 = .ok (.iconst 3, 1) := by decide +kernel
theorem dX7_operationProblem_44 : decode cX7_operationProblem 44 = .ok (.goto 4, 3) := by decide +kernel
theorem dX7_operationProblem_47 : decode cX7_operationProblem 47 = .ok (.iconst 0, 1) := by decide +kernel
theorem dX7_operationProblem_48 : decode cX7_operationProblem 48 = .ok (.ireturn, 1) := by decide +kernel
theorem dX7_read_0 : decode cX7_read 0 = .ok (.aload_n 0, 1) := by decide +kernel
theorem dX7_read_1 : decode cX7_read 1 = .ok (.aload_n 0, 1) := by decide +kernel
theorem dX7_read_2 : decode cX7_read 2 = .ok (.iload_n 1, 1) := by decide +kernel
theorem dX7_read_3 : decode cX7_read 3 = .ok (.iload_n 2, 1) := by decide +kernel
theorem dX7_read_4 : decode cX7_read 4 = .ok (.invokevirtual 180, 3) := by decide +kernel
theorem dX7_read_7 : decode cX7_read 7 = .ok (.putfield 3, 3) := by decide +kernel
theorem dX7_read_10 : decode cX7_read 10 = .ok (.aload_n 0, 1) := by decide +kernel
theorem dX7_read_11 : decode cX7_read 11 = .ok (.getfield 3, 3) := by decide +kernel
theorem dX7_read_14 : decode cX7_read 14 = .ok (.ifCond .eq 7, 3) := by decide +kernel
theorem dX7_read_17 : decode cX7_read 17 = .ok (.iconst 0, 1) := by decide +kernel
theorem dX7_read_18 : decode cX7_read 18 = .ok (.goto 23, 3) := by decide +kernel
theorem dX7_read_21 : decode cX7_read 21 = .ok (.aload_n 0, 1) := by decide +kernel
theorem dX7_read_22 : decode cX7_read 22 = .ok (.iload_n 1, 1) := by decide +kernel
theorem dX7_read_23 : decode cX7_read 23 = .ok (.iconst 0, 1) := by decide +kernel
theorem dX7_read_24 : decode cX7_read 24 = .ok (.iload_n 2, 1) := by decide +kernel
theorem dX7_read_25 : decode cX7_read 25 = .ok (.iconst 0, 1) := by decide +kernel
theorem dX7_read_26 : decode cX7_read 26 = .ok (.invokevirtual 183, 3) := by decide +kernel
theorem dX7_read_29 : decode cX7_read 29 = .ok (.ifCond .eq 10, 3) := by decide +kernel
theorem dX7_read_32 : decode cX7_read 32 = .ok (.aload_n 0, 1) := by decide +kernel
theorem dX7_read_33 : decode cX7_read 33 = .ok (.getfield 151, 3) := by decide +kernel
theorem dX7_read_36 : decode cX7_read 36 = .ok (.goto 5, 3) := by decide +kernel
theorem dX7_read_39 : decode cX7_read 39 = .ok (.ldc 158, 2) := by decide +kernel
theorem dX7_read_41 : decode cX7_read 41 = .ok (.ireturn, 1) := by decide +kernel
theorem dX7_write_0 : decode cX7_write 0 = .ok (.aload_n 0, 1) := by decide +kernel
theorem dX7_write_1 : decode cX7_write 1 = .ok (.aload_n 0, 1) := by decide +kernel
theorem dX7_write_2 : decode cX7_write 2 = .ok (.iload_n 1, 1) := by decide +kernel
theorem dX7_write_3 : decode cX7_write 3 = .ok (.iload_n 2, 1) := by decide +kernel
theorem dX7_write_4 : decode cX7_write 4 = .ok (.invokevirtual 180, 3) := by decide +kernel
theorem dX7_write_7 : decode cX7_write 7 = .ok (.putfield 3, 3) := by decide +kernel
theorem dX7_write_10 : decode cX7_write 10 = .ok (.aload_n 0, 1) := by decide +kernel
theorem dX7_write_11 : decode cX7_write 11 = .ok (.getfield 3, 3) := by decide +kernel
theorem dX7_write_14 : decode cX7_write 14 = .ok (.ifCond .eq 7, 3) := by decide +kernel
theorem dX7_write_17 : decode cX7_write 17 = .ok (.iconst 0, 1) := by decide +kernel
theorem dX7_write_18 : decode cX7_write 18 = .ok (.goto 23, 3) := by decide +kernel
theorem dX7_write_21 : decode cX7_write 21 = .ok (.aload_n 0, 1) := by decide +kernel
theorem dX7_write_22 : decode cX7_write 22 = .ok (.iload_n 1, 1) := by decide +kernel
theorem dX7_write_23 : decode cX7_write 23 = .ok (.iconst 1, 1) := by decide +kernel
theorem dX7_write_24 : decode cX7_write 24 = .ok (.iload_n 2, 1) := by decide +kernel
theorem dX7_write_25 : decode cX7_write 25 = .ok (.iload_n 3, 1) := by decide +kernel
theorem dX7_write_26 : decode cX7_write 26 = .ok (.invokevirtual 183, 3) := by decide +kernel
theorem dX7_write_29 : decode cX7_write 29 = .ok (.ifCond .eq 10, 3) := by decide +kernel
theorem dX7_write_32 : decode cX7_write 32 = .ok (.aload_n 0, 1) := by decide +kernel
theorem dX7_write_33 : decode cX7_write 33 = .ok (.getfield 171, 3) := by decide +kernel
theorem dX7_write_36 : decode cX7_write 36 = .ok (.goto 5, 3) := by decide +kernel
theorem dX7_write_39 : decode cX7_write 39 = .ok (.ldc 158, 2) := by decide +kernel
theorem dX7_write_41 : decode cX7_write 41 = .ok (.ireturn, 1) := by decide +kernel
theorem dX7_add_0 : decode cX7_add 0 = .ok (.aload_n 0, 1) := by decide +kernel
theorem dX7_add_1 : decode cX7_add 1 = .ok (.aload_n 0, 1) := by decide +kernel
theorem dX7_add_2 : decode cX7_add 2 = .ok (.iload_n 1, 1) := by decide +kernel
theorem dX7_add_3 : decode cX7_add 3 = .ok (.iload_n 2, 1) := by decide +kernel
theorem dX7_add_4 : decode cX7_add 4 = .ok (.invokevirtual 180, 3) := by decide +kernel
theorem dX7_add_7 : decode cX7_add 7 = .ok (.putfield 3, 3) := by decide +kernel
theorem dX7_add_10 : decode cX7_add 10 = .ok (.aload_n 0, 1) := by decide +kernel
theorem dX7_add_11 : decode cX7_add 11 = .ok (.getfield 3, 3) := by decide +kernel
theorem dX7_add_14 : decode cX7_add 14 = .ok (.ifCond .eq 7, 3) := by decide +kernel
theorem dX7_add_17 : decode cX7_add 17 = .ok (.iconst 0, 1) := by decide +kernel
theorem dX7_add_18 : decode cX7_add 18 = .ok (.goto 23, 3) := by decide +kernel
theorem dX7_add_21 : decode cX7_add 21 = .ok (.aload_n 0, 1) := by decide +kernel
theorem dX7_add_22 : decode cX7_add 22 = .ok (.iload_n 1, 1) := by decide +kernel
theorem dX7_add_23 : decode cX7_add 23 = .ok (.iconst 2, 1) := by decide +kernel
theorem dX7_add_24 : decode cX7_add 24 = .ok (.iload_n 2, 1) := by decide +kernel
theorem dX7_add_25 : decode cX7_add 25 = .ok (.iload_n 3, 1) := by decide +kernel
theorem dX7_add_26 : decode cX7_add 26 = .ok (.invokevirtual 183, 3) := by decide +kernel
theorem dX7_add_29 : decode cX7_add 29 = .ok (.ifCond .eq 10, 3) := by decide +kernel
theorem dX7_add_32 : decode cX7_add 32 = .ok (.aload_n 0, 1) := by decide +kernel
theorem dX7_add_33 : decode cX7_add 33 = .ok (.getfield 165, 3) := by decide +kernel
theorem dX7_add_36 : decode cX7_add 36 = .ok (.goto 5, 3) := by decide +kernel
theorem dX7_add_39 : decode cX7_add 39 = .ok (.ldc 158, 2) := by decide +kernel
theorem dX7_add_41 : decode cX7_add 41 = .ok (.ireturn, 1) := by decide +kernel
theorem dX7_restartNext_0 : decode cX7_restartNext 0 = .ok (.aload_n 0, 1) := by decide +kernel
theorem dX7_restartNext_1 : decode cX7_restartNext 1 = .ok (.iconst 0, 1) := by decide +kernel
theorem dX7_restartNext_2 : decode cX7_restartNext 2 = .ok (.putfield 3, 3) := by decide +kernel
theorem dX7_restartNext_5 : decode cX7_restartNext 5 = .ok (.iconst (-1), 1) := by decide +kernel
theorem dX7_restartNext_6 : decode cX7_restartNext 6 = .ok (.istore_n 1, 1) := by decide +kernel
theorem dX7_restartNext_7 : decode cX7_restartNext 7 = .ok (.iconst 0, 1) := by decide +kernel
theorem dX7_restartNext_8 : decode cX7_restartNext 8 = .ok (.istore_n 2, 1) := by decide +kernel
theorem dX7_restartNext_9 : decode cX7_restartNext 9 = .ok (.iload_n 2, 1) := by decide +kernel
theorem dX7_restartNext_10 : decode cX7_restartNext 10 = .ok (.aload_n 0, 1) := by decide +kernel
theorem dX7_restartNext_11 : decode cX7_restartNext 11 = .ok (.getfield 103, 3) := by decide +kernel
theorem dX7_restartNext_14 : decode cX7_restartNext 14 = .ok (.if_icmp .ge 71, 3) := by decide +kernel
theorem dX7_restartNext_17 : decode cX7_restartNext 17 = .ok (.aload_n 0, 1) := by decide +kernel
theorem dX7_restartNext_18 : decode cX7_restartNext 18 = .ok (.getfield 21, 3) := by decide +kernel
theorem dX7_restartNext_21 : decode cX7_restartNext 21 = .ok (.iload_n 2, 1) := by decide +kernel
theorem dX7_restartNext_22 : decode cX7_restartNext 22 = .ok (.iaload, 1) := by decide +kernel
theorem dX7_restartNext_23 : decode cX7_restartNext 23 = .ok (.iconst 3, 1) := by decide +kernel
theorem dX7_restartNext_24 : decode cX7_restartNext 24 = .ok (.if_icmp .ne 55, 3) := by decide +kernel
theorem dX7_restartNext_27 : decode cX7_restartNext 27 = .ok (.iload_n 1, 1) := by decide +kernel
theorem dX7_restartNext_28 : decode cX7_restartNext 28 = .ok (.iconst (-1), 1) := by decide +kernel
theorem dX7_restartNext_29 : decode cX7_restartNext 29 = .ok (.if_icmp .eq 48, 3) := by decide +kernel
theorem dX7_restartNext_32 : decode cX7_restartNext 32 = .ok (.aload_n 0, 1) := by decide +kernel
theorem dX7_restartNext_33 : decode cX7_restartNext 33 = .ok (.getfield 28, 3) := by decide +kernel
theorem dX7_restartNext_36 : decode cX7_restartNext 36 = .ok (.iload_n 2, 1) := by decide +kernel
theorem dX7_restartNext_37 : decode cX7_restartNext 37 = .ok (.iaload, 1) := by decide +kernel
theorem dX7_restartNext_38 : decode cX7_restartNext 38 = .ok (.aload_n 0, 1) := by decide +kernel
theorem dX7_restartNext_39 : decode cX7_restartNext 39 = .ok (.getfield 28, 3) := by decide +kernel
theorem dX7_restartNext_42 : decode cX7_restartNext 42 = .ok (.iload_n 1, 1) := by decide +kernel
theorem dX7_restartNext_43 : decode cX7_restartNext 43 = .ok (.iaload, 1) := by decide +kernel
theorem dX7_restartNext_44 : decode cX7_restartNext 44 = .ok (.if_icmp .gt 33, 3) := by decide +kernel
theorem dX7_restartNext_47 : decode cX7_restartNext 47 = .ok (.aload_n 0, 1) := by decide +kernel
theorem dX7_restartNext_48 : decode cX7_restartNext 48 = .ok (.getfield 28, 3) := by decide +kernel
theorem dX7_restartNext_51 : decode cX7_restartNext 51 = .ok (.iload_n 2, 1) := by decide +kernel
theorem dX7_restartNext_52 : decode cX7_restartNext 52 = .ok (.iaload, 1) := by decide +kernel
theorem dX7_restartNext_53 : decode cX7_restartNext 53 = .ok (.aload_n 0, 1) := by decide +kernel
theorem dX7_restartNext_54 : decode cX7_restartNext 54 = .ok (.getfield 28, 3) := by decide +kernel
theorem dX7_restartNext_57 : decode cX7_restartNext 57 = .ok (.iload_n 1, 1) := by decide +kernel
theorem dX7_restartNext_58 : decode cX7_restartNext 58 = .ok (.iaload, 1) := by decide +kernel
theorem dX7_restartNext_59 : decode cX7_restartNext 59 = .ok (.if_icmp .ne 20, 3) := by decide +kernel
theorem dX7_restartNext_62 : decode cX7_restartNext 62 = .ok (.aload_n 0, 1) := by decide +kernel
theorem dX7_restartNext_63 : decode cX7_restartNext 63 = .ok (.getfield 31, 3) := by decide +kernel
theorem dX7_restartNext_66 : decode cX7_restartNext 66 = .ok (.iload_n 2, 1) := by decide +kernel
theorem dX7_restartNext_67 : decode cX7_restartNext 67 = .ok (.iaload, 1) := by decide +kernel
theorem dX7_restartNext_68 : decode cX7_restartNext 68 = .ok (.aload_n 0, 1) := by decide +kernel
theorem dX7_restartNext_69 : decode cX7_restartNext 69 = .ok (.getfield 31, 3) := by decide +kernel
theorem dX7_restartNext_72 : decode cX7_restartNext 72 = .ok (.iload_n 1, 1) := by decide +kernel
theorem dX7_restartNext_73 : decode cX7_restartNext 73 = .ok (.iaload, 1) := by decide +kernel
theorem dX7_restartNext_74 : decode cX7_restartNext 74 = .ok (.if_icmp .le 5, 3) := by decide +kernel
theorem dX7_restartNext_77 : decode cX7_restartNext 77 = .ok (.iload_n 2, 1) := by decide +kernel
theorem dX7_restartNext_78 : decode cX7_restartNext 78 = .ok (.istore_n 1, 1) := by decide +kernel
theorem dX7_restartNext_79 : decode cX7_restartNext 79 = .ok (.iinc 2 1, 3) := by decide +kernel
theorem dX7_restartNext_82 : decode cX7_restartNext 82 = .ok (.goto (-73), 3) := by decide +kernel
theorem dX7_restartNext_85 : decode cX7_restartNext 85 = .ok (.iload_n 1, 1) := by decide +kernel
theorem dX7_restartNext_86 : decode cX7_restartNext 86 = .ok (.iconst (-1), 1) := by decide +kernel
theorem dX7_restartNext_87 : decode cX7_restartNext 87 = .ok (.if_icmp .ne 9, 3) := by decide +kernel
theorem dX7_restartNext_90 : decode cX7_restartNext 90 = .ok (.aload_n 0, 1) := by decide +kernel
theorem dX7_restartNext_91 : decode cX7_restartNext 91 = .ok (.iconst 1, 1) := by decide +kernel
theorem dX7_restartNext_92 : decode cX7_restartNext 92 = .ok (.invokevirtual 99, 3) := by decide +kernel
theorem dX7_restartNext_95 : decode cX7_restartNext 95 = .ok (.ireturn, 1) := by decide +kernel
theorem dX7_restartNext_96 : decode cX7_restartNext 96 = .ok (.aload_n 0, 1) := by decide +kernel
theorem dX7_restartNext_97 : decode cX7_restartNext 97 = .ok (.getfield 21, 3) := by decide +kernel
theorem dX7_restartNext_100 : decode cX7_restartNext 100 = .ok (.iload_n 1, 1) := by decide +kernel
theorem dX7_restartNext_101 : decode cX7_restartNext 101 = .ok (.iconst 0, 1) := by decide +kernel
theorem dX7_restartNext_102 : decode cX7_restartNext 102 = .ok (.iastore, 1) := by decide +kernel
theorem dX7_restartNext_103 : decode cX7_restartNext 103 = .ok (.aload_n 0, 1) := by decide +kernel
theorem dX7_restartNext_104 : decode cX7_restartNext 104 = .ok (.getfield 25, 3) := by decide +kernel
theorem dX7_restartNext_107 : decode cX7_restartNext 107 = .ok (.iload_n 1, 1) := by decide +kernel
theorem dX7_restartNext_108 : decode cX7_restartNext 108 = .ok (.aload_n 0, 1) := by decide +kernel
theorem dX7_restartNext_109 : decode cX7_restartNext 109 = .ok (.getfield 18, 3) := by decide +kernel
theorem dX7_restartNext_112 : decode cX7_restartNext 112 = .ok (.iastore, 1) := by decide +kernel
theorem dX7_restartNext_113 : decode cX7_restartNext 113 = .ok (.aload_n 0, 1) := by decide +kernel
theorem dX7_restartNext_114 : decode cX7_restartNext 114 = .ok (.dup, 1) := by decide +kernel
theorem dX7_restartNext_115 : decode cX7_restartNext 115 = .ok (.getfield 18, 3) := by decide +kernel
theorem dX7_restartNext_118 : decode cX7_restartNext 118 = .ok (.iconst 1, 1) := by decide +kernel
theorem dX7_restartNext_119 : decode cX7_restartNext 119 = .ok (.iadd, 1) := by decide +kernel
theorem dX7_restartNext_120 : decode cX7_restartNext 120 = .ok (.putfield 18, 3) := by decide +kernel
theorem dX7_restartNext_123 : decode cX7_restartNext 123 = .ok (.aload_n 0, 1) := by decide +kernel
theorem dX7_restartNext_124 : decode cX7_restartNext 124 = .ok (.bipush 8, 2) := by decide +kernel
theorem dX7_restartNext_126 : decode cX7_restartNext 126 = .ok (.iload_n 1, 1) := by decide +kernel
theorem dX7_restartNext_127 : decode cX7_restartNext 127 = .ok (.iconst (-1), 1) := by decide +kernel
theorem dX7_restartNext_128 : decode cX7_restartNext 128 = .ok (.invokevirtual 109, 3) := by decide +kernel
theorem dX7_restartNext_131 : decode cX7_restartNext 131 = .ok (.iconst 0, 1) := by decide +kernel
theorem dX7_restartNext_132 : decode cX7_restartNext 132 = .ok (.istore_n 2, 1) := by decide +kernel
theorem dX7_restartNext_133 : decode cX7_restartNext 133 = .ok (.iload_n 2, 1) := by decide +kernel
theorem dX7_restartNext_134 : decode cX7_restartNext 134 = .ok (.aload_n 0, 1) := by decide +kernel
theorem dX7_restartNext_135 : decode cX7_restartNext 135 = .ok (.getfield 34, 3) := by decide +kernel
theorem dX7_restartNext_138 : decode cX7_restartNext 138 = .ok (.iload_n 1, 1) := by decide +kernel
theorem dX7_restartNext_139 : decode cX7_restartNext 139 = .ok (.iaload, 1) := by decide +kernel
theorem dX7_restartNext_140 : decode cX7_restartNext 140 = .ok (.if_icmp .ge 18, 3) := by decide +kernel
theorem dX7_restartNext_143 : decode cX7_restartNext 143 = .ok (.aload_n 0, 1) := by decide +kernel
theorem dX7_restartNext_144 : decode cX7_restartNext 144 = .ok (.iload_n 1, 1) := by decide +kernel
theorem dX7_restartNext_145 : decode cX7_restartNext 145 = .ok (.iload_n 2, 1) := by decide +kernel
theorem dX7_restartNext_146 : decode cX7_restartNext 146 = .ok (.invokevirtual 174, 3) := by decide +kernel
theorem dX7_restartNext_149 : decode cX7_restartNext 149 = .ok (.ifCond .eq 9, 3) := by decide +kernel
theorem dX7_restartNext_152 : decode cX7_restartNext 152 = .ok (.iinc 2 1, 3) := by decide +kernel
theorem dX7_restartNext_155 : decode cX7_restartNext 155 = .ok (.goto (-22), 3) := by decide +kernel
theorem dX7_restartNext_158 : decode cX7_restartNext 158 = .ok (.iload_n 1, 1) := by decide +kernel
theorem dX7_restartNext_159 : decode cX7_restartNext 159 = .ok (.ireturn, 1) := by decide +kernel
theorem dX7_append_0 : decode cX7_append 0 = .ok (.aload_n 0, 1) := by decide +kernel
theorem dX7_append_1 : decode cX7_append 1 = .ok (.iconst 0, 1) := by decide +kernel
theorem dX7_append_2 : decode cX7_append 2 = .ok (.putfield 3, 3) := by decide +kernel
theorem dX7_append_5 : decode cX7_append 5 = .ok (.iload_n 1, 1) := by decide +kernel
theorem dX7_append_6 : decode cX7_append 6 = .ok (.bipush 32, 2) := by decide +kernel
theorem dX7_append_8 : decode cX7_append 8 = .ok (.bipush 126, 2) := by decide +kernel
theorem dX7_append_10 : decode cX7_append 10 = .ok (.invokestatic 95, 3) := by decide +kernel
theorem dX7_append_13 : decode cX7_append 13 = .ok (.ifCond .ne 9, 3) := by decide +kernel
theorem dX7_append_16 : decode cX7_append 16 = .ok (.aload_n 0, 1) := by decide +kernel
theorem dX7_append_17 : decode cX7_append 17 = .ok (.iconst 1, 1) := by decide +kernel
theorem dX7_append_18 : decode cX7_append 18 = .ok (.invokevirtual 99, 3) := by decide +kernel
theorem dX7_append_21 : decode cX7_append 21 = .ok (.ireturn, 1) := by decide +kernel
theorem dX7_append_22 : decode cX7_append 22 = .ok (.aload_n 0, 1) := by decide +kernel
theorem dX7_append_23 : decode cX7_append 23 = .ok (.getfield 187, 3) := by decide +kernel
theorem dX7_append_26 : decode cX7_append 26 = .ok (.bipush 60, 2) := by decide +kernel
theorem dX7_append_28 : decode cX7_append 28 = .ok (.if_icmp .ne 9, 3) := by decide +kernel
theorem dX7_append_31 : decode cX7_append 31 = .ok (.aload_n 0, 1) := by decide +kernel
theorem dX7_append_32 : decode cX7_append 32 = .ok (.iconst 2, 1) := by decide +kernel
theorem dX7_append_33 : decode cX7_append 33 = .ok (.invokevirtual 99, 3) := by decide +kernel
theorem dX7_append_36 : decode cX7_append 36 = .ok (.ireturn, 1) := by decide +kernel
theorem dX7_append_37 : decode cX7_append 37 = .ok (.aload_n 0, 1) := by decide +kernel
theorem dX7_append_38 : decode cX7_append 38 = .ok (.getfield 55, 3) := by decide +kernel
theorem dX7_append_41 : decode cX7_append 41 = .ok (.aload_n 0, 1) := by decide +kernel
theorem dX7_append_42 : decode cX7_append 42 = .ok (.getfield 187, 3) := by decide +kernel
theorem dX7_append_45 : decode cX7_append 45 = .ok (.iload_n 1, 1) := by decide +kernel
theorem dX7_append_46 : decode cX7_append 46 = .ok (.castore, 1) := by decide +kernel
theorem dX7_append_47 : decode cX7_append 47 = .ok (.aload_n 0, 1) := by decide +kernel
theorem dX7_append_48 : decode cX7_append 48 = .ok (.dup, 1) := by decide +kernel

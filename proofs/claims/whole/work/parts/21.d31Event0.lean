theorem dX2_forgetAll_0 : decode cX2_forgetAll 0 = .ok (.aload_n 0, 1) := by decide +kernel
theorem dX2_forgetAll_1 : decode cX2_forgetAll 1 = .ok (.iconst 0, 1) := by decide +kernel
theorem dX2_forgetAll_2 : decode cX2_forgetAll 2 = .ok (.putfield 24, 3) := by decide +kernel
theorem dX2_forgetAll_5 : decode cX2_forgetAll 5 = .ok (.aload_n 0, 1) := by decide +kernel
theorem dX2_forgetAll_6 : decode cX2_forgetAll 6 = .ok (.iconst 0, 1) := by decide +kernel
theorem dX2_forgetAll_7 : decode cX2_forgetAll 7 = .ok (.putfield 28, 3) := by decide +kernel
theorem dX2_forgetAll_10 : decode cX2_forgetAll 10 = .ok (.iconst 0, 1) := by decide +kernel
theorem dX2_forgetAll_11 : decode cX2_forgetAll 11 = .ok (.istore_n 1, 1) := by decide +kernel
theorem dX2_forgetAll_12 : decode cX2_forgetAll 12 = .ok (.iload_n 1, 1) := by decide +kernel
theorem dX2_forgetAll_13 : decode cX2_forgetAll 13 = .ok (.bipush 9, 2) := by decide +kernel
theorem dX2_forgetAll_15 : decode cX2_forgetAll 15 = .ok (.if_icmp .ge 16, 3) := by decide +kernel
theorem dX2_forgetAll_18 : decode cX2_forgetAll 18 = .ok (.aload_n 0, 1) := by decide +kernel
theorem dX2_forgetAll_19 : decode cX2_forgetAll 19 = .ok (.getfield 21, 3) := by decide +kernel
theorem dX2_forgetAll_22 : decode cX2_forgetAll 22 = .ok (.iload_n 1, 1) := by decide +kernel
theorem dX2_forgetAll_23 : decode cX2_forgetAll 23 = .ok (.iconst 0, 1) := by decide +kernel
theorem dX2_forgetAll_24 : decode cX2_forgetAll 24 = .ok (.iastore, 1) := by decide +kernel
theorem dX2_forgetAll_25 : decode cX2_forgetAll 25 = .ok (.iinc 1 1, 3) := by decide +kernel
theorem dX2_forgetAll_28 : decode cX2_forgetAll 28 = .ok (.goto (-16), 3) := by decide +kernel
theorem dX2_forgetAll_31 : decode cX2_forgetAll 31 = .ok (.return_, 1) := by decide +kernel
theorem dX2_copyFrom_0 : decode cX2_copyFrom 0 = .ok (.aload_n 0, 1) := by decide +kernel
theorem dX2_copyFrom_1 : decode cX2_copyFrom 1 = .ok (.aload_n 1, 1) := by decide +kernel
theorem dX2_copyFrom_2 : decode cX2_copyFrom 2 = .ok (.getfield 24, 3) := by decide +kernel
theorem dX2_copyFrom_5 : decode cX2_copyFrom 5 = .ok (.putfield 24, 3) := by decide +kernel
theorem dX2_copyFrom_8 : decode cX2_copyFrom 8 = .ok (.aload_n 0, 1) := by decide +kernel
theorem dX2_copyFrom_9 : decode cX2_copyFrom 9 = .ok (.aload_n 1, 1) := by decide +kernel
theorem dX2_copyFrom_10 : decode cX2_copyFrom 10 = .ok (.getfield 28, 3) := by decide +kernel
theorem dX2_copyFrom_13 : decode cX2_copyFrom 13 = .ok (.putfield 28, 3) := by decide +kernel
theorem dX2_copyFrom_16 : decode cX2_copyFrom 16 = .ok (.aload_n 1, 1) := by decide +kernel
theorem dX2_copyFrom_17 : decode cX2_copyFrom 17 = .ok (.getfield 9, 3) := by decide +kernel
theorem dX2_copyFrom_20 : decode cX2_copyFrom 20 = .ok (.iconst 0, 1) := by decide +kernel
theorem dX2_copyFrom_21 : decode cX2_copyFrom 21 = .ok (.aload_n 0, 1) := by decide +kernel
theorem dX2_copyFrom_22 : decode cX2_copyFrom 22 = .ok (.getfield 9, 3) := by decide +kernel
theorem dX2_copyFrom_25 : decode cX2_copyFrom 25 = .ok (.iconst 0, 1) := by decide +kernel
theorem dX2_copyFrom_26 : decode cX2_copyFrom 26 = .ok (.bipush 50, 2) := by decide +kernel
theorem dX2_copyFrom_28 : decode cX2_copyFrom 28 = .ok (.invokestatic 31, 3) := by decide +kernel
theorem dX2_copyFrom_31 : decode cX2_copyFrom 31 = .ok (.aload_n 1, 1) := by decide +kernel
theorem dX2_copyFrom_32 : decode cX2_copyFrom 32 = .ok (.getfield 15, 3) := by decide +kernel
theorem dX2_copyFrom_35 : decode cX2_copyFrom 35 = .ok (.iconst 0, 1) := by decide +kernel
theorem dX2_copyFrom_36 : decode cX2_copyFrom 36 = .ok (.aload_n 0, 1) := by decide +kernel
theorem dX2_copyFrom_37 : decode cX2_copyFrom 37 = .ok (.getfield 15, 3) := by decide +kernel
theorem dX2_copyFrom_40 : decode cX2_copyFrom 40 = .ok (.iconst 0, 1) := by decide +kernel
theorem dX2_copyFrom_41 : decode cX2_copyFrom 41 = .ok (.bipush 50, 2) := by decide +kernel
theorem dX2_copyFrom_43 : decode cX2_copyFrom 43 = .ok (.invokestatic 31, 3) := by decide +kernel
theorem dX2_copyFrom_46 : decode cX2_copyFrom 46 = .ok (.aload_n 1, 1) := by decide +kernel
theorem dX2_copyFrom_47 : decode cX2_copyFrom 47 = .ok (.getfield 18, 3) := by decide +kernel
theorem dX2_copyFrom_50 : decode cX2_copyFrom 50 = .ok (.iconst 0, 1) := by decide +kernel
theorem dX2_copyFrom_51 : decode cX2_copyFrom 51 = .ok (.aload_n 0, 1) := by decide +kernel
theorem dX2_copyFrom_52 : decode cX2_copyFrom 52 = .ok (.getfield 18, 3) := by decide +kernel
theorem dX2_copyFrom_55 : decode cX2_copyFrom 55 = .ok (.iconst 0, 1) := by decide +kernel
theorem dX2_copyFrom_56 : decode cX2_copyFrom 56 = .ok (.bipush 50, 2) := by decide +kernel
theorem dX2_copyFrom_58 : decode cX2_copyFrom 58 = .ok (.invokestatic 31, 3) := by decide +kernel
theorem dX2_copyFrom_61 : decode cX2_copyFrom 61 = .ok (.aload_n 1, 1) := by decide +kernel
theorem dX2_copyFrom_62 : decode cX2_copyFrom 62 = .ok (.getfield 21, 3) := by decide +kernel
theorem dX2_copyFrom_65 : decode cX2_copyFrom 65 = .ok (.iconst 0, 1) := by decide +kernel
theorem dX2_copyFrom_66 : decode cX2_copyFrom 66 = .ok (.aload_n 0, 1) := by decide +kernel
theorem dX2_copyFrom_67 : decode cX2_copyFrom 67 = .ok (.getfield 21, 3) := by decide +kernel
theorem dX2_copyFrom_70 : decode cX2_copyFrom 70 = .ok (.iconst 0, 1) := by decide +kernel
theorem dX2_copyFrom_71 : decode cX2_copyFrom 71 = .ok (.bipush 9, 2) := by decide +kernel
theorem dX2_copyFrom_73 : decode cX2_copyFrom 73 = .ok (.invokestatic 31, 3) := by decide +kernel
theorem dX2_copyFrom_76 : decode cX2_copyFrom 76 = .ok (.return_, 1) := by decide +kernel
theorem dX2_note_0 : decode cX2_note 0 = .ok (.aload_n 0, 1) := by decide +kernel
theorem dX2_note_1 : decode cX2_note 1 = .ok (.getfield 24, 3) := by decide +kernel
theorem dX2_note_4 : decode cX2_note 4 = .ok (.aload_n 0, 1) := by decide +kernel
theorem dX2_note_5 : decode cX2_note 5 = .ok (.getfield 28, 3) := by decide +kernel
theorem dX2_note_8 : decode cX2_note 8 = .ok (.iadd, 1) := by decide +kernel
theorem dX2_note_9 : decode cX2_note 9 = .ok (.bipush 50, 2) := by decide +kernel
theorem dX2_note_11 : decode cX2_note 11 = .ok (.irem, 1) := by decide +kernel
theorem dX2_note_12 : decode cX2_note 12 = .ok (.istore 4, 2) := by decide +kernel
theorem dX2_note_14 : decode cX2_note 14 = .ok (.aload_n 0, 1) := by decide +kernel
theorem dX2_note_15 : decode cX2_note 15 = .ok (.getfield 9, 3) := by decide +kernel
theorem dX2_note_18 : decode cX2_note 18 = .ok (.iload 4, 2) := by decide +kernel
theorem dX2_note_20 : decode cX2_note 20 = .ok (.iload_n 1, 1) := by decide +kernel
theorem dX2_note_21 : decode cX2_note 21 = .ok (.iastore, 1) := by decide +kernel
theorem dX2_note_22 : decode cX2_note 22 = .ok (.aload_n 0, 1) := by decide +kernel
theorem dX2_note_23 : decode cX2_note 23 = .ok (.getfield 15, 3) := by decide +kernel
theorem dX2_note_26 : decode cX2_note 26 = .ok (.iload 4, 2) := by decide +kernel
theorem dX2_note_28 : decode cX2_note 28 = .ok (.iload_n 2, 1) := by decide +kernel
theorem dX2_note_29 : decode cX2_note 29 = .ok (.iastore, 1) := by decide +kernel
theorem dX2_note_30 : decode cX2_note 30 = .ok (.aload_n 0, 1) := by decide +kernel
theorem dX2_note_31 : decode cX2_note 31 = .ok (.getfield 18, 3) := by decide +kernel
theorem dX2_note_34 : decode cX2_note 34 = .ok (.iload 4, 2) := by decide +kernel
theorem dX2_note_36 : decode cX2_note 36 = .ok (.iload_n 3, 1) := by decide +kernel
theorem dX2_note_37 : decode cX2_note 37 = .ok (.iastore, 1) := by decide +kernel
theorem dX2_note_38 : decode cX2_note 38 = .ok (.aload_n 0, 1) := by decide +kernel
theorem dX2_note_39 : decode cX2_note 39 = .ok (.getfield 21, 3) := by decide +kernel
theorem dX2_note_42 : decode cX2_note 42 = .ok (.iload_n 1, 1) := by decide +kernel
theorem dX2_note_43 : decode cX2_note 43 = .ok (.dup2, 1) := by decide +kernel
theorem dX2_note_44 : decode cX2_note 44 = .ok (.iaload, 1) := by decide +kernel
theorem dX2_note_45 : decode cX2_note 45 = .ok (.iconst 1, 1) := by decide +kernel
theorem dX2_note_46 : decode cX2_note 46 = .ok (.iadd, 1) := by decide +kernel
theorem dX2_note_47 : decode cX2_note 47 = .ok (.iastore, 1) := by decide +kernel
theorem dX2_note_48 : decode cX2_note 48 = .ok (.aload_n 0, 1) := by decide +kernel
theorem dX2_note_49 : decode cX2_note 49 = .ok (.getfield 28, 3) := by decide +kernel
theorem dX2_note_52 : decode cX2_note 52 = .ok (.bipush 50, 2) := by decide +kernel
theorem dX2_note_54 : decode cX2_note 54 = .ok (.if_icmp .ge 16, 3) := by decide +kernel
theorem dX2_note_57 : decode cX2_note 57 = .ok (.aload_n 0, 1) := by decide +kernel
theorem dX2_note_58 : decode cX2_note 58 = .ok (.dup, 1) := by decide +kernel
theorem dX2_note_59 : decode cX2_note 59 = .ok (.getfield 28, 3) := by decide +kernel
theorem dX2_note_62 : decode cX2_note 62 = .ok (.iconst 1, 1) := by decide +kernel
theorem dX2_note_63 : decode cX2_note 63 = .ok (.iadd, 1) := by decide +kernel
theorem dX2_note_64 : decode cX2_note 64 = .ok (.putfield 28, 3) := by decide +kernel
theorem dX2_note_67 : decode cX2_note 67 = .ok (.goto 16, 3) := by decide +kernel
theorem dX2_note_70 : decode cX2_note 70 = .ok (.aload_n 0, 1) := by decide +kernel
theorem dX2_note_71 : decode cX2_note 71 = .ok (.aload_n 0, 1) := by decide +kernel
theorem dX2_note_72 : decode cX2_note 72 = .ok (.getfield 24, 3) := by decide +kernel
theorem dX2_note_75 : decode cX2_note 75 = .ok (.iconst 1, 1) := by decide +kernel
theorem dX2_note_76 : decode cX2_note 76 = .ok (.iadd, 1) := by decide +kernel
theorem dX2_note_77 : decode cX2_note 77 = .ok (.bipush 50, 2) := by decide +kernel
theorem dX2_note_79 : decode cX2_note 79 = .ok (.irem, 1) := by decide +kernel
theorem dX2_note_80 : decode cX2_note 80 = .ok (.putfield 24, 3) := by decide +kernel
theorem dX2_note_83 : decode cX2_note 83 = .ok (.return_, 1) := by decide +kernel
theorem dX2_column_0 : decode cX2_column 0 = .ok (.aload_n 0, 1) := by decide +kernel
theorem dX2_column_1 : decode cX2_column 1 = .ok (.getfield 24, 3) := by decide +kernel
theorem dX2_column_4 : decode cX2_column 4 = .ok (.iload_n 1, 1) := by decide +kernel
theorem dX2_column_5 : decode cX2_column 5 = .ok (.iadd, 1) := by decide +kernel
theorem dX2_column_6 : decode cX2_column 6 = .ok (.bipush 50, 2) := by decide +kernel
theorem dX2_column_8 : decode cX2_column 8 = .ok (.irem, 1) := by decide +kernel
theorem dX2_column_9 : decode cX2_column 9 = .ok (.istore_n 3, 1) := by decide +kernel
theorem dX2_column_10 : decode cX2_column 10 = .ok (.iload_n 2, 1) := by decide +kernel
theorem dX2_column_11 : decode cX2_column 11 = .ok (.lookupswitch 39 #[(0, 25), (1, 32)], 25) := by decide +kernel
theorem dX2_column_36 : decode cX2_column 36 = .ok (.aload_n 0, 1) := by decide +kernel
theorem dX2_column_37 : decode cX2_column 37 = .ok (.getfield 9, 3) := by decide +kernel
theorem dX2_column_40 : decode cX2_column 40 = .ok (.iload_n 3, 1) := by decide +kernel
theorem dX2_column_41 : decode cX2_column 41 = .ok (.iaload, 1) := by decide +kernel
theorem dX2_column_42 : decode cX2_column 42 = .ok (.ireturn, 1) := by decide +kernel
theorem dX2_column_43 : decode cX2_column 43 = .ok (.aload_n 0, 1) := by decide +kernel
theorem dX2_column_44 : decode cX2_column 44 = .ok (.getfield 15, 3) := by decide +kernel
theorem dX2_column_47 : decode cX2_column 47 = .ok (.iload_n 3, 1) := by decide +kernel
theorem dX2_column_48 : decode cX2_column 48 = .ok (.iaload, 1) := by decide +kernel
theorem dX2_column_49 : decode cX2_column 49 = .ok (.ireturn, 1) := by decide +kernel
theorem dX2_column_50 : decode cX2_column 50 = .ok (.aload_n 0, 1) := by decide +kernel
theorem dX2_column_51 : decode cX2_column 51 = .ok (.getfield 18, 3) := by decide +kernel
theorem dX2_column_54 : decode cX2_column 54 = .ok (.iload_n 3, 1) := by decide +kernel
theorem dX2_column_55 : decode cX2_column 55 = .ok (.iaload, 1) := by decide +kernel
theorem dX2_column_56 : decode cX2_column 56 = .ok (.ireturn, 1) := by decide +kernel

theorem dL_reset_0 : decode cL_reset 0 = .ok (.aload_n 2, 1) := by decide +kernel
theorem dL_reset_1 : decode cL_reset 1 = .ok (.iconst 0, 1) := by decide +kernel
theorem dL_reset_2 : decode cL_reset 2 = .ok (.aload_n 0, 1) := by decide +kernel
theorem dL_reset_3 : decode cL_reset 3 = .ok (.iload_n 1, 1) := by decide +kernel
theorem dL_reset_4 : decode cL_reset 4 = .ok (.invokevirtual 7, 3) := by decide +kernel
theorem dL_reset_7 : decode cL_reset 7 = .ok (.i2l, 1) := by decide +kernel
theorem dL_reset_8 : decode cL_reset 8 = .ok (.lastore, 1) := by decide +kernel
theorem dL_reset_9 : decode cL_reset 9 = .ok (.goto 6, 3) := by decide +kernel
theorem dL_reset_12 : decode cL_reset 12 = .ok (.astore_n 3, 1) := by decide +kernel
theorem dL_reset_13 : decode cL_reset 13 = .ok (.iconst 1, 1) := by decide +kernel
theorem dL_reset_14 : decode cL_reset 14 = .ok (.ireturn, 1) := by decide +kernel
theorem dL_reset_15 : decode cL_reset 15 = .ok (.iconst 0, 1) := by decide +kernel
theorem dL_reset_16 : decode cL_reset 16 = .ok (.ireturn, 1) := by decide +kernel
theorem dL_begin_0 : decode cL_begin 0 = .ok (.aload_n 2, 1) := by decide +kernel
theorem dL_begin_1 : decode cL_begin 1 = .ok (.iconst 0, 1) := by decide +kernel
theorem dL_begin_2 : decode cL_begin 2 = .ok (.aload_n 0, 1) := by decide +kernel
theorem dL_begin_3 : decode cL_begin 3 = .ok (.iload_n 1, 1) := by decide +kernel
theorem dL_begin_4 : decode cL_begin 4 = .ok (.invokevirtual 15, 3) := by decide +kernel
theorem dL_begin_7 : decode cL_begin 7 = .ok (.i2l, 1) := by decide +kernel
theorem dL_begin_8 : decode cL_begin 8 = .ok (.lastore, 1) := by decide +kernel
theorem dL_begin_9 : decode cL_begin 9 = .ok (.goto 9, 3) := by decide +kernel
theorem dL_begin_12 : decode cL_begin 12 = .ok (.astore_n 3, 1) := by decide +kernel
theorem dL_begin_13 : decode cL_begin 13 = .ok (.iconst 1, 1) := by decide +kernel
theorem dL_begin_14 : decode cL_begin 14 = .ok (.ireturn, 1) := by decide +kernel
theorem dL_begin_15 : decode cL_begin 15 = .ok (.astore_n 3, 1) := by decide +kernel
theorem dL_begin_16 : decode cL_begin 16 = .ok (.iconst 2, 1) := by decide +kernel
theorem dL_begin_17 : decode cL_begin 17 = .ok (.ireturn, 1) := by decide +kernel
theorem dL_begin_18 : decode cL_begin 18 = .ok (.iconst 0, 1) := by decide +kernel
theorem dL_begin_19 : decode cL_begin 19 = .ok (.ireturn, 1) := by decide +kernel
theorem dL_read_0 : decode cL_read 0 = .ok (.aload_n 3, 1) := by decide +kernel
theorem dL_read_1 : decode cL_read 1 = .ok (.iconst 0, 1) := by decide +kernel
theorem dL_read_2 : decode cL_read 2 = .ok (.aload_n 0, 1) := by decide +kernel
theorem dL_read_3 : decode cL_read 3 = .ok (.iload_n 1, 1) := by decide +kernel
theorem dL_read_4 : decode cL_read 4 = .ok (.iload_n 2, 1) := by decide +kernel
theorem dL_read_5 : decode cL_read 5 = .ok (.invokevirtual 20, 3) := by decide +kernel
theorem dL_read_8 : decode cL_read 8 = .ok (.i2l, 1) := by decide +kernel
theorem dL_read_9 : decode cL_read 9 = .ok (.lastore, 1) := by decide +kernel
theorem dL_read_10 : decode cL_read 10 = .ok (.goto 15, 3) := by decide +kernel
theorem dL_read_13 : decode cL_read 13 = .ok (.astore 4, 2) := by decide +kernel
theorem dL_read_15 : decode cL_read 15 = .ok (.iconst 1, 1) := by decide +kernel
theorem dL_read_16 : decode cL_read 16 = .ok (.ireturn, 1) := by decide +kernel
theorem dL_read_17 : decode cL_read 17 = .ok (.astore 4, 2) := by decide +kernel
theorem dL_read_19 : decode cL_read 19 = .ok (.iconst 2, 1) := by decide +kernel
theorem dL_read_20 : decode cL_read 20 = .ok (.ireturn, 1) := by decide +kernel
theorem dL_read_21 : decode cL_read 21 = .ok (.astore 4, 2) := by decide +kernel
theorem dL_read_23 : decode cL_read 23 = .ok (.iconst 3, 1) := by decide +kernel
theorem dL_read_24 : decode cL_read 24 = .ok (.ireturn, 1) := by decide +kernel
theorem dL_read_25 : decode cL_read 25 = .ok (.iconst 0, 1) := by decide +kernel
theorem dL_read_26 : decode cL_read 26 = .ok (.ireturn, 1) := by decide +kernel
theorem dL_write_0 : decode cL_write 0 = .ok (.aload 4, 2) := by decide +kernel
theorem dL_write_2 : decode cL_write 2 = .ok (.iconst 0, 1) := by decide +kernel
theorem dL_write_3 : decode cL_write 3 = .ok (.aload_n 0, 1) := by decide +kernel
theorem dL_write_4 : decode cL_write 4 = .ok (.iload_n 1, 1) := by decide +kernel
theorem dL_write_5 : decode cL_write 5 = .ok (.iload_n 2, 1) := by decide +kernel
theorem dL_write_6 : decode cL_write 6 = .ok (.iload_n 3, 1) := by decide +kernel
theorem dL_write_7 : decode cL_write 7 = .ok (.invokevirtual 28, 3) := by decide +kernel
theorem dL_write_10 : decode cL_write 10 = .ok (.i2l, 1) := by decide +kernel
theorem dL_write_11 : decode cL_write 11 = .ok (.lastore, 1) := by decide +kernel
theorem dL_write_12 : decode cL_write 12 = .ok (.goto 15, 3) := by decide +kernel
theorem dL_write_15 : decode cL_write 15 = .ok (.astore 5, 2) := by decide +kernel
theorem dL_write_17 : decode cL_write 17 = .ok (.iconst 1, 1) := by decide +kernel
theorem dL_write_18 : decode cL_write 18 = .ok (.ireturn, 1) := by decide +kernel
theorem dL_write_19 : decode cL_write 19 = .ok (.astore 5, 2) := by decide +kernel
theorem dL_write_21 : decode cL_write 21 = .ok (.iconst 2, 1) := by decide +kernel
theorem dL_write_22 : decode cL_write 22 = .ok (.ireturn, 1) := by decide +kernel
theorem dL_write_23 : decode cL_write 23 = .ok (.astore 5, 2) := by decide +kernel
theorem dL_write_25 : decode cL_write 25 = .ok (.iconst 3, 1) := by decide +kernel
theorem dL_write_26 : decode cL_write 26 = .ok (.ireturn, 1) := by decide +kernel
theorem dL_write_27 : decode cL_write 27 = .ok (.iconst 0, 1) := by decide +kernel
theorem dL_write_28 : decode cL_write 28 = .ok (.ireturn, 1) := by decide +kernel
theorem dL_add_0 : decode cL_add 0 = .ok (.aload 4, 2) := by decide +kernel
theorem dL_add_2 : decode cL_add 2 = .ok (.iconst 0, 1) := by decide +kernel
theorem dL_add_3 : decode cL_add 3 = .ok (.aload_n 0, 1) := by decide +kernel
theorem dL_add_4 : decode cL_add 4 = .ok (.iload_n 1, 1) := by decide +kernel
theorem dL_add_5 : decode cL_add 5 = .ok (.iload_n 2, 1) := by decide +kernel
theorem dL_add_6 : decode cL_add 6 = .ok (.iload_n 3, 1) := by decide +kernel
theorem dL_add_7 : decode cL_add 7 = .ok (.invokevirtual 32, 3) := by decide +kernel
theorem dL_add_10 : decode cL_add 10 = .ok (.i2l, 1) := by decide +kernel
theorem dL_add_11 : decode cL_add 11 = .ok (.lastore, 1) := by decide +kernel
theorem dL_add_12 : decode cL_add 12 = .ok (.goto 15, 3) := by decide +kernel
theorem dL_add_15 : decode cL_add 15 = .ok (.astore 5, 2) := by decide +kernel
theorem dL_add_17 : decode cL_add 17 = .ok (.iconst 1, 1) := by decide +kernel
theorem dL_add_18 : decode cL_add 18 = .ok (.ireturn, 1) := by decide +kernel
theorem dL_add_19 : decode cL_add 19 = .ok (.astore 5, 2) := by decide +kernel
theorem dL_add_21 : decode cL_add 21 = .ok (.iconst 2, 1) := by decide +kernel
theorem dL_add_22 : decode cL_add 22 = .ok (.ireturn, 1) := by decide +kernel
theorem dL_add_23 : decode cL_add 23 = .ok (.astore 5, 2) := by decide +kernel
theorem dL_add_25 : decode cL_add 25 = .ok (.iconst 3, 1) := by decide +kernel
theorem dL_add_26 : decode cL_add 26 = .ok (.ireturn, 1) := by decide +kernel
theorem dL_add_27 : decode cL_add 27 = .ok (.iconst 0, 1) := by decide +kernel
theorem dL_add_28 : decode cL_add 28 = .ok (.ireturn, 1) := by decide +kernel
theorem dL_commit_0 : decode cL_commit 0 = .ok (.aload_n 2, 1) := by decide +kernel
theorem dL_commit_1 : decode cL_commit 1 = .ok (.iconst 0, 1) := by decide +kernel
theorem dL_commit_2 : decode cL_commit 2 = .ok (.aload_n 0, 1) := by decide +kernel
theorem dL_commit_3 : decode cL_commit 3 = .ok (.iload_n 1, 1) := by decide +kernel
theorem dL_commit_4 : decode cL_commit 4 = .ok (.invokevirtual 35, 3) := by decide +kernel
theorem dL_commit_7 : decode cL_commit 7 = .ok (.ifCond .eq 7, 3) := by decide +kernel
theorem dL_commit_10 : decode cL_commit 10 = .ok (.lconst 1, 1) := by decide +kernel
theorem dL_commit_11 : decode cL_commit 11 = .ok (.goto 4, 3) := by decide +kernel
theorem dL_commit_14 : decode cL_commit 14 = .ok (.lconst 0, 1) := by decide +kernel
theorem dL_commit_15 : decode cL_commit 15 = .ok (.lastore, 1) := by decide +kernel
theorem dL_commit_16 : decode cL_commit 16 = .ok (.goto 9, 3) := by decide +kernel
theorem dL_commit_19 : decode cL_commit 19 = .ok (.astore_n 3, 1) := by decide +kernel
theorem dL_commit_20 : decode cL_commit 20 = .ok (.iconst 1, 1) := by decide +kernel
theorem dL_commit_21 : decode cL_commit 21 = .ok (.ireturn, 1) := by decide +kernel
theorem dL_commit_22 : decode cL_commit 22 = .ok (.astore_n 3, 1) := by decide +kernel
theorem dL_commit_23 : decode cL_commit 23 = .ok (.iconst 2, 1) := by decide +kernel
theorem dL_commit_24 : decode cL_commit 24 = .ok (.ireturn, 1) := by decide +kernel
theorem dL_commit_25 : decode cL_commit 25 = .ok (.iconst 0, 1) := by decide +kernel
theorem dL_commit_26 : decode cL_commit 26 = .ok (.ireturn, 1) := by decide +kernel
theorem dL_abort_0 : decode cL_abort 0 = .ok (.aload_n 2, 1) := by decide +kernel
theorem dL_abort_1 : decode cL_abort 1 = .ok (.iconst 0, 1) := by decide +kernel
theorem dL_abort_2 : decode cL_abort 2 = .ok (.aload_n 0, 1) := by decide +kernel
theorem dL_abort_3 : decode cL_abort 3 = .ok (.iload_n 1, 1) := by decide +kernel
theorem dL_abort_4 : decode cL_abort 4 = .ok (.invokevirtual 39, 3) := by decide +kernel
theorem dL_abort_7 : decode cL_abort 7 = .ok (.i2l, 1) := by decide +kernel
theorem dL_abort_8 : decode cL_abort 8 = .ok (.lastore, 1) := by decide +kernel
theorem dL_abort_9 : decode cL_abort 9 = .ok (.goto 9, 3) := by decide +kernel
theorem dL_abort_12 : decode cL_abort 12 = .ok (.astore_n 3, 1) := by decide +kernel
theorem dL_abort_13 : decode cL_abort 13 = .ok (.iconst 1, 1) := by decide +kernel
theorem dL_abort_14 : decode cL_abort 14 = .ok (.ireturn, 1) := by decide +kernel
theorem dL_abort_15 : decode cL_abort 15 = .ok (.astore_n 3, 1) := by decide +kernel
theorem dL_abort_16 : decode cL_abort 16 = .ok (.iconst 2, 1) := by decide +kernel
theorem dL_abort_17 : decode cL_abort 17 = .ok (.ireturn, 1) := by decide +kernel
theorem dL_abort_18 : decode cL_abort 18 = .ok (.iconst 0, 1) := by decide +kernel
theorem dL_abort_19 : decode cL_abort 19 = .ok (.ireturn, 1) := by decide +kernel
theorem dL_restartNext_0 : decode cL_restartNext 0 = .ok (.aload_n 1, 1) := by decide +kernel
theorem dL_restartNext_1 : decode cL_restartNext 1 = .ok (.iconst 0, 1) := by decide +kernel
theorem dL_restartNext_2 : decode cL_restartNext 2 = .ok (.aload_n 0, 1) := by decide +kernel
theorem dL_restartNext_3 : decode cL_restartNext 3 = .ok (.invokevirtual 42, 3) := by decide +kernel
theorem dL_restartNext_6 : decode cL_restartNext 6 = .ok (.i2l, 1) := by decide +kernel
theorem dL_restartNext_7 : decode cL_restartNext 7 = .ok (.lastore, 1) := by decide +kernel
theorem dL_restartNext_8 : decode cL_restartNext 8 = .ok (.goto 6, 3) := by decide +kernel
theorem dL_restartNext_11 : decode cL_restartNext 11 = .ok (.astore_n 2, 1) := by decide +kernel
theorem dL_restartNext_12 : decode cL_restartNext 12 = .ok (.iconst 1, 1) := by decide +kernel
theorem dL_restartNext_13 : decode cL_restartNext 13 = .ok (.ireturn, 1) := by decide +kernel
theorem dL_restartNext_14 : decode cL_restartNext 14 = .ok (.iconst 0, 1) := by decide +kernel
theorem dL_restartNext_15 : decode cL_restartNext 15 = .ok (.ireturn, 1) := by decide +kernel
theorem dL_append_0 : decode cL_append 0 = .ok (.aload_n 2, 1) := by decide +kernel
theorem dL_append_1 : decode cL_append 1 = .ok (.iconst 0, 1) := by decide +kernel
theorem dL_append_2 : decode cL_append 2 = .ok (.aload_n 0, 1) := by decide +kernel
theorem dL_append_3 : decode cL_append 3 = .ok (.iload_n 1, 1) := by decide +kernel
theorem dL_append_4 : decode cL_append 4 = .ok (.invokevirtual 48, 3) := by decide +kernel
theorem dL_append_7 : decode cL_append 7 = .ok (.i2l, 1) := by decide +kernel
theorem dL_append_8 : decode cL_append 8 = .ok (.lastore, 1) := by decide +kernel
theorem dL_append_9 : decode cL_append 9 = .ok (.goto 9, 3) := by decide +kernel
theorem dL_append_12 : decode cL_append 12 = .ok (.astore_n 3, 1) := by decide +kernel
theorem dL_append_13 : decode cL_append 13 = .ok (.iconst 1, 1) := by decide +kernel
theorem dL_append_14 : decode cL_append 14 = .ok (.ireturn, 1) := by decide +kernel
theorem dL_append_15 : decode cL_append 15 = .ok (.astore_n 3, 1) := by decide +kernel
theorem dL_append_16 : decode cL_append 16 = .ok (.iconst 2, 1) := by decide +kernel
theorem dL_append_17 : decode cL_append 17 = .ok (.ireturn, 1) := by decide +kernel
theorem dL_append_18 : decode cL_append 18 = .ok (.iconst 0, 1) := by decide +kernel
theorem dL_append_19 : decode cL_append 19 = .ok (.ireturn, 1) := by decide +kernel
theorem dL_run_0 : decode cL_run 0 = .ok (.aload_n 2, 1) := by decide +kernel
theorem dL_run_1 : decode cL_run 1 = .ok (.iconst 0, 1) := by decide +kernel
theorem dL_run_2 : decode cL_run 2 = .ok (.aload_n 0, 1) := by decide +kernel
theorem dL_run_3 : decode cL_run 3 = .ok (.iload_n 1, 1) := by decide +kernel
theorem dL_run_4 : decode cL_run 4 = .ok (.invokevirtual 52, 3) := by decide +kernel
theorem dL_run_7 : decode cL_run 7 = .ok (.i2l, 1) := by decide +kernel
theorem dL_run_8 : decode cL_run 8 = .ok (.lastore, 1) := by decide +kernel
theorem dL_run_9 : decode cL_run 9 = .ok (.goto 15, 3) := by decide +kernel
theorem dL_run_12 : decode cL_run 12 = .ok (.astore_n 3, 1) := by decide +kernel
theorem dL_run_13 : decode cL_run 13 = .ok (.iconst 1, 1) := by decide +kernel
theorem dL_run_14 : decode cL_run 14 = .ok (.ireturn, 1) := by decide +kernel
theorem dL_run_15 : decode cL_run 15 = .ok (.astore_n 3, 1) := by decide +kernel
theorem dL_run_16 : decode cL_run 16 = .ok (.iconst 2, 1) := by decide +kernel
theorem dL_run_17 : decode cL_run 17 = .ok (.ireturn, 1) := by decide +kernel
theorem dL_run_18 : decode cL_run 18 = .ok (.astore_n 3, 1) := by decide +kernel
theorem dL_run_19 : decode cL_run 19 = .ok (.iconst 3, 1) := by decide +kernel
theorem dL_run_20 : decode cL_run 20 = .ok (.ireturn, 1) := by decide +kernel
theorem dL_run_21 : decode cL_run 21 = .ok (.astore_n 3, 1) := by decide +kernel
theorem dL_run_22 : decode cL_run 22 = .ok (.iconst 4, 1) := by decide +kernel
theorem dL_run_23 : decode cL_run 23 = .ok (.ireturn, 1) := by decide +kernel
theorem dL_run_24 : decode cL_run 24 = .ok (.iconst 0, 1) := by decide +kernel
theorem dL_run_25 : decode cL_run 25 = .ok (.ireturn, 1) := by decide +kernel
theorem dL_errorPosition_0 : decode cL_errorPosition 0 = .ok (.aload_n 1, 1) := by decide +kernel
theorem dL_errorPosition_1 : decode cL_errorPosition 1 = .ok (.iconst 0, 1) := by decide +kernel
theorem dL_errorPosition_2 : decode cL_errorPosition 2 = .ok (.aload_n 0, 1) := by decide +kernel
theorem dL_errorPosition_3 : decode cL_errorPosition 3 = .ok (.invokevirtual 55, 3) := by decide +kernel
theorem dL_errorPosition_6 : decode cL_errorPosition 6 = .ok (.i2l, 1) := by decide +kernel
theorem dL_errorPosition_7 : decode cL_errorPosition 7 = .ok (.lastore, 1) := by decide +kernel
theorem dL_errorPosition_8 : decode cL_errorPosition 8 = .ok (.goto 6, 3) := by decide +kernel
theorem dL_errorPosition_11 : decode cL_errorPosition 11 = .ok (.astore_n 2, 1) := by decide +kernel
theorem dL_errorPosition_12 : decode cL_errorPosition 12 = .ok (.iconst 1, 1) := by decide +kernel
theorem dL_errorPosition_13 : decode cL_errorPosition 13 = .ok (.ireturn, 1) := by decide +kernel
theorem dL_errorPosition_14 : decode cL_errorPosition 14 = .ok (.iconst 0, 1) := by decide +kernel
theorem dL_errorPosition_15 : decode cL_errorPosition 15 = .ok (.ireturn, 1) := by decide +kernel
theorem dL_transaction_0 : decode cL_transaction 0 = .ok (.aload_n 3, 1) := by decide +kernel
theorem dL_transaction_1 : decode cL_transaction 1 = .ok (.iconst 0, 1) := by decide +kernel
theorem dL_transaction_2 : decode cL_transaction 2 = .ok (.aload_n 0, 1) := by decide +kernel
theorem dL_transaction_3 : decode cL_transaction 3 = .ok (.iload_n 1, 1) := by decide +kernel
theorem dL_transaction_4 : decode cL_transaction 4 = .ok (.iload_n 2, 1) := by decide +kernel
theorem dL_transaction_5 : decode cL_transaction 5 = .ok (.invokevirtual 58, 3) := by decide +kernel
theorem dL_transaction_8 : decode cL_transaction 8 = .ok (.i2l, 1) := by decide +kernel
theorem dL_transaction_9 : decode cL_transaction 9 = .ok (.lastore, 1) := by decide +kernel
theorem dL_transaction_10 : decode cL_transaction 10 = .ok (.goto 11, 3) := by decide +kernel
theorem dL_transaction_13 : decode cL_transaction 13 = .ok (.astore 4, 2) := by decide +kernel
theorem dL_transaction_15 : decode cL_transaction 15 = .ok (.iconst 1, 1) := by decide +kernel
theorem dL_transaction_16 : decode cL_transaction 16 = .ok (.ireturn, 1) := by decide +kernel
theorem dL_transaction_17 : decode cL_transaction 17 = .ok (.astore 4, 2) := by decide +kernel
theorem dL_transaction_19 : decode cL_transaction 19 = .ok (.iconst 2, 1) := by decide +kernel
theorem dL_transaction_20 : decode cL_transaction 20 = .ok (.ireturn, 1) := by decide +kernel
theorem dL_transaction_21 : decode cL_transaction 21 = .ok (.iconst 0, 1) := by decide +kernel
theorem dL_transaction_22 : decode cL_transaction 22 = .ok (.ireturn, 1) := by decide +kernel
theorem dL_dependencies_0 : decode cL_dependencies 0 = .ok (.aload_n 2, 1) := by decide +kernel
theorem dL_dependencies_1 : decode cL_dependencies 1 = .ok (.iconst 0, 1) := by decide +kernel
theorem dL_dependencies_2 : decode cL_dependencies 2 = .ok (.aload_n 0, 1) := by decide +kernel
theorem dL_dependencies_3 : decode cL_dependencies 3 = .ok (.iload_n 1, 1) := by decide +kernel
theorem dL_dependencies_4 : decode cL_dependencies 4 = .ok (.invokevirtual 61, 3) := by decide +kernel
theorem dL_dependencies_7 : decode cL_dependencies 7 = .ok (.i2l, 1) := by decide +kernel
theorem dL_dependencies_8 : decode cL_dependencies 8 = .ok (.lastore, 1) := by decide +kernel
theorem dL_dependencies_9 : decode cL_dependencies 9 = .ok (.goto 6, 3) := by decide +kernel
theorem dL_dependencies_12 : decode cL_dependencies 12 = .ok (.astore_n 3, 1) := by decide +kernel
theorem dL_dependencies_13 : decode cL_dependencies 13 = .ok (.iconst 1, 1) := by decide +kernel
theorem dL_dependencies_14 : decode cL_dependencies 14 = .ok (.ireturn, 1) := by decide +kernel
theorem dL_dependencies_15 : decode cL_dependencies 15 = .ok (.iconst 0, 1) := by decide +kernel
theorem dL_dependencies_16 : decode cL_dependencies 16 = .ok (.ireturn, 1) := by decide +kernel
theorem dL_cascade_0 : decode cL_cascade 0 = .ok (.aload_n 2, 1) := by decide +kernel
theorem dL_cascade_1 : decode cL_cascade 1 = .ok (.iconst 0, 1) := by decide +kernel
theorem dL_cascade_2 : decode cL_cascade 2 = .ok (.aload_n 0, 1) := by decide +kernel
theorem dL_cascade_3 : decode cL_cascade 3 = .ok (.iload_n 1, 1) := by decide +kernel
theorem dL_cascade_4 : decode cL_cascade 4 = .ok (.invokevirtual 64, 3) := by decide +kernel
theorem dL_cascade_7 : decode cL_cascade 7 = .ok (.i2l, 1) := by decide +kernel
theorem dL_cascade_8 : decode cL_cascade 8 = .ok (.lastore, 1) := by decide +kernel
theorem dL_cascade_9 : decode cL_cascade 9 = .ok (.goto 6, 3) := by decide +kernel
theorem dL_cascade_12 : decode cL_cascade 12 = .ok (.astore_n 3, 1) := by decide +kernel
theorem dL_cascade_13 : decode cL_cascade 13 = .ok (.iconst 1, 1) := by decide +kernel
theorem dL_cascade_14 : decode cL_cascade 14 = .ok (.ireturn, 1) := by decide +kernel
theorem dL_cascade_15 : decode cL_cascade 15 = .ok (.iconst 0, 1) := by decide +kernel
theorem dL_cascade_16 : decode cL_cascade 16 = .ok (.ireturn, 1) := by decide +kernel
theorem dL_operation_0 : decode cL_operation 0 = .ok (.aload 4, 2) := by decide +kernel
theorem dL_operation_2 : decode cL_operation 2 = .ok (.iconst 0, 1) := by decide +kernel
theorem dL_operation_3 : decode cL_operation 3 = .ok (.aload_n 0, 1) := by decide +kernel
theorem dL_operation_4 : decode cL_operation 4 = .ok (.iload_n 1, 1) := by decide +kernel
theorem dL_operation_5 : decode cL_operation 5 = .ok (.iload_n 2, 1) := by decide +kernel
theorem dL_operation_6 : decode cL_operation 6 = .ok (.iload_n 3, 1) := by decide +kernel
theorem dL_operation_7 : decode cL_operation 7 = .ok (.invokevirtual 67, 3) := by decide +kernel
theorem dL_operation_10 : decode cL_operation 10 = .ok (.i2l, 1) := by decide +kernel
theorem dL_operation_11 : decode cL_operation 11 = .ok (.lastore, 1) := by decide +kernel
theorem dL_operation_12 : decode cL_operation 12 = .ok (.goto 11, 3) := by decide +kernel
theorem dL_operation_15 : decode cL_operation 15 = .ok (.astore 5, 2) := by decide +kernel
theorem dL_operation_17 : decode cL_operation 17 = .ok (.iconst 1, 1) := by decide +kernel
theorem dL_operation_18 : decode cL_operation 18 = .ok (.ireturn, 1) := by decide +kernel
theorem dL_operation_19 : decode cL_operation 19 = .ok (.astore 5, 2) := by decide +kernel
theorem dL_operation_21 : decode cL_operation 21 = .ok (.iconst 2, 1) := by decide +kernel
theorem dL_operation_22 : decode cL_operation 22 = .ok (.ireturn, 1) := by decide +kernel
theorem dL_operation_23 : decode cL_operation 23 = .ok (.iconst 0, 1) := by decide +kernel
theorem dL_operation_24 : decode cL_operation 24 = .ok (.ireturn, 1) := by decide +kernel
theorem dL_versionCount_0 : decode cL_versionCount 0 = .ok (.aload_n 2, 1) := by decide +kernel
theorem dL_versionCount_1 : decode cL_versionCount 1 = .ok (.iconst 0, 1) := by decide +kernel
theorem dL_versionCount_2 : decode cL_versionCount 2 = .ok (.aload_n 0, 1) := by decide +kernel
theorem dL_versionCount_3 : decode cL_versionCount 3 = .ok (.iload_n 1, 1) := by decide +kernel
theorem dL_versionCount_4 : decode cL_versionCount 4 = .ok (.invokevirtual 70, 3) := by decide +kernel
theorem dL_versionCount_7 : decode cL_versionCount 7 = .ok (.i2l, 1) := by decide +kernel
theorem dL_versionCount_8 : decode cL_versionCount 8 = .ok (.lastore, 1) := by decide +kernel
theorem dL_versionCount_9 : decode cL_versionCount 9 = .ok (.goto 6, 3) := by decide +kernel
theorem dL_versionCount_12 : decode cL_versionCount 12 = .ok (.astore_n 3, 1) := by decide +kernel
theorem dL_versionCount_13 : decode cL_versionCount 13 = .ok (.iconst 1, 1) := by decide +kernel
theorem dL_versionCount_14 : decode cL_versionCount 14 = .ok (.ireturn, 1) := by decide +kernel
theorem dL_versionCount_15 : decode cL_versionCount 15 = .ok (.iconst 0, 1) := by decide +kernel
theorem dL_versionCount_16 : decode cL_versionCount 16 = .ok (.ireturn, 1) := by decide +kernel
theorem dL_version_0 : decode cL_version 0 = .ok (.aload 4, 2) := by decide +kernel
theorem dL_version_2 : decode cL_version 2 = .ok (.iconst 0, 1) := by decide +kernel
theorem dL_version_3 : decode cL_version 3 = .ok (.aload_n 0, 1) := by decide +kernel
theorem dL_version_4 : decode cL_version 4 = .ok (.iload_n 1, 1) := by decide +kernel
theorem dL_version_5 : decode cL_version 5 = .ok (.iload_n 2, 1) := by decide +kernel
theorem dL_version_6 : decode cL_version 6 = .ok (.iload_n 3, 1) := by decide +kernel
theorem dL_version_7 : decode cL_version 7 = .ok (.invokevirtual 73, 3) := by decide +kernel
theorem dL_version_10 : decode cL_version 10 = .ok (.i2l, 1) := by decide +kernel
theorem dL_version_11 : decode cL_version 11 = .ok (.lastore, 1) := by decide +kernel
theorem dL_version_12 : decode cL_version 12 = .ok (.goto 11, 3) := by decide +kernel
theorem dL_version_15 : decode cL_version 15 = .ok (.astore 5, 2) := by decide +kernel
theorem dL_version_17 : decode cL_version 17 = .ok (.iconst 1, 1) := by decide +kernel
theorem dL_version_18 : decode cL_version 18 = .ok (.ireturn, 1) := by decide +kernel
theorem dL_version_19 : decode cL_version 19 = .ok (.astore 5, 2) := by decide +kernel
theorem dL_version_21 : decode cL_version 21 = .ok (.iconst 2, 1) := by decide +kernel
theorem dL_version_22 : decode cL_version 22 = .ok (.ireturn, 1) := by decide +kernel
theorem dL_version_23 : decode cL_version 23 = .ok (.iconst 0, 1) := by decide +kernel
theorem dL_version_24 : decode cL_version 24 = .ok (.ireturn, 1) := by decide +kernel
theorem dL_valueAt_0 : decode cL_valueAt 0 = .ok (.aload_n 3, 1) := by decide +kernel
theorem dL_valueAt_1 : decode cL_valueAt 1 = .ok (.iconst 0, 1) := by decide +kernel
theorem dL_valueAt_2 : decode cL_valueAt 2 = .ok (.aload_n 0, 1) := by decide +kernel
theorem dL_valueAt_3 : decode cL_valueAt 3 = .ok (.iload_n 1, 1) := by decide +kernel
theorem dL_valueAt_4 : decode cL_valueAt 4 = .ok (.iload_n 2, 1) := by decide +kernel
theorem dL_valueAt_5 : decode cL_valueAt 5 = .ok (.invokevirtual 76, 3) := by decide +kernel
theorem dL_valueAt_8 : decode cL_valueAt 8 = .ok (.i2l, 1) := by decide +kernel
theorem dL_valueAt_9 : decode cL_valueAt 9 = .ok (.lastore, 1) := by decide +kernel
theorem dL_valueAt_10 : decode cL_valueAt 10 = .ok (.goto 11, 3) := by decide +kernel
theorem dL_valueAt_13 : decode cL_valueAt 13 = .ok (.astore 4, 2) := by decide +kernel
theorem dL_valueAt_15 : decode cL_valueAt 15 = .ok (.iconst 1, 1) := by decide +kernel
theorem dL_valueAt_16 : decode cL_valueAt 16 = .ok (.ireturn, 1) := by decide +kernel
theorem dL_valueAt_17 : decode cL_valueAt 17 = .ok (.astore 4, 2) := by decide +kernel
theorem dL_valueAt_19 : decode cL_valueAt 19 = .ok (.iconst 2, 1) := by decide +kernel
theorem dL_valueAt_20 : decode cL_valueAt 20 = .ok (.ireturn, 1) := by decide +kernel
theorem dL_valueAt_21 : decode cL_valueAt 21 = .ok (.iconst 0, 1) := by decide +kernel
theorem dL_valueAt_22 : decode cL_valueAt 22 = .ok (.ireturn, 1) := by decide +kernel
theorem dL_event_0 : decode cL_event 0 = .ok (.aload_n 3, 1) := by decide +kernel
theorem dL_event_1 : decode cL_event 1 = .ok (.iconst 0, 1) := by decide +kernel
theorem dL_event_2 : decode cL_event 2 = .ok (.aload_n 0, 1) := by decide +kernel
theorem dL_event_3 : decode cL_event 3 = .ok (.iload_n 1, 1) := by decide +kernel
theorem dL_event_4 : decode cL_event 4 = .ok (.iload_n 2, 1) := by decide +kernel
theorem dL_event_5 : decode cL_event 5 = .ok (.invokevirtual 79, 3) := by decide +kernel
theorem dL_event_8 : decode cL_event 8 = .ok (.i2l, 1) := by decide +kernel
theorem dL_event_9 : decode cL_event 9 = .ok (.lastore, 1) := by decide +kernel
theorem dL_event_10 : decode cL_event 10 = .ok (.goto 7, 3) := by decide +kernel
theorem dL_event_13 : decode cL_event 13 = .ok (.astore 4, 2) := by decide +kernel
theorem dL_event_15 : decode cL_event 15 = .ok (.iconst 1, 1) := by decide +kernel
theorem dL_event_16 : decode cL_event 16 = .ok (.ireturn, 1) := by decide +kernel
theorem dL_event_17 : decode cL_event 17 = .ok (.iconst 0, 1) := by decide +kernel
theorem dL_event_18 : decode cL_event 18 = .ok (.ireturn, 1) := by decide +kernel
theorem dL_total_0 : decode cL_total 0 = .ok (.aload_n 2, 1) := by decide +kernel
theorem dL_total_1 : decode cL_total 1 = .ok (.iconst 0, 1) := by decide +kernel
theorem dL_total_2 : decode cL_total 2 = .ok (.aload_n 0, 1) := by decide +kernel
theorem dL_total_3 : decode cL_total 3 = .ok (.iload_n 1, 1) := by decide +kernel
theorem dL_total_4 : decode cL_total 4 = .ok (.invokevirtual 82, 3) := by decide +kernel
theorem dL_total_7 : decode cL_total 7 = .ok (.i2l, 1) := by decide +kernel
theorem dL_total_8 : decode cL_total 8 = .ok (.lastore, 1) := by decide +kernel
theorem dL_total_9 : decode cL_total 9 = .ok (.goto 6, 3) := by decide +kernel
theorem dL_total_12 : decode cL_total 12 = .ok (.astore_n 3, 1) := by decide +kernel
theorem dL_total_13 : decode cL_total 13 = .ok (.iconst 1, 1) := by decide +kernel
theorem dL_total_14 : decode cL_total 14 = .ok (.ireturn, 1) := by decide +kernel
theorem dL_total_15 : decode cL_total 15 = .ok (.iconst 0, 1) := by decide +kernel
theorem dL_total_16 : decode cL_total 16 = .ok (.ireturn, 1) := by decide +kernel
theorem dL_abortShare_0 : decode cL_abortShare 0 = .ok (.aload_n 1, 1) := by decide +kernel
theorem dL_abortShare_1 : decode cL_abortShare 1 = .ok (.iconst 0, 1) := by decide +kernel
theorem dL_abortShare_2 : decode cL_abortShare 2 = .ok (.aload_n 0, 1) := by decide +kernel
theorem dL_abortShare_3 : decode cL_abortShare 3 = .ok (.invokevirtual 85, 3) := by decide +kernel
theorem dL_abortShare_6 : decode cL_abortShare 6 = .ok (.dastore, 1) := by decide +kernel
theorem dL_abortShare_7 : decode cL_abortShare 7 = .ok (.goto 6, 3) := by decide +kernel
theorem dL_abortShare_10 : decode cL_abortShare 10 = .ok (.astore_n 2, 1) := by decide +kernel
theorem dL_abortShare_11 : decode cL_abortShare 11 = .ok (.iconst 1, 1) := by decide +kernel
theorem dL_abortShare_12 : decode cL_abortShare 12 = .ok (.ireturn, 1) := by decide +kernel
theorem dL_abortShare_13 : decode cL_abortShare 13 = .ok (.iconst 0, 1) := by decide +kernel
theorem dL_abortShare_14 : decode cL_abortShare 14 = .ok (.ireturn, 1) := by decide +kernel
theorem dL_allocate_0 : decode cL_allocate 0 = .ok (.aload_n 0, 1) := by decide +kernel
theorem dL_allocate_1 : decode cL_allocate 1 = .ok (.iload_n 1, 1) := by decide +kernel
theorem dL_allocate_2 : decode cL_allocate 2 = .ok (.iload_n 2, 1) := by decide +kernel
theorem dL_allocate_3 : decode cL_allocate 3 = .ok (.iload_n 3, 1) := by decide +kernel
theorem dL_allocate_4 : decode cL_allocate 4 = .ok (.invokevirtual 91, 3) := by decide +kernel
theorem dL_allocate_7 : decode cL_allocate 7 = .ok (.goto 11, 3) := by decide +kernel
theorem dL_allocate_10 : decode cL_allocate 10 = .ok (.astore 4, 2) := by decide +kernel
theorem dL_allocate_12 : decode cL_allocate 12 = .ok (.iconst 1, 1) := by decide +kernel
theorem dL_allocate_13 : decode cL_allocate 13 = .ok (.ireturn, 1) := by decide +kernel
theorem dL_allocate_14 : decode cL_allocate 14 = .ok (.astore 4, 2) := by decide +kernel
theorem dL_allocate_16 : decode cL_allocate 16 = .ok (.iconst 2, 1) := by decide +kernel
theorem dL_allocate_17 : decode cL_allocate 17 = .ok (.ireturn, 1) := by decide +kernel
theorem dL_allocate_18 : decode cL_allocate 18 = .ok (.iconst 0, 1) := by decide +kernel
theorem dL_allocate_19 : decode cL_allocate 19 = .ok (.ireturn, 1) := by decide +kernel
theorem dL_export_0 : decode cL_export 0 = .ok (.aload_n 3, 1) := by decide +kernel
theorem dL_export_1 : decode cL_export 1 = .ok (.iconst 0, 1) := by decide +kernel
theorem dL_export_2 : decode cL_export 2 = .ok (.aload_n 0, 1) := by decide +kernel
theorem dL_export_3 : decode cL_export 3 = .ok (.iload_n 1, 1) := by decide +kernel
theorem dL_export_4 : decode cL_export 4 = .ok (.iload_n 2, 1) := by decide +kernel
theorem dL_export_5 : decode cL_export 5 = .ok (.invokevirtual 95, 3) := by decide +kernel
theorem dL_export_8 : decode cL_export 8 = .ok (.i2l, 1) := by decide +kernel
theorem dL_export_9 : decode cL_export 9 = .ok (.lastore, 1) := by decide +kernel
theorem dL_export_10 : decode cL_export 10 = .ok (.goto 11, 3) := by decide +kernel
theorem dL_export_13 : decode cL_export 13 = .ok (.astore 4, 2) := by decide +kernel
theorem dL_export_15 : decode cL_export 15 = .ok (.iconst 1, 1) := by decide +kernel
theorem dL_export_16 : decode cL_export 16 = .ok (.ireturn, 1) := by decide +kernel
theorem dL_export_17 : decode cL_export 17 = .ok (.astore 4, 2) := by decide +kernel
theorem dL_export_19 : decode cL_export 19 = .ok (.iconst 2, 1) := by decide +kernel
theorem dL_export_20 : decode cL_export 20 = .ok (.ireturn, 1) := by decide +kernel
theorem dL_export_21 : decode cL_export 21 = .ok (.iconst 0, 1) := by decide +kernel
theorem dL_export_22 : decode cL_export 22 = .ok (.ireturn, 1) := by decide +kernel
theorem dL_divide_0 : decode cL_divide 0 = .ok (.aload 4, 2) := by decide +kernel
theorem dL_divide_2 : decode cL_divide 2 = .ok (.iconst 0, 1) := by decide +kernel
theorem dL_divide_3 : decode cL_divide 3 = .ok (.aload_n 0, 1) := by decide +kernel
theorem dL_divide_4 : decode cL_divide 4 = .ok (.iload_n 1, 1) := by decide +kernel
theorem dL_divide_5 : decode cL_divide 5 = .ok (.iload_n 2, 1) := by decide +kernel
theorem dL_divide_6 : decode cL_divide 6 = .ok (.iload_n 3, 1) := by decide +kernel
theorem dL_divide_7 : decode cL_divide 7 = .ok (.invokevirtual 98, 3) := by decide +kernel
theorem dL_divide_10 : decode cL_divide 10 = .ok (.f2d, 1) := by decide +kernel
theorem dL_divide_11 : decode cL_divide 11 = .ok (.dastore, 1) := by decide +kernel
theorem dL_divide_12 : decode cL_divide 12 = .ok (.goto 19, 3) := by decide +kernel
theorem dL_divide_15 : decode cL_divide 15 = .ok (.astore 5, 2) := by decide +kernel
theorem dL_divide_17 : decode cL_divide 17 = .ok (.iconst 1, 1) := by decide +kernel
theorem dL_divide_18 : decode cL_divide 18 = .ok (.ireturn, 1) := by decide +kernel
theorem dL_divide_19 : decode cL_divide 19 = .ok (.astore 5, 2) := by decide +kernel
theorem dL_divide_21 : decode cL_divide 21 = .ok (.iconst 2, 1) := by decide +kernel
theorem dL_divide_22 : decode cL_divide 22 = .ok (.ireturn, 1) := by decide +kernel
theorem dL_divide_23 : decode cL_divide 23 = .ok (.astore 5, 2) := by decide +kernel
theorem dL_divide_25 : decode cL_divide 25 = .ok (.iconst 3, 1) := by decide +kernel
theorem dL_divide_26 : decode cL_divide 26 = .ok (.ireturn, 1) := by decide +kernel
theorem dL_divide_27 : decode cL_divide 27 = .ok (.astore 5, 2) := by decide +kernel
theorem dL_divide_29 : decode cL_divide 29 = .ok (.iconst 4, 1) := by decide +kernel
theorem dL_divide_30 : decode cL_divide 30 = .ok (.ireturn, 1) := by decide +kernel
theorem dL_divide_31 : decode cL_divide 31 = .ok (.iconst 0, 1) := by decide +kernel
theorem dL_divide_32 : decode cL_divide 32 = .ok (.ireturn, 1) := by decide +kernel
theorem dL_cloneRow_0 : decode cL_cloneRow 0 = .ok (.aload_n 3, 1) := by decide +kernel
theorem dL_cloneRow_1 : decode cL_cloneRow 1 = .ok (.iconst 0, 1) := by decide +kernel
theorem dL_cloneRow_2 : decode cL_cloneRow 2 = .ok (.aload_n 0, 1) := by decide +kernel
theorem dL_cloneRow_3 : decode cL_cloneRow 3 = .ok (.iload_n 1, 1) := by decide +kernel
theorem dL_cloneRow_4 : decode cL_cloneRow 4 = .ok (.iload_n 2, 1) := by decide +kernel
theorem dL_cloneRow_5 : decode cL_cloneRow 5 = .ok (.invokevirtual 102, 3) := by decide +kernel
theorem dL_cloneRow_8 : decode cL_cloneRow 8 = .ok (.i2l, 1) := by decide +kernel
theorem dL_cloneRow_9 : decode cL_cloneRow 9 = .ok (.lastore, 1) := by decide +kernel
theorem dL_cloneRow_10 : decode cL_cloneRow 10 = .ok (.goto 11, 3) := by decide +kernel
theorem dL_cloneRow_13 : decode cL_cloneRow 13 = .ok (.astore 4, 2) := by decide +kernel
theorem dL_cloneRow_15 : decode cL_cloneRow 15 = .ok (.iconst 1, 1) := by decide +kernel
theorem dL_cloneRow_16 : decode cL_cloneRow 16 = .ok (.ireturn, 1) := by decide +kernel
theorem dL_cloneRow_17 : decode cL_cloneRow 17 = .ok (.astore 4, 2) := by decide +kernel
theorem dL_cloneRow_19 : decode cL_cloneRow 19 = .ok (.iconst 2, 1) := by decide +kernel
theorem dL_cloneRow_20 : decode cL_cloneRow 20 = .ok (.ireturn, 1) := by decide +kernel
theorem dL_cloneRow_21 : decode cL_cloneRow 21 = .ok (.iconst 0, 1) := by decide +kernel
theorem dL_cloneRow_22 : decode cL_cloneRow 22 = .ok (.ireturn, 1) := by decide +kernel
theorem dL_copyRow_0 : decode cL_copyRow 0 = .ok (.aload_n 3, 1) := by decide +kernel
theorem dL_copyRow_1 : decode cL_copyRow 1 = .ok (.iconst 0, 1) := by decide +kernel
theorem dL_copyRow_2 : decode cL_copyRow 2 = .ok (.aload_n 0, 1) := by decide +kernel
theorem dL_copyRow_3 : decode cL_copyRow 3 = .ok (.iload_n 1, 1) := by decide +kernel
theorem dL_copyRow_4 : decode cL_copyRow 4 = .ok (.iload_n 2, 1) := by decide +kernel
theorem dL_copyRow_5 : decode cL_copyRow 5 = .ok (.invokevirtual 105, 3) := by decide +kernel
theorem dL_copyRow_8 : decode cL_copyRow 8 = .ok (.i2l, 1) := by decide +kernel
theorem dL_copyRow_9 : decode cL_copyRow 9 = .ok (.lastore, 1) := by decide +kernel
theorem dL_copyRow_10 : decode cL_copyRow 10 = .ok (.goto 19, 3) := by decide +kernel
theorem dL_copyRow_13 : decode cL_copyRow 13 = .ok (.astore 4, 2) := by decide +kernel
theorem dL_copyRow_15 : decode cL_copyRow 15 = .ok (.iconst 1, 1) := by decide +kernel
theorem dL_copyRow_16 : decode cL_copyRow 16 = .ok (.ireturn, 1) := by decide +kernel
theorem dL_copyRow_17 : decode cL_copyRow 17 = .ok (.astore 4, 2) := by decide +kernel
theorem dL_copyRow_19 : decode cL_copyRow 19 = .ok (.iconst 2, 1) := by decide +kernel
theorem dL_copyRow_20 : decode cL_copyRow 20 = .ok (.ireturn, 1) := by decide +kernel
theorem dL_copyRow_21 : decode cL_copyRow 21 = .ok (.astore 4, 2) := by decide +kernel
theorem dL_copyRow_23 : decode cL_copyRow 23 = .ok (.iconst 3, 1) := by decide +kernel
theorem dL_copyRow_24 : decode cL_copyRow 24 = .ok (.ireturn, 1) := by decide +kernel
theorem dL_copyRow_25 : decode cL_copyRow 25 = .ok (.astore 4, 2) := by decide +kernel
theorem dL_copyRow_27 : decode cL_copyRow 27 = .ok (.iconst 4, 1) := by decide +kernel
theorem dL_copyRow_28 : decode cL_copyRow 28 = .ok (.ireturn, 1) := by decide +kernel
theorem dL_copyRow_29 : decode cL_copyRow 29 = .ok (.iconst 0, 1) := by decide +kernel
theorem dL_copyRow_30 : decode cL_copyRow 30 = .ok (.ireturn, 1) := by decide +kernel
theorem dL_restore_0 : decode cL_restore 0 = .ok (.aload_n 1, 1) := by decide +kernel
theorem dL_restore_1 : decode cL_restore 1 = .ok (.iconst 0, 1) := by decide +kernel
theorem dL_restore_2 : decode cL_restore 2 = .ok (.aload_n 0, 1) := by decide +kernel
theorem dL_restore_3 : decode cL_restore 3 = .ok (.invokevirtual 108, 3) := by decide +kernel
theorem dL_restore_6 : decode cL_restore 6 = .ok (.i2l, 1) := by decide +kernel
theorem dL_restore_7 : decode cL_restore 7 = .ok (.lastore, 1) := by decide +kernel
theorem dL_restore_8 : decode cL_restore 8 = .ok (.goto 6, 3) := by decide +kernel
theorem dL_restore_11 : decode cL_restore 11 = .ok (.astore_n 2, 1) := by decide +kernel
theorem dL_restore_12 : decode cL_restore 12 = .ok (.iconst 1, 1) := by decide +kernel
theorem dL_restore_13 : decode cL_restore 13 = .ok (.ireturn, 1) := by decide +kernel
theorem dL_restore_14 : decode cL_restore 14 = .ok (.iconst 0, 1) := by decide +kernel
theorem dL_restore_15 : decode cL_restore 15 = .ok (.ireturn, 1) := by decide +kernel

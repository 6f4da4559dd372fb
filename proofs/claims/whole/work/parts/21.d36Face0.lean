theorem dX6_requireArgument_0 : decode cX6_requireArgument 0 = .ok (.iload_n 0, 1) := by decide +kernel
theorem dX6_requireArgument_1 : decode cX6_requireArgument 1 = .ok (.ifCond .ne 13, 3) := by decide +kernel
theorem dX6_requireArgument_4 : decode cX6_requireArgument 4 = .ok (.new 244, 3) := by decide +kernel
theorem dX6_requireArgument_7 : decode cX6_requireArgument 7 = .ok (.dup, 1) := by decide +kernel
theorem dX6_requireArgument_8 : decode cX6_requireArgument 8 = .ok (.ldc 246, 2) := by decide +kernel
theorem dX6_requireArgument_10 : decode cX6_requireArgument 10 = .ok (.invokespecial 248, 3) := by decide +kernel
theorem dX6_requireArgument_13 : decode cX6_requireArgument 13 = .ok (.athrow, 1) := by decide +kernel
theorem dX6_requireArgument_14 : decode cX6_requireArgument 14 = .ok (.return_, 1) := by decide +kernel
theorem dX6_reset_0 : decode cX6_reset 0 = .ok (.iload_n 1, 1) := by decide +kernel
theorem dX6_reset_1 : decode cX6_reset 1 = .ok (.ifCond .lt 12, 3) := by decide +kernel
theorem dX6_reset_4 : decode cX6_reset 4 = .ok (.iload_n 1, 1) := by decide +kernel
theorem dX6_reset_5 : decode cX6_reset 5 = .ok (.iconst 2, 1) := by decide +kernel
theorem dX6_reset_6 : decode cX6_reset 6 = .ok (.if_icmp .gt 7, 3) := by decide +kernel
theorem dX6_reset_9 : decode cX6_reset 9 = .ok (.iconst 1, 1) := by decide +kernel
theorem dX6_reset_10 : decode cX6_reset 10 = .ok (.goto 4, 3) := by decide +kernel
theorem dX6_reset_13 : decode cX6_reset 13 = .ok (.iconst 0, 1) := by decide +kernel
theorem dX6_reset_14 : decode cX6_reset 14 = .ok (.invokestatic 43, 3) := by decide +kernel
theorem dX6_reset_17 : decode cX6_reset 17 = .ok (.aload_n 0, 1) := by decide +kernel
theorem dX6_reset_18 : decode cX6_reset 18 = .ok (.getfield 12, 3) := by decide +kernel
theorem dX6_reset_21 : decode cX6_reset 21 = .ok (.getfield 47, 3) := by decide +kernel
theorem dX6_reset_24 : decode cX6_reset 24 = .ok (.istore_n 2, 1) := by decide +kernel
theorem dX6_reset_25 : decode cX6_reset 25 = .ok (.aload_n 0, 1) := by decide +kernel
theorem dX6_reset_26 : decode cX6_reset 26 = .ok (.getfield 12, 3) := by decide +kernel
theorem dX6_reset_29 : decode cX6_reset 29 = .ok (.iload_n 1, 1) := by decide +kernel
theorem dX6_reset_30 : decode cX6_reset 30 = .ok (.invokevirtual 50, 3) := by decide +kernel
theorem dX6_reset_33 : decode cX6_reset 33 = .ok (.iload_n 2, 1) := by decide +kernel
theorem dX6_reset_34 : decode cX6_reset 34 = .ok (.ireturn, 1) := by decide +kernel
theorem dX6_requireState_0 : decode cX6_requireState 0 = .ok (.iload_n 0, 1) := by decide +kernel
theorem dX6_requireState_1 : decode cX6_requireState 1 = .ok (.ifCond .ne 13, 3) := by decide +kernel
theorem dX6_requireState_4 : decode cX6_requireState 4 = .ok (.new 249, 3) := by decide +kernel
theorem dX6_requireState_7 : decode cX6_requireState 7 = .ok (.dup, 1) := by decide +kernel
theorem dX6_requireState_8 : decode cX6_requireState 8 = .ok (.ldc 251, 2) := by decide +kernel
theorem dX6_requireState_10 : decode cX6_requireState 10 = .ok (.invokespecial 253, 3) := by decide +kernel
theorem dX6_requireState_13 : decode cX6_requireState 13 = .ok (.athrow, 1) := by decide +kernel
theorem dX6_requireState_14 : decode cX6_requireState 14 = .ok (.return_, 1) := by decide +kernel
theorem dX6_begin_0 : decode cX6_begin 0 = .ok (.iload_n 1, 1) := by decide +kernel
theorem dX6_begin_1 : decode cX6_begin 1 = .ok (.ifCond .lt 13, 3) := by decide +kernel
theorem dX6_begin_4 : decode cX6_begin 4 = .ok (.iload_n 1, 1) := by decide +kernel
theorem dX6_begin_5 : decode cX6_begin 5 = .ok (.bipush 9, 2) := by decide +kernel
theorem dX6_begin_7 : decode cX6_begin 7 = .ok (.if_icmp .gt 7, 3) := by decide +kernel
theorem dX6_begin_10 : decode cX6_begin 10 = .ok (.iconst 1, 1) := by decide +kernel
theorem dX6_begin_11 : decode cX6_begin 11 = .ok (.goto 4, 3) := by decide +kernel
theorem dX6_begin_14 : decode cX6_begin 14 = .ok (.iconst 0, 1) := by decide +kernel
theorem dX6_begin_15 : decode cX6_begin 15 = .ok (.invokestatic 43, 3) := by decide +kernel
theorem dX6_begin_18 : decode cX6_begin 18 = .ok (.aload_n 0, 1) := by decide +kernel
theorem dX6_begin_19 : decode cX6_begin 19 = .ok (.getfield 12, 3) := by decide +kernel
theorem dX6_begin_22 : decode cX6_begin 22 = .ok (.getfield 54, 3) := by decide +kernel
theorem dX6_begin_25 : decode cX6_begin 25 = .ok (.bipush 16, 2) := by decide +kernel
theorem dX6_begin_27 : decode cX6_begin 27 = .ok (.if_icmp .ge 7, 3) := by decide +kernel
theorem dX6_begin_30 : decode cX6_begin 30 = .ok (.iconst 1, 1) := by decide +kernel
theorem dX6_begin_31 : decode cX6_begin 31 = .ok (.goto 4, 3) := by decide +kernel
theorem dX6_begin_34 : decode cX6_begin 34 = .ok (.iconst 0, 1) := by decide +kernel
theorem dX6_begin_35 : decode cX6_begin 35 = .ok (.invokestatic 57, 3) := by decide +kernel
theorem dX6_begin_38 : decode cX6_begin 38 = .ok (.aload_n 0, 1) := by decide +kernel
theorem dX6_begin_39 : decode cX6_begin 39 = .ok (.getfield 12, 3) := by decide +kernel
theorem dX6_begin_42 : decode cX6_begin 42 = .ok (.iload_n 1, 1) := by decide +kernel
theorem dX6_begin_43 : decode cX6_begin 43 = .ok (.invokevirtual 60, 3) := by decide +kernel
theorem dX6_begin_46 : decode cX6_begin 46 = .ok (.ireturn, 1) := by decide +kernel
theorem dX6_isTransaction_0 : decode cX6_isTransaction 0 = .ok (.iload_n 1, 1) := by decide +kernel
theorem dX6_isTransaction_1 : decode cX6_isTransaction 1 = .ok (.ifCond .lt 18, 3) := by decide +kernel
theorem dX6_isTransaction_4 : decode cX6_isTransaction 4 = .ok (.iload_n 1, 1) := by decide +kernel
theorem dX6_isTransaction_5 : decode cX6_isTransaction 5 = .ok (.aload_n 0, 1) := by decide +kernel
theorem dX6_isTransaction_6 : decode cX6_isTransaction 6 = .ok (.getfield 12, 3) := by decide +kernel
theorem dX6_isTransaction_9 : decode cX6_isTransaction 9 = .ok (.getfield 54, 3) := by decide +kernel
theorem dX6_isTransaction_12 : decode cX6_isTransaction 12 = .ok (.if_icmp .ge 7, 3) := by decide +kernel
theorem dX6_isTransaction_15 : decode cX6_isTransaction 15 = .ok (.iconst 1, 1) := by decide +kernel
theorem dX6_isTransaction_16 : decode cX6_isTransaction 16 = .ok (.goto 4, 3) := by decide +kernel
theorem dX6_isTransaction_19 : decode cX6_isTransaction 19 = .ok (.iconst 0, 1) := by decide +kernel
theorem dX6_isTransaction_20 : decode cX6_isTransaction 20 = .ok (.ireturn, 1) := by decide +kernel
theorem dX6_isItem_0 : decode cX6_isItem 0 = .ok (.iload_n 0, 1) := by decide +kernel
theorem dX6_isItem_1 : decode cX6_isItem 1 = .ok (.ifCond .lt 13, 3) := by decide +kernel
theorem dX6_isItem_4 : decode cX6_isItem 4 = .ok (.iload_n 0, 1) := by decide +kernel
theorem dX6_isItem_5 : decode cX6_isItem 5 = .ok (.bipush 8, 2) := by decide +kernel
theorem dX6_isItem_7 : decode cX6_isItem 7 = .ok (.if_icmp .ge 7, 3) := by decide +kernel
theorem dX6_isItem_10 : decode cX6_isItem 10 = .ok (.iconst 1, 1) := by decide +kernel
theorem dX6_isItem_11 : decode cX6_isItem 11 = .ok (.goto 4, 3) := by decide +kernel
theorem dX6_isItem_14 : decode cX6_isItem 14 = .ok (.iconst 0, 1) := by decide +kernel
theorem dX6_isItem_15 : decode cX6_isItem 15 = .ok (.ireturn, 1) := by decide +kernel
theorem dX6_requireIndex_0 : decode cX6_requireIndex 0 = .ok (.iload_n 0, 1) := by decide +kernel
theorem dX6_requireIndex_1 : decode cX6_requireIndex 1 = .ok (.ifCond .ne 13, 3) := by decide +kernel
theorem dX6_requireIndex_4 : decode cX6_requireIndex 4 = .ok (.new 239, 3) := by decide +kernel
theorem dX6_requireIndex_7 : decode cX6_requireIndex 7 = .ok (.dup, 1) := by decide +kernel
theorem dX6_requireIndex_8 : decode cX6_requireIndex 8 = .ok (.ldc 241, 2) := by decide +kernel
theorem dX6_requireIndex_10 : decode cX6_requireIndex 10 = .ok (.invokespecial 243, 3) := by decide +kernel
theorem dX6_requireIndex_13 : decode cX6_requireIndex 13 = .ok (.athrow, 1) := by decide +kernel
theorem dX6_requireIndex_14 : decode cX6_requireIndex 14 = .ok (.return_, 1) := by decide +kernel
theorem dX6_requireActiveWithRoom_0 : decode cX6_requireActiveWithRoom 0 = .ok (.aload_n 0, 1) := by decide +kernel
theorem dX6_requireActiveWithRoom_1 : decode cX6_requireActiveWithRoom 1 = .ok (.getfield 12, 3) := by decide +kernel
theorem dX6_requireActiveWithRoom_4 : decode cX6_requireActiveWithRoom 4 = .ok (.getfield 82, 3) := by decide +kernel
theorem dX6_requireActiveWithRoom_7 : decode cX6_requireActiveWithRoom 7 = .ok (.iload_n 1, 1) := by decide +kernel
theorem dX6_requireActiveWithRoom_8 : decode cX6_requireActiveWithRoom 8 = .ok (.aaload, 1) := by decide +kernel
theorem dX6_requireActiveWithRoom_9 : decode cX6_requireActiveWithRoom 9 = .ok (.getfield 86, 3) := by decide +kernel
theorem dX6_requireActiveWithRoom_12 : decode cX6_requireActiveWithRoom 12 = .ok (.ifCond .ne 7, 3) := by decide +kernel
theorem dX6_requireActiveWithRoom_15 : decode cX6_requireActiveWithRoom 15 = .ok (.iconst 1, 1) := by decide +kernel
theorem dX6_requireActiveWithRoom_16 : decode cX6_requireActiveWithRoom 16 = .ok (.goto 4, 3) := by decide +kernel
theorem dX6_requireActiveWithRoom_19 : decode cX6_requireActiveWithRoom 19 = .ok (.iconst 0, 1) := by decide +kernel
theorem dX6_requireActiveWithRoom_20 : decode cX6_requireActiveWithRoom 20 = .ok (.invokestatic 57, 3) := by decide +kernel
theorem dX6_requireActiveWithRoom_23 : decode cX6_requireActiveWithRoom 23 = .ok (.aload_n 0, 1) := by decide +kernel
theorem dX6_requireActiveWithRoom_24 : decode cX6_requireActiveWithRoom 24 = .ok (.getfield 12, 3) := by decide +kernel
theorem dX6_requireActiveWithRoom_27 : decode cX6_requireActiveWithRoom 27 = .ok (.getfield 82, 3) := by decide +kernel
theorem dX6_requireActiveWithRoom_30 : decode cX6_requireActiveWithRoom 30 = .ok (.iload_n 1, 1) := by decide +kernel
theorem dX6_requireActiveWithRoom_31 : decode cX6_requireActiveWithRoom 31 = .ok (.aaload, 1) := by decide +kernel
theorem dX6_requireActiveWithRoom_32 : decode cX6_requireActiveWithRoom 32 = .ok (.getfield 138, 3) := by decide +kernel
theorem dX6_requireActiveWithRoom_35 : decode cX6_requireActiveWithRoom 35 = .ok (.iload_n 2, 1) := by decide +kernel
theorem dX6_requireActiveWithRoom_36 : decode cX6_requireActiveWithRoom 36 = .ok (.iadd, 1) := by decide +kernel
theorem dX6_requireActiveWithRoom_37 : decode cX6_requireActiveWithRoom 37 = .ok (.bipush 20, 2) := by decide +kernel
theorem dX6_requireActiveWithRoom_39 : decode cX6_requireActiveWithRoom 39 = .ok (.if_icmp .le 13, 3) := by decide +kernel
theorem dX6_requireActiveWithRoom_42 : decode cX6_requireActiveWithRoom 42 = .ok (.new 234, 3) := by decide +kernel
theorem dX6_requireActiveWithRoom_45 : decode cX6_requireActiveWithRoom 45 = .ok (.dup, 1) := by decide +kernel
theorem dX6_requireActiveWithRoom_46 : decode cX6_requireActiveWithRoom 46 = .ok (.ldc 236, 2) := by decide +kernel
theorem dX6_requireActiveWithRoom_48 : decode cX6_requireActiveWithRoom 48 = .ok (.invokespecial 238, 3) := by decide +kernel
theorem dX6_requireActiveWithRoom_51 : decode cX6_requireActiveWithRoom 51 = .ok (.athrow, 1) := by decide +kernel
theorem dX6_requireActiveWithRoom_52 : decode cX6_requireActiveWithRoom 52 = .ok (.return_, 1) := by decide +kernel
theorem dX6_read_0 : decode cX6_read 0 = .ok (.aload_n 0, 1) := by decide +kernel
theorem dX6_read_1 : decode cX6_read 1 = .ok (.iload_n 1, 1) := by decide +kernel
theorem dX6_read_2 : decode cX6_read 2 = .ok (.invokevirtual 64, 3) := by decide +kernel
theorem dX6_read_5 : decode cX6_read 5 = .ok (.ifCond .eq 14, 3) := by decide +kernel
theorem dX6_read_8 : decode cX6_read 8 = .ok (.iload_n 2, 1) := by decide +kernel
theorem dX6_read_9 : decode cX6_read 9 = .ok (.invokestatic 68, 3) := by decide +kernel
theorem dX6_read_12 : decode cX6_read 12 = .ok (.ifCond .eq 7, 3) := by decide +kernel
theorem dX6_read_15 : decode cX6_read 15 = .ok (.iconst 1, 1) := by decide +kernel
theorem dX6_read_16 : decode cX6_read 16 = .ok (.goto 4, 3) := by decide +kernel
theorem dX6_read_19 : decode cX6_read 19 = .ok (.iconst 0, 1) := by decide +kernel
theorem dX6_read_20 : decode cX6_read 20 = .ok (.invokestatic 71, 3) := by decide +kernel
theorem dX6_read_23 : decode cX6_read 23 = .ok (.aload_n 0, 1) := by decide +kernel
theorem dX6_read_24 : decode cX6_read 24 = .ok (.iload_n 1, 1) := by decide +kernel
theorem dX6_read_25 : decode cX6_read 25 = .ok (.iconst 1, 1) := by decide +kernel
theorem dX6_read_26 : decode cX6_read 26 = .ok (.invokevirtual 74, 3) := by decide +kernel
theorem dX6_read_29 : decode cX6_read 29 = .ok (.aload_n 0, 1) := by decide +kernel
theorem dX6_read_30 : decode cX6_read 30 = .ok (.getfield 12, 3) := by decide +kernel
theorem dX6_read_33 : decode cX6_read 33 = .ok (.iload_n 1, 1) := by decide +kernel
theorem dX6_read_34 : decode cX6_read 34 = .ok (.iconst 0, 1) := by decide +kernel
theorem dX6_read_35 : decode cX6_read 35 = .ok (.iload_n 2, 1) := by decide +kernel
theorem dX6_read_36 : decode cX6_read 36 = .ok (.iconst 0, 1) := by decide +kernel
theorem dX6_read_37 : decode cX6_read 37 = .ok (.invokevirtual 78, 3) := by decide +kernel
theorem dX6_read_40 : decode cX6_read 40 = .ok (.ireturn, 1) := by decide +kernel
theorem dX6_write_0 : decode cX6_write 0 = .ok (.aload_n 0, 1) := by decide +kernel
theorem dX6_write_1 : decode cX6_write 1 = .ok (.iload_n 1, 1) := by decide +kernel
theorem dX6_write_2 : decode cX6_write 2 = .ok (.invokevirtual 64, 3) := by decide +kernel
theorem dX6_write_5 : decode cX6_write 5 = .ok (.ifCond .eq 14, 3) := by decide +kernel
theorem dX6_write_8 : decode cX6_write 8 = .ok (.iload_n 2, 1) := by decide +kernel
theorem dX6_write_9 : decode cX6_write 9 = .ok (.invokestatic 68, 3) := by decide +kernel
theorem dX6_write_12 : decode cX6_write 12 = .ok (.ifCond .eq 7, 3) := by decide +kernel
theorem dX6_write_15 : decode cX6_write 15 = .ok (.iconst 1, 1) := by decide +kernel
theorem dX6_write_16 : decode cX6_write 16 = .ok (.goto 4, 3) := by decide +kernel
theorem dX6_write_19 : decode cX6_write 19 = .ok (.iconst 0, 1) := by decide +kernel
theorem dX6_write_20 : decode cX6_write 20 = .ok (.invokestatic 71, 3) := by decide +kernel
theorem dX6_write_23 : decode cX6_write 23 = .ok (.aload_n 0, 1) := by decide +kernel
theorem dX6_write_24 : decode cX6_write 24 = .ok (.iload_n 1, 1) := by decide +kernel
theorem dX6_write_25 : decode cX6_write 25 = .ok (.iconst 1, 1) := by decide +kernel
theorem dX6_write_26 : decode cX6_write 26 = .ok (.invokevirtual 74, 3) := by decide +kernel
theorem dX6_write_29 : decode cX6_write 29 = .ok (.aload_n 0, 1) := by decide +kernel
theorem dX6_write_30 : decode cX6_write 30 = .ok (.getfield 12, 3) := by decide +kernel
theorem dX6_write_33 : decode cX6_write 33 = .ok (.iload_n 1, 1) := by decide +kernel
theorem dX6_write_34 : decode cX6_write 34 = .ok (.iconst 1, 1) := by decide +kernel
theorem dX6_write_35 : decode cX6_write 35 = .ok (.iload_n 2, 1) := by decide +kernel
theorem dX6_write_36 : decode cX6_write 36 = .ok (.iload_n 3, 1) := by decide +kernel
theorem dX6_write_37 : decode cX6_write 37 = .ok (.invokevirtual 78, 3) := by decide +kernel
theorem dX6_write_40 : decode cX6_write 40 = .ok (.ireturn, 1) := by decide +kernel
theorem dX6_add_0 : decode cX6_add 0 = .ok (.aload_n 0, 1) := by decide +kernel
theorem dX6_add_1 : decode cX6_add 1 = .ok (.iload_n 1, 1) := by decide +kernel
theorem dX6_add_2 : decode cX6_add 2 = .ok (.invokevirtual 64, 3) := by decide +kernel
theorem dX6_add_5 : decode cX6_add 5 = .ok (.ifCond .eq 14, 3) := by decide +kernel
theorem dX6_add_8 : decode cX6_add 8 = .ok (.iload_n 2, 1) := by decide +kernel
theorem dX6_add_9 : decode cX6_add 9 = .ok (.invokestatic 68, 3) := by decide +kernel
theorem dX6_add_12 : decode cX6_add 12 = .ok (.ifCond .eq 7, 3) := by decide +kernel
theorem dX6_add_15 : decode cX6_add 15 = .ok (.iconst 1, 1) := by decide +kernel
theorem dX6_add_16 : decode cX6_add 16 = .ok (.goto 4, 3) := by decide +kernel
theorem dX6_add_19 : decode cX6_add 19 = .ok (.iconst 0, 1) := by decide +kernel
theorem dX6_add_20 : decode cX6_add 20 = .ok (.invokestatic 71, 3) := by decide +kernel
theorem dX6_add_23 : decode cX6_add 23 = .ok (.aload_n 0, 1) := by decide +kernel
theorem dX6_add_24 : decode cX6_add 24 = .ok (.iload_n 1, 1) := by decide +kernel
theorem dX6_add_25 : decode cX6_add 25 = .ok (.iconst 1, 1) := by decide +kernel
theorem dX6_add_26 : decode cX6_add 26 = .ok (.invokevirtual 74, 3) := by decide +kernel
theorem dX6_add_29 : decode cX6_add 29 = .ok (.aload_n 0, 1) := by decide +kernel
theorem dX6_add_30 : decode cX6_add 30 = .ok (.getfield 12, 3) := by decide +kernel
theorem dX6_add_33 : decode cX6_add 33 = .ok (.iload_n 1, 1) := by decide +kernel
theorem dX6_add_34 : decode cX6_add 34 = .ok (.iconst 2, 1) := by decide +kernel
theorem dX6_add_35 : decode cX6_add 35 = .ok (.iload_n 2, 1) := by decide +kernel
theorem dX6_add_36 : decode cX6_add 36 = .ok (.iload_n 3, 1) := by decide +kernel
theorem dX6_add_37 : decode cX6_add 37 = .ok (.invokevirtual 78, 3) := by decide +kernel
theorem dX6_add_40 : decode cX6_add 40 = .ok (.ireturn, 1) := by decide +kernel
theorem dX6_commit_0 : decode cX6_commit 0 = .ok (.aload_n 0, 1) := by decide +kernel
theorem dX6_commit_1 : decode cX6_commit 1 = .ok (.iload_n 1, 1) := by decide +kernel
theorem dX6_commit_2 : decode cX6_commit 2 = .ok (.invokevirtual 64, 3) := by decide +kernel
theorem dX6_commit_5 : decode cX6_commit 5 = .ok (.invokestatic 71, 3) := by decide +kernel
theorem dX6_commit_8 : decode cX6_commit 8 = .ok (.aload_n 0, 1) := by decide +kernel
theorem dX6_commit_9 : decode cX6_commit 9 = .ok (.getfield 12, 3) := by decide +kernel
theorem dX6_commit_12 : decode cX6_commit 12 = .ok (.getfield 82, 3) := by decide +kernel
theorem dX6_commit_15 : decode cX6_commit 15 = .ok (.iload_n 1, 1) := by decide +kernel
theorem dX6_commit_16 : decode cX6_commit 16 = .ok (.aaload, 1) := by decide +kernel
theorem dX6_commit_17 : decode cX6_commit 17 = .ok (.getfield 86, 3) := by decide +kernel
theorem dX6_commit_20 : decode cX6_commit 20 = .ok (.ifCond .ne 7, 3) := by decide +kernel
theorem dX6_commit_23 : decode cX6_commit 23 = .ok (.iconst 1, 1) := by decide +kernel
theorem dX6_commit_24 : decode cX6_commit 24 = .ok (.goto 4, 3) := by decide +kernel
theorem dX6_commit_27 : decode cX6_commit 27 = .ok (.iconst 0, 1) := by decide +kernel
theorem dX6_commit_28 : decode cX6_commit 28 = .ok (.invokestatic 57, 3) := by decide +kernel
theorem dX6_commit_31 : decode cX6_commit 31 = .ok (.aload_n 0, 1) := by decide +kernel
theorem dX6_commit_32 : decode cX6_commit 32 = .ok (.getfield 12, 3) := by decide +kernel
theorem dX6_commit_35 : decode cX6_commit 35 = .ok (.iload_n 1, 1) := by decide +kernel
theorem dX6_commit_36 : decode cX6_commit 36 = .ok (.invokevirtual 91, 3) := by decide +kernel
theorem dX6_commit_39 : decode cX6_commit 39 = .ok (.ireturn, 1) := by decide +kernel
theorem dX6_abort_0 : decode cX6_abort 0 = .ok (.aload_n 0, 1) := by decide +kernel
theorem dX6_abort_1 : decode cX6_abort 1 = .ok (.iload_n 1, 1) := by decide +kernel
theorem dX6_abort_2 : decode cX6_abort 2 = .ok (.invokevirtual 64, 3) := by decide +kernel
theorem dX6_abort_5 : decode cX6_abort 5 = .ok (.invokestatic 71, 3) := by decide +kernel
theorem dX6_abort_8 : decode cX6_abort 8 = .ok (.aload_n 0, 1) := by decide +kernel
theorem dX6_abort_9 : decode cX6_abort 9 = .ok (.getfield 12, 3) := by decide +kernel
theorem dX6_abort_12 : decode cX6_abort 12 = .ok (.getfield 82, 3) := by decide +kernel
theorem dX6_abort_15 : decode cX6_abort 15 = .ok (.iload_n 1, 1) := by decide +kernel
theorem dX6_abort_16 : decode cX6_abort 16 = .ok (.aaload, 1) := by decide +kernel
theorem dX6_abort_17 : decode cX6_abort 17 = .ok (.invokevirtual 94, 3) := by decide +kernel
theorem dX6_abort_20 : decode cX6_abort 20 = .ok (.invokestatic 57, 3) := by decide +kernel
theorem dX6_abort_23 : decode cX6_abort 23 = .ok (.aload_n 0, 1) := by decide +kernel
theorem dX6_abort_24 : decode cX6_abort 24 = .ok (.getfield 12, 3) := by decide +kernel
theorem dX6_abort_27 : decode cX6_abort 27 = .ok (.iload_n 1, 1) := by decide +kernel
theorem dX6_abort_28 : decode cX6_abort 28 = .ok (.iconst (-1), 1) := by decide +kernel
theorem dX6_abort_29 : decode cX6_abort 29 = .ok (.invokevirtual 98, 3) := by decide +kernel
theorem dX6_abort_32 : decode cX6_abort 32 = .ok (.ireturn, 1) := by decide +kernel
theorem dX6_requireElement_0 : decode cX6_requireElement 0 = .ok (.iload_n 0, 1) := by decide +kernel
theorem dX6_requireElement_1 : decode cX6_requireElement 1 = .ok (.ifCond .ne 14, 3) := by decide +kernel
theorem dX6_requireElement_4 : decode cX6_requireElement 4 = .ok (.new 254, 3) := by decide +kernel
theorem dX6_requireElement_7 : decode cX6_requireElement 7 = .ok (.dup, 1) := by decide +kernel
theorem dX6_requireElement_8 : decode cX6_requireElement 8 = .ok (.ldc_w 256, 3) := by decide +kernel
theorem dX6_requireElement_11 : decode cX6_requireElement 11 = .ok (.invokespecial 258, 3) := by decide +kernel
theorem dX6_requireElement_14 : decode cX6_requireElement 14 = .ok (.athrow, 1) := by decide +kernel
theorem dX6_requireElement_15 : decode cX6_requireElement 15 = .ok (.return_, 1) := by decide +kernel
theorem dX6_restartNext_0 : decode cX6_restartNext 0 = .ok (.aload_n 0, 1) := by decide +kernel
theorem dX6_restartNext_1 : decode cX6_restartNext 1 = .ok (.getfield 12, 3) := by decide +kernel
theorem dX6_restartNext_4 : decode cX6_restartNext 4 = .ok (.invokevirtual 102, 3) := by decide +kernel
theorem dX6_restartNext_7 : decode cX6_restartNext 7 = .ok (.istore_n 1, 1) := by decide +kernel
theorem dX6_restartNext_8 : decode cX6_restartNext 8 = .ok (.iload_n 1, 1) := by decide +kernel
theorem dX6_restartNext_9 : decode cX6_restartNext 9 = .ok (.ifCond .lt 7, 3) := by decide +kernel
theorem dX6_restartNext_12 : decode cX6_restartNext 12 = .ok (.iconst 1, 1) := by decide +kernel
theorem dX6_restartNext_13 : decode cX6_restartNext 13 = .ok (.goto 4, 3) := by decide +kernel
theorem dX6_restartNext_16 : decode cX6_restartNext 16 = .ok (.iconst 0, 1) := by decide +kernel
theorem dX6_restartNext_17 : decode cX6_restartNext 17 = .ok (.invokestatic 106, 3) := by decide +kernel
theorem dX6_restartNext_20 : decode cX6_restartNext 20 = .ok (.aload_n 0, 1) := by decide +kernel
theorem dX6_restartNext_21 : decode cX6_restartNext 21 = .ok (.getfield 12, 3) := by decide +kernel
theorem dX6_restartNext_24 : decode cX6_restartNext 24 = .ok (.iload_n 1, 1) := by decide +kernel
theorem dX6_restartNext_25 : decode cX6_restartNext 25 = .ok (.invokevirtual 109, 3) := by decide +kernel
theorem dX6_restartNext_28 : decode cX6_restartNext 28 = .ok (.iload_n 1, 1) := by decide +kernel
theorem dX6_restartNext_29 : decode cX6_restartNext 29 = .ok (.ireturn, 1) := by decide +kernel
theorem dX6_append_0 : decode cX6_append 0 = .ok (.iload_n 1, 1) := by decide +kernel
theorem dX6_append_1 : decode cX6_append 1 = .ok (.bipush 32, 2) := by decide +kernel
theorem dX6_append_3 : decode cX6_append 3 = .ok (.if_icmp .lt 13, 3) := by decide +kernel
theorem dX6_append_6 : decode cX6_append 6 = .ok (.iload_n 1, 1) := by decide +kernel
theorem dX6_append_7 : decode cX6_append 7 = .ok (.bipush 126, 2) := by decide +kernel
theorem dX6_append_9 : decode cX6_append 9 = .ok (.if_icmp .gt 7, 3) := by decide +kernel
theorem dX6_append_12 : decode cX6_append 12 = .ok (.iconst 1, 1) := by decide +kernel
theorem dX6_append_13 : decode cX6_append 13 = .ok (.goto 4, 3) := by decide +kernel
theorem dX6_append_16 : decode cX6_append 16 = .ok (.iconst 0, 1) := by decide +kernel
theorem dX6_append_17 : decode cX6_append 17 = .ok (.invokestatic 43, 3) := by decide +kernel
theorem dX6_append_20 : decode cX6_append 20 = .ok (.aload_n 0, 1) := by decide +kernel
theorem dX6_append_21 : decode cX6_append 21 = .ok (.getfield 28, 3) := by decide +kernel
theorem dX6_append_24 : decode cX6_append 24 = .ok (.getfield 112, 3) := by decide +kernel
theorem dX6_append_27 : decode cX6_append 27 = .ok (.bipush 60, 2) := by decide +kernel
theorem dX6_append_29 : decode cX6_append 29 = .ok (.if_icmp .ge 7, 3) := by decide +kernel
theorem dX6_append_32 : decode cX6_append 32 = .ok (.iconst 1, 1) := by decide +kernel
theorem dX6_append_33 : decode cX6_append 33 = .ok (.goto 4, 3) := by decide +kernel
theorem dX6_append_36 : decode cX6_append 36 = .ok (.iconst 0, 1) := by decide +kernel
theorem dX6_append_37 : decode cX6_append 37 = .ok (.invokestatic 57, 3) := by decide +kernel
theorem dX6_append_40 : decode cX6_append 40 = .ok (.aload_n 0, 1) := by decide +kernel
theorem dX6_append_41 : decode cX6_append 41 = .ok (.getfield 28, 3) := by decide +kernel
theorem dX6_append_44 : decode cX6_append 44 = .ok (.getfield 115, 3) := by decide +kernel
theorem dX6_append_47 : decode cX6_append 47 = .ok (.aload_n 0, 1) := by decide +kernel
theorem dX6_append_48 : decode cX6_append 48 = .ok (.getfield 28, 3) := by decide +kernel
theorem dX6_append_51 : decode cX6_append 51 = .ok (.getfield 112, 3) := by decide +kernel
theorem dX6_append_54 : decode cX6_append 54 = .ok (.iload_n 1, 1) := by decide +kernel
theorem dX6_append_55 : decode cX6_append 55 = .ok (.castore, 1) := by decide +kernel
theorem dX6_append_56 : decode cX6_append 56 = .ok (.aload_n 0, 1) := by decide +kernel
theorem dX6_append_57 : decode cX6_append 57 = .ok (.getfield 28, 3) := by decide +kernel
theorem dX6_append_60 : decode cX6_append 60 = .ok (.dup, 1) := by decide +kernel
theorem dX6_append_61 : decode cX6_append 61 = .ok (.getfield 112, 3) := by decide +kernel
theorem dX6_append_64 : decode cX6_append 64 = .ok (.iconst 1, 1) := by decide +kernel
theorem dX6_append_65 : decode cX6_append 65 = .ok (.iadd, 1) := by decide +kernel
theorem dX6_append_66 : decode cX6_append 66 = .ok (.putfield 112, 3) := by decide +kernel
theorem dX6_append_69 : decode cX6_append 69 = .ok (.aload_n 0, 1) := by decide +kernel
theorem dX6_append_70 : decode cX6_append 70 = .ok (.getfield 28, 3) := by decide +kernel
theorem dX6_append_73 : decode cX6_append 73 = .ok (.getfield 112, 3) := by decide +kernel
theorem dX6_append_76 : decode cX6_append 76 = .ok (.ireturn, 1) := by decide +kernel
theorem dX6_run_0 : decode cX6_run 0 = .ok (.aload_n 0, 1) := by decide +kernel
theorem dX6_run_1 : decode cX6_run 1 = .ok (.iload_n 1, 1) := by decide +kernel
theorem dX6_run_2 : decode cX6_run 2 = .ok (.invokevirtual 64, 3) := by decide +kernel
theorem dX6_run_5 : decode cX6_run 5 = .ok (.invokestatic 71, 3) := by decide +kernel
theorem dX6_run_8 : decode cX6_run 8 = .ok (.aload_n 0, 1) := by decide +kernel
theorem dX6_run_9 : decode cX6_run 9 = .ok (.getfield 12, 3) := by decide +kernel
theorem dX6_run_12 : decode cX6_run 12 = .ok (.getfield 82, 3) := by decide +kernel
theorem dX6_run_15 : decode cX6_run 15 = .ok (.iload_n 1, 1) := by decide +kernel
theorem dX6_run_16 : decode cX6_run 16 = .ok (.aaload, 1) := by decide +kernel
theorem dX6_run_17 : decode cX6_run 17 = .ok (.getfield 86, 3) := by decide +kernel
theorem dX6_run_20 : decode cX6_run 20 = .ok (.ifCond .ne 7, 3) := by decide +kernel
theorem dX6_run_23 : decode cX6_run 23 = .ok (.iconst 1, 1) := by decide +kernel
theorem dX6_run_24 : decode cX6_run 24 = .ok (.goto 4, 3) := by decide +kernel
theorem dX6_run_27 : decode cX6_run 27 = .ok (.iconst 0, 1) := by decide +kernel
theorem dX6_run_28 : decode cX6_run 28 = .ok (.invokestatic 57, 3) := by decide +kernel
theorem dX6_run_31 : decode cX6_run 31 = .ok (.aload_n 0, 1) := by decide +kernel
theorem dX6_run_32 : decode cX6_run 32 = .ok (.getfield 28, 3) := by decide +kernel
theorem dX6_run_35 : decode cX6_run 35 = .ok (.invokevirtual 119, 3) := by decide +kernel
theorem dX6_run_38 : decode cX6_run 38 = .ok (.istore_n 2, 1) := by decide +kernel
theorem dX6_run_39 : decode cX6_run 39 = .ok (.aload_n 0, 1) := by decide +kernel
theorem dX6_run_40 : decode cX6_run 40 = .ok (.getfield 28, 3) := by decide +kernel
theorem dX6_run_43 : decode cX6_run 43 = .ok (.iconst 0, 1) := by decide +kernel
theorem dX6_run_44 : decode cX6_run 44 = .ok (.putfield 112, 3) := by decide +kernel
theorem dX6_run_47 : decode cX6_run 47 = .ok (.iload_n 2, 1) := by decide +kernel
theorem dX6_run_48 : decode cX6_run 48 = .ok (.ifCond .lt 8, 3) := by decide +kernel
theorem dX6_run_51 : decode cX6_run 51 = .ok (.aload_n 0, 1) := by decide +kernel
theorem dX6_run_52 : decode cX6_run 52 = .ok (.iload_n 2, 1) := by decide +kernel
theorem dX6_run_53 : decode cX6_run 53 = .ok (.putfield 32, 3) := by decide +kernel
theorem dX6_run_56 : decode cX6_run 56 = .ok (.iload_n 2, 1) := by decide +kernel
theorem dX6_run_57 : decode cX6_run 57 = .ok (.ifCond .ge 7, 3) := by decide +kernel
theorem dX6_run_60 : decode cX6_run 60 = .ok (.iconst 1, 1) := by decide +kernel
theorem dX6_run_61 : decode cX6_run 61 = .ok (.goto 4, 3) := by decide +kernel
theorem dX6_run_64 : decode cX6_run 64 = .ok (.iconst 0, 1) := by decide +kernel
theorem dX6_run_65 : decode cX6_run 65 = .ok (.invokestatic 43, 3) := by decide +kernel
theorem dX6_run_68 : decode cX6_run 68 = .ok (.aload_n 0, 1) := by decide +kernel
theorem dX6_run_69 : decode cX6_run 69 = .ok (.iload_n 1, 1) := by decide +kernel
theorem dX6_run_70 : decode cX6_run 70 = .ok (.aload_n 0, 1) := by decide +kernel
theorem dX6_run_71 : decode cX6_run 71 = .ok (.getfield 28, 3) := by decide +kernel
theorem dX6_run_74 : decode cX6_run 74 = .ok (.getfield 122, 3) := by decide +kernel
theorem dX6_run_77 : decode cX6_run 77 = .ok (.invokevirtual 74, 3) := by decide +kernel
theorem dX6_run_80 : decode cX6_run 80 = .ok (.aload_n 0, 1) := by decide +kernel
theorem dX6_run_81 : decode cX6_run 81 = .ok (.getfield 12, 3) := by decide +kernel
theorem dX6_run_84 : decode cX6_run 84 = .ok (.iload_n 1, 1) := by decide +kernel
theorem dX6_run_85 : decode cX6_run 85 = .ok (.aload_n 0, 1) := by decide +kernel
theorem dX6_run_86 : decode cX6_run 86 = .ok (.getfield 28, 3) := by decide +kernel
theorem dX6_run_89 : decode cX6_run 89 = .ok (.invokevirtual 125, 3) := by decide +kernel
theorem dX6_run_92 : decode cX6_run 92 = .ok (.ireturn, 1) := by decide +kernel
theorem dX6_errorPosition_0 : decode cX6_errorPosition 0 = .ok (.aload_n 0, 1) := by decide +kernel
theorem dX6_errorPosition_1 : decode cX6_errorPosition 1 = .ok (.getfield 32, 3) := by decide +kernel
theorem dX6_errorPosition_4 : decode cX6_errorPosition 4 = .ok (.ifCond .lt 7, 3) := by decide +kernel
theorem dX6_errorPosition_7 : decode cX6_errorPosition 7 = .ok (.iconst 1, 1) := by decide +kernel
theorem dX6_errorPosition_8 : decode cX6_errorPosition 8 = .ok (.goto 4, 3) := by decide +kernel
theorem dX6_errorPosition_11 : decode cX6_errorPosition 11 = .ok (.iconst 0, 1) := by decide +kernel
theorem dX6_errorPosition_12 : decode cX6_errorPosition 12 = .ok (.invokestatic 106, 3) := by decide +kernel
theorem dX6_errorPosition_15 : decode cX6_errorPosition 15 = .ok (.aload_n 0, 1) := by decide +kernel
theorem dX6_errorPosition_16 : decode cX6_errorPosition 16 = .ok (.getfield 32, 3) := by decide +kernel
theorem dX6_errorPosition_19 : decode cX6_errorPosition 19 = .ok (.ireturn, 1) := by decide +kernel
theorem dX6_transactionCount_0 : decode cX6_transactionCount 0 = .ok (.aload_n 0, 1) := by decide +kernel
theorem dX6_transactionCount_1 : decode cX6_transactionCount 1 = .ok (.getfield 12, 3) := by decide +kernel
theorem dX6_transactionCount_4 : decode cX6_transactionCount 4 = .ok (.getfield 54, 3) := by decide +kernel
theorem dX6_transactionCount_7 : decode cX6_transactionCount 7 = .ok (.ireturn, 1) := by decide +kernel
theorem dX6_transaction_0 : decode cX6_transaction 0 = .ok (.aload_n 0, 1) := by decide +kernel
theorem dX6_transaction_1 : decode cX6_transaction 1 = .ok (.iload_n 1, 1) := by decide +kernel
theorem dX6_transaction_2 : decode cX6_transaction 2 = .ok (.invokevirtual 64, 3) := by decide +kernel
theorem dX6_transaction_5 : decode cX6_transaction 5 = .ok (.invokestatic 71, 3) := by decide +kernel
theorem dX6_transaction_8 : decode cX6_transaction 8 = .ok (.iload_n 2, 1) := by decide +kernel
theorem dX6_transaction_9 : decode cX6_transaction 9 = .ok (.ifCond .lt 12, 3) := by decide +kernel
theorem dX6_transaction_12 : decode cX6_transaction 12 = .ok (.iload_n 2, 1) := by decide +kernel
theorem dX6_transaction_13 : decode cX6_transaction 13 = .ok (.iconst 4, 1) := by decide +kernel
theorem dX6_transaction_14 : decode cX6_transaction 14 = .ok (.if_icmp .gt 7, 3) := by decide +kernel
theorem dX6_transaction_17 : decode cX6_transaction 17 = .ok (.iconst 1, 1) := by decide +kernel
theorem dX6_transaction_18 : decode cX6_transaction 18 = .ok (.goto 4, 3) := by decide +kernel
theorem dX6_transaction_21 : decode cX6_transaction 21 = .ok (.iconst 0, 1) := by decide +kernel
theorem dX6_transaction_22 : decode cX6_transaction 22 = .ok (.invokestatic 43, 3) := by decide +kernel
theorem dX6_transaction_25 : decode cX6_transaction 25 = .ok (.aload_n 0, 1) := by decide +kernel
theorem dX6_transaction_26 : decode cX6_transaction 26 = .ok (.getfield 12, 3) := by decide +kernel
theorem dX6_transaction_29 : decode cX6_transaction 29 = .ok (.getfield 82, 3) := by decide +kernel
theorem dX6_transaction_32 : decode cX6_transaction 32 = .ok (.iload_n 1, 1) := by decide +kernel
theorem dX6_transaction_33 : decode cX6_transaction 33 = .ok (.aaload, 1) := by decide +kernel
theorem dX6_transaction_34 : decode cX6_transaction 34 = .ok (.iload_n 2, 1) := by decide +kernel
theorem dX6_transaction_35 : decode cX6_transaction 35 = .ok (.invokevirtual 129, 3) := by decide +kernel
theorem dX6_transaction_38 : decode cX6_transaction 38 = .ok (.ireturn, 1) := by decide +kernel
theorem dX6_dependencies_0 : decode cX6_dependencies 0 = .ok (.aload_n 0, 1) := by decide +kernel
theorem dX6_dependencies_1 : decode cX6_dependencies 1 = .ok (.iload_n 1, 1) := by decide +kernel
theorem dX6_dependencies_2 : decode cX6_dependencies 2 = .ok (.invokevirtual 64, 3) := by decide +kernel
theorem dX6_dependencies_5 : decode cX6_dependencies 5 = .ok (.invokestatic 71, 3) := by decide +kernel
theorem dX6_dependencies_8 : decode cX6_dependencies 8 = .ok (.aload_n 0, 1) := by decide +kernel
theorem dX6_dependencies_9 : decode cX6_dependencies 9 = .ok (.getfield 12, 3) := by decide +kernel
theorem dX6_dependencies_12 : decode cX6_dependencies 12 = .ok (.getfield 82, 3) := by decide +kernel
theorem dX6_dependencies_15 : decode cX6_dependencies 15 = .ok (.iload_n 1, 1) := by decide +kernel
theorem dX6_dependencies_16 : decode cX6_dependencies 16 = .ok (.aaload, 1) := by decide +kernel
theorem dX6_dependencies_17 : decode cX6_dependencies 17 = .ok (.getfield 132, 3) := by decide +kernel
theorem dX6_dependencies_20 : decode cX6_dependencies 20 = .ok (.ireturn, 1) := by decide +kernel
theorem dX6_cascade_0 : decode cX6_cascade 0 = .ok (.aload_n 0, 1) := by decide +kernel
theorem dX6_cascade_1 : decode cX6_cascade 1 = .ok (.iload_n 1, 1) := by decide +kernel
theorem dX6_cascade_2 : decode cX6_cascade 2 = .ok (.invokevirtual 64, 3) := by decide +kernel
theorem dX6_cascade_5 : decode cX6_cascade 5 = .ok (.invokestatic 71, 3) := by decide +kernel
theorem dX6_cascade_8 : decode cX6_cascade 8 = .ok (.aload_n 0, 1) := by decide +kernel
theorem dX6_cascade_9 : decode cX6_cascade 9 = .ok (.getfield 12, 3) := by decide +kernel
theorem dX6_cascade_12 : decode cX6_cascade 12 = .ok (.iload_n 1, 1) := by decide +kernel
theorem dX6_cascade_13 : decode cX6_cascade 13 = .ok (.invokevirtual 135, 3) := by decide +kernel
theorem dX6_cascade_16 : decode cX6_cascade 16 = .ok (.ireturn, 1) := by decide +kernel
theorem dX6_operation_0 : decode cX6_operation 0 = .ok (.aload_n 0, 1) := by decide +kernel
theorem dX6_operation_1 : decode cX6_operation 1 = .ok (.iload_n 1, 1) := by decide +kernel
theorem dX6_operation_2 : decode cX6_operation 2 = .ok (.invokevirtual 64, 3) := by decide +kernel
theorem dX6_operation_5 : decode cX6_operation 5 = .ok (.invokestatic 71, 3) := by decide +kernel
theorem dX6_operation_8 : decode cX6_operation 8 = .ok (.iload_n 2, 1) := by decide +kernel
theorem dX6_operation_9 : decode cX6_operation 9 = .ok (.ifCond .lt 23, 3) := by decide +kernel
theorem dX6_operation_12 : decode cX6_operation 12 = .ok (.iload_n 2, 1) := by decide +kernel
theorem dX6_operation_13 : decode cX6_operation 13 = .ok (.aload_n 0, 1) := by decide +kernel
theorem dX6_operation_14 : decode cX6_operation 14 = .ok (.getfield 12, 3) := by decide +kernel
theorem dX6_operation_17 : decode cX6_operation 17 = .ok (.getfield 82, 3) := by decide +kernel
theorem dX6_operation_20 : decode cX6_operation 20 = .ok (.iload_n 1, 1) := by decide +kernel
theorem dX6_operation_21 : decode cX6_operation 21 = .ok (.aaload, 1) := by decide +kernel
theorem dX6_operation_22 : decode cX6_operation 22 = .ok (.getfield 138, 3) := by decide +kernel
theorem dX6_operation_25 : decode cX6_operation 25 = .ok (.if_icmp .ge 7, 3) := by decide +kernel
theorem dX6_operation_28 : decode cX6_operation 28 = .ok (.iconst 1, 1) := by decide +kernel
theorem dX6_operation_29 : decode cX6_operation 29 = .ok (.goto 4, 3) := by decide +kernel
theorem dX6_operation_32 : decode cX6_operation 32 = .ok (.iconst 0, 1) := by decide +kernel
theorem dX6_operation_33 : decode cX6_operation 33 = .ok (.invokestatic 71, 3) := by decide +kernel
theorem dX6_operation_36 : decode cX6_operation 36 = .ok (.iload_n 3, 1) := by decide +kernel
theorem dX6_operation_37 : decode cX6_operation 37 = .ok (.ifCond .lt 12, 3) := by decide +kernel
theorem dX6_operation_40 : decode cX6_operation 40 = .ok (.iload_n 3, 1) := by decide +kernel
theorem dX6_operation_41 : decode cX6_operation 41 = .ok (.iconst 3, 1) := by decide +kernel
theorem dX6_operation_42 : decode cX6_operation 42 = .ok (.if_icmp .gt 7, 3) := by decide +kernel
theorem dX6_operation_45 : decode cX6_operation 45 = .ok (.iconst 1, 1) := by decide +kernel
theorem dX6_operation_46 : decode cX6_operation 46 = .ok (.goto 4, 3) := by decide +kernel
theorem dX6_operation_49 : decode cX6_operation 49 = .ok (.iconst 0, 1) := by decide +kernel
theorem dX6_operation_50 : decode cX6_operation 50 = .ok (.invokestatic 43, 3) := by decide +kernel
theorem dX6_operation_53 : decode cX6_operation 53 = .ok (.aload_n 0, 1) := by decide +kernel
theorem dX6_operation_54 : decode cX6_operation 54 = .ok (.getfield 12, 3) := by decide +kernel
theorem dX6_operation_57 : decode cX6_operation 57 = .ok (.getfield 82, 3) := by decide +kernel
theorem dX6_operation_60 : decode cX6_operation 60 = .ok (.iload_n 1, 1) := by decide +kernel
theorem dX6_operation_61 : decode cX6_operation 61 = .ok (.aaload, 1) := by decide +kernel
theorem dX6_operation_62 : decode cX6_operation 62 = .ok (.iload_n 2, 1) := by decide +kernel
theorem dX6_operation_63 : decode cX6_operation 63 = .ok (.iload_n 3, 1) := by decide +kernel
theorem dX6_operation_64 : decode cX6_operation 64 = .ok (.invokevirtual 139, 3) := by decide +kernel
theorem dX6_operation_67 : decode cX6_operation 67 = .ok (.ireturn, 1) := by decide +kernel
theorem dX6_versionCount_0 : decode cX6_versionCount 0 = .ok (.iload_n 1, 1) := by decide +kernel
theorem dX6_versionCount_1 : decode cX6_versionCount 1 = .ok (.invokestatic 68, 3) := by decide +kernel
theorem dX6_versionCount_4 : decode cX6_versionCount 4 = .ok (.invokestatic 71, 3) := by decide +kernel
theorem dX6_versionCount_7 : decode cX6_versionCount 7 = .ok (.aload_n 0, 1) := by decide +kernel
theorem dX6_versionCount_8 : decode cX6_versionCount 8 = .ok (.getfield 12, 3) := by decide +kernel
theorem dX6_versionCount_11 : decode cX6_versionCount 11 = .ok (.getfield 142, 3) := by decide +kernel
theorem dX6_versionCount_14 : decode cX6_versionCount 14 = .ok (.iload_n 1, 1) := by decide +kernel
theorem dX6_versionCount_15 : decode cX6_versionCount 15 = .ok (.aaload, 1) := by decide +kernel
theorem dX6_versionCount_16 : decode cX6_versionCount 16 = .ok (.getfield 146, 3) := by decide +kernel
theorem dX6_versionCount_19 : decode cX6_versionCount 19 = .ok (.ireturn, 1) := by decide +kernel
theorem dX6_version_0 : decode cX6_version 0 = .ok (.iload_n 1, 1) := by decide +kernel
theorem dX6_version_1 : decode cX6_version 1 = .ok (.invokestatic 68, 3) := by decide +kernel
theorem dX6_version_4 : decode cX6_version 4 = .ok (.invokestatic 71, 3) := by decide +kernel
theorem dX6_version_7 : decode cX6_version 7 = .ok (.iload_n 2, 1) := by decide +kernel
theorem dX6_version_8 : decode cX6_version 8 = .ok (.ifCond .lt 23, 3) := by decide +kernel
theorem dX6_version_11 : decode cX6_version 11 = .ok (.iload_n 2, 1) := by decide +kernel
theorem dX6_version_12 : decode cX6_version 12 = .ok (.aload_n 0, 1) := by decide +kernel
theorem dX6_version_13 : decode cX6_version 13 = .ok (.getfield 12, 3) := by decide +kernel
theorem dX6_version_16 : decode cX6_version 16 = .ok (.getfield 142, 3) := by decide +kernel
theorem dX6_version_19 : decode cX6_version 19 = .ok (.iload_n 1, 1) := by decide +kernel
theorem dX6_version_20 : decode cX6_version 20 = .ok (.aaload, 1) := by decide +kernel
theorem dX6_version_21 : decode cX6_version 21 = .ok (.getfield 146, 3) := by decide +kernel
theorem dX6_version_24 : decode cX6_version 24 = .ok (.if_icmp .ge 7, 3) := by decide +kernel
theorem dX6_version_27 : decode cX6_version 27 = .ok (.iconst 1, 1) := by decide +kernel
theorem dX6_version_28 : decode cX6_version 28 = .ok (.goto 4, 3) := by decide +kernel
theorem dX6_version_31 : decode cX6_version 31 = .ok (.iconst 0, 1) := by decide +kernel
theorem dX6_version_32 : decode cX6_version 32 = .ok (.invokestatic 71, 3) := by decide +kernel
theorem dX6_version_35 : decode cX6_version 35 = .ok (.iload_n 3, 1) := by decide +kernel
theorem dX6_version_36 : decode cX6_version 36 = .ok (.ifCond .lt 12, 3) := by decide +kernel
theorem dX6_version_39 : decode cX6_version 39 = .ok (.iload_n 3, 1) := by decide +kernel
theorem dX6_version_40 : decode cX6_version 40 = .ok (.iconst 4, 1) := by decide +kernel
theorem dX6_version_41 : decode cX6_version 41 = .ok (.if_icmp .gt 7, 3) := by decide +kernel
theorem dX6_version_44 : decode cX6_version 44 = .ok (.iconst 1, 1) := by decide +kernel
theorem dX6_version_45 : decode cX6_version 45 = .ok (.goto 4, 3) := by decide +kernel
theorem dX6_version_48 : decode cX6_version 48 = .ok (.iconst 0, 1) := by decide +kernel
theorem dX6_version_49 : decode cX6_version 49 = .ok (.invokestatic 43, 3) := by decide +kernel
theorem dX6_version_52 : decode cX6_version 52 = .ok (.iload_n 3, 1) := by decide +kernel
theorem dX6_version_53 : decode cX6_version 53 = .ok (.iconst 4, 1) := by decide +kernel
theorem dX6_version_54 : decode cX6_version 54 = .ok (.if_icmp .ne 33, 3) := by decide +kernel
theorem dX6_version_57 : decode cX6_version 57 = .ok (.aload_n 0, 1) := by decide +kernel
theorem dX6_version_58 : decode cX6_version 58 = .ok (.getfield 12, 3) := by decide +kernel
theorem dX6_version_61 : decode cX6_version 61 = .ok (.aload_n 0, 1) := by decide +kernel
theorem dX6_version_62 : decode cX6_version 62 = .ok (.getfield 12, 3) := by decide +kernel
theorem dX6_version_65 : decode cX6_version 65 = .ok (.getfield 142, 3) := by decide +kernel
theorem dX6_version_68 : decode cX6_version 68 = .ok (.iload_n 1, 1) := by decide +kernel
theorem dX6_version_69 : decode cX6_version 69 = .ok (.aaload, 1) := by decide +kernel
theorem dX6_version_70 : decode cX6_version 70 = .ok (.getfield 151, 3) := by decide +kernel
theorem dX6_version_73 : decode cX6_version 73 = .ok (.iload_n 2, 1) := by decide +kernel
theorem dX6_version_74 : decode cX6_version 74 = .ok (.iaload, 1) := by decide +kernel
theorem dX6_version_75 : decode cX6_version 75 = .ok (.invokevirtual 155, 3) := by decide +kernel
theorem dX6_version_78 : decode cX6_version 78 = .ok (.ifCond .eq 7, 3) := by decide +kernel
theorem dX6_version_81 : decode cX6_version 81 = .ok (.iconst 0, 1) := by decide +kernel
theorem dX6_version_82 : decode cX6_version 82 = .ok (.goto 4, 3) := by decide +kernel
theorem dX6_version_85 : decode cX6_version 85 = .ok (.iconst 1, 1) := by decide +kernel
theorem dX6_version_86 : decode cX6_version 86 = .ok (.ireturn, 1) := by decide +kernel
theorem dX6_version_87 : decode cX6_version 87 = .ok (.aload_n 0, 1) := by decide +kernel
theorem dX6_version_88 : decode cX6_version 88 = .ok (.getfield 12, 3) := by decide +kernel
theorem dX6_version_91 : decode cX6_version 91 = .ok (.getfield 142, 3) := by decide +kernel
theorem dX6_version_94 : decode cX6_version 94 = .ok (.iload_n 1, 1) := by decide +kernel
theorem dX6_version_95 : decode cX6_version 95 = .ok (.aaload, 1) := by decide +kernel
theorem dX6_version_96 : decode cX6_version 96 = .ok (.iload_n 2, 1) := by decide +kernel
theorem dX6_version_97 : decode cX6_version 97 = .ok (.iload_n 3, 1) := by decide +kernel
theorem dX6_version_98 : decode cX6_version 98 = .ok (.invokevirtual 158, 3) := by decide +kernel
theorem dX6_version_101 : decode cX6_version 101 = .ok (.ireturn, 1) := by decide +kernel
theorem dX6_valueAt_0 : decode cX6_valueAt 0 = .ok (.iload_n 1, 1) := by decide +kernel
theorem dX6_valueAt_1 : decode cX6_valueAt 1 = .ok (.invokestatic 68, 3) := by decide +kernel
theorem dX6_valueAt_4 : decode cX6_valueAt 4 = .ok (.invokestatic 71, 3) := by decide +kernel
theorem dX6_valueAt_7 : decode cX6_valueAt 7 = .ok (.aload_n 0, 1) := by decide +kernel
theorem dX6_valueAt_8 : decode cX6_valueAt 8 = .ok (.getfield 12, 3) := by decide +kernel
theorem dX6_valueAt_11 : decode cX6_valueAt 11 = .ok (.aload_n 0, 1) := by decide +kernel
theorem dX6_valueAt_12 : decode cX6_valueAt 12 = .ok (.getfield 12, 3) := by decide +kernel
theorem dX6_valueAt_15 : decode cX6_valueAt 15 = .ok (.getfield 142, 3) := by decide +kernel
theorem dX6_valueAt_18 : decode cX6_valueAt 18 = .ok (.iload_n 1, 1) := by decide +kernel
theorem dX6_valueAt_19 : decode cX6_valueAt 19 = .ok (.aaload, 1) := by decide +kernel
theorem dX6_valueAt_20 : decode cX6_valueAt 20 = .ok (.iload_n 2, 1) := by decide +kernel
theorem dX6_valueAt_21 : decode cX6_valueAt 21 = .ok (.invokevirtual 161, 3) := by decide +kernel
theorem dX6_valueAt_24 : decode cX6_valueAt 24 = .ok (.istore_n 3, 1) := by decide +kernel
theorem dX6_valueAt_25 : decode cX6_valueAt 25 = .ok (.iload_n 3, 1) := by decide +kernel
theorem dX6_valueAt_26 : decode cX6_valueAt 26 = .ok (.ifCond .lt 7, 3) := by decide +kernel
theorem dX6_valueAt_29 : decode cX6_valueAt 29 = .ok (.iconst 1, 1) := by decide +kernel
theorem dX6_valueAt_30 : decode cX6_valueAt 30 = .ok (.goto 4, 3) := by decide +kernel
theorem dX6_valueAt_33 : decode cX6_valueAt 33 = .ok (.iconst 0, 1) := by decide +kernel
theorem dX6_valueAt_34 : decode cX6_valueAt 34 = .ok (.invokestatic 106, 3) := by decide +kernel
theorem dX6_valueAt_37 : decode cX6_valueAt 37 = .ok (.aload_n 0, 1) := by decide +kernel
theorem dX6_valueAt_38 : decode cX6_valueAt 38 = .ok (.getfield 12, 3) := by decide +kernel
theorem dX6_valueAt_41 : decode cX6_valueAt 41 = .ok (.getfield 142, 3) := by decide +kernel
theorem dX6_valueAt_44 : decode cX6_valueAt 44 = .ok (.iload_n 1, 1) := by decide +kernel
theorem dX6_valueAt_45 : decode cX6_valueAt 45 = .ok (.aaload, 1) := by decide +kernel
theorem dX6_valueAt_46 : decode cX6_valueAt 46 = .ok (.getfield 165, 3) := by decide +kernel
theorem dX6_valueAt_49 : decode cX6_valueAt 49 = .ok (.iload_n 3, 1) := by decide +kernel
theorem dX6_valueAt_50 : decode cX6_valueAt 50 = .ok (.iaload, 1) := by decide +kernel
theorem dX6_valueAt_51 : decode cX6_valueAt 51 = .ok (.ireturn, 1) := by decide +kernel
theorem dX6_collect_0 : decode cX6_collect 0 = .ok (.aload_n 0, 1) := by decide +kernel
theorem dX6_collect_1 : decode cX6_collect 1 = .ok (.getfield 12, 3) := by decide +kernel
theorem dX6_collect_4 : decode cX6_collect 4 = .ok (.invokevirtual 168, 3) := by decide +kernel
theorem dX6_collect_7 : decode cX6_collect 7 = .ok (.ireturn, 1) := by decide +kernel
theorem dX6_horizon_0 : decode cX6_horizon 0 = .ok (.aload_n 0, 1) := by decide +kernel
theorem dX6_horizon_1 : decode cX6_horizon 1 = .ok (.getfield 12, 3) := by decide +kernel
theorem dX6_horizon_4 : decode cX6_horizon 4 = .ok (.invokevirtual 171, 3) := by decide +kernel
theorem dX6_horizon_7 : decode cX6_horizon 7 = .ok (.ireturn, 1) := by decide +kernel
theorem dX6_check_0 : decode cX6_check 0 = .ok (.aload_n 0, 1) := by decide +kernel
theorem dX6_check_1 : decode cX6_check 1 = .ok (.getfield 12, 3) := by decide +kernel
theorem dX6_check_4 : decode cX6_check 4 = .ok (.invokevirtual 174, 3) := by decide +kernel
theorem dX6_check_7 : decode cX6_check 7 = .ok (.ireturn, 1) := by decide +kernel
theorem dX6_eventCount_0 : decode cX6_eventCount 0 = .ok (.aload_n 0, 1) := by decide +kernel
theorem dX6_eventCount_1 : decode cX6_eventCount 1 = .ok (.getfield 12, 3) := by decide +kernel
theorem dX6_eventCount_4 : decode cX6_eventCount 4 = .ok (.getfield 177, 3) := by decide +kernel
theorem dX6_eventCount_7 : decode cX6_eventCount 7 = .ok (.getfield 181, 3) := by decide +kernel
theorem dX6_eventCount_10 : decode cX6_eventCount 10 = .ok (.ireturn, 1) := by decide +kernel
theorem dX6_event_0 : decode cX6_event 0 = .ok (.iload_n 1, 1) := by decide +kernel
theorem dX6_event_1 : decode cX6_event 1 = .ok (.ifCond .lt 30, 3) := by decide +kernel
theorem dX6_event_4 : decode cX6_event 4 = .ok (.iload_n 1, 1) := by decide +kernel
theorem dX6_event_5 : decode cX6_event 5 = .ok (.aload_n 0, 1) := by decide +kernel
theorem dX6_event_6 : decode cX6_event 6 = .ok (.getfield 12, 3) := by decide +kernel
theorem dX6_event_9 : decode cX6_event 9 = .ok (.getfield 177, 3) := by decide +kernel
theorem dX6_event_12 : decode cX6_event 12 = .ok (.getfield 181, 3) := by decide +kernel
theorem dX6_event_15 : decode cX6_event 15 = .ok (.if_icmp .ge 16, 3) := by decide +kernel
theorem dX6_event_18 : decode cX6_event 18 = .ok (.iload_n 2, 1) := by decide +kernel
theorem dX6_event_19 : decode cX6_event 19 = .ok (.ifCond .lt 12, 3) := by decide +kernel
theorem dX6_event_22 : decode cX6_event 22 = .ok (.iload_n 2, 1) := by decide +kernel
theorem dX6_event_23 : decode cX6_event 23 = .ok (.iconst 2, 1) := by decide +kernel
theorem dX6_event_24 : decode cX6_event 24 = .ok (.if_icmp .gt 7, 3) := by decide +kernel
theorem dX6_event_27 : decode cX6_event 27 = .ok (.iconst 1, 1) := by decide +kernel
theorem dX6_event_28 : decode cX6_event 28 = .ok (.goto 4, 3) := by decide +kernel
theorem dX6_event_31 : decode cX6_event 31 = .ok (.iconst 0, 1) := by decide +kernel
theorem dX6_event_32 : decode cX6_event 32 = .ok (.invokestatic 71, 3) := by decide +kernel
theorem dX6_event_35 : decode cX6_event 35 = .ok (.aload_n 0, 1) := by decide +kernel
theorem dX6_event_36 : decode cX6_event 36 = .ok (.getfield 12, 3) := by decide +kernel
theorem dX6_event_39 : decode cX6_event 39 = .ok (.getfield 177, 3) := by decide +kernel
theorem dX6_event_42 : decode cX6_event 42 = .ok (.iload_n 1, 1) := by decide +kernel
theorem dX6_event_43 : decode cX6_event 43 = .ok (.iload_n 2, 1) := by decide +kernel
theorem dX6_event_44 : decode cX6_event 44 = .ok (.invokevirtual 184, 3) := by decide +kernel
theorem dX6_event_47 : decode cX6_event 47 = .ok (.ireturn, 1) := by decide +kernel
theorem dX6_total_0 : decode cX6_total 0 = .ok (.iload_n 1, 1) := by decide +kernel
theorem dX6_total_1 : decode cX6_total 1 = .ok (.ifCond .lt 13, 3) := by decide +kernel
theorem dX6_total_4 : decode cX6_total 4 = .ok (.iload_n 1, 1) := by decide +kernel
theorem dX6_total_5 : decode cX6_total 5 = .ok (.bipush 9, 2) := by decide +kernel
theorem dX6_total_7 : decode cX6_total 7 = .ok (.if_icmp .ge 7, 3) := by decide +kernel
theorem dX6_total_10 : decode cX6_total 10 = .ok (.iconst 1, 1) := by decide +kernel
theorem dX6_total_11 : decode cX6_total 11 = .ok (.goto 4, 3) := by decide +kernel
theorem dX6_total_14 : decode cX6_total 14 = .ok (.iconst 0, 1) := by decide +kernel
theorem dX6_total_15 : decode cX6_total 15 = .ok (.invokestatic 43, 3) := by decide +kernel
theorem dX6_total_18 : decode cX6_total 18 = .ok (.aload_n 0, 1) := by decide +kernel
theorem dX6_total_19 : decode cX6_total 19 = .ok (.getfield 12, 3) := by decide +kernel
theorem dX6_total_22 : decode cX6_total 22 = .ok (.getfield 177, 3) := by decide +kernel
theorem dX6_total_25 : decode cX6_total 25 = .ok (.getfield 187, 3) := by decide +kernel
theorem dX6_total_28 : decode cX6_total 28 = .ok (.iload_n 1, 1) := by decide +kernel
theorem dX6_total_29 : decode cX6_total 29 = .ok (.iaload, 1) := by decide +kernel
theorem dX6_total_30 : decode cX6_total 30 = .ok (.ireturn, 1) := by decide +kernel
theorem dX6_abortShare_0 : decode cX6_abortShare 0 = .ok (.aload_n 0, 1) := by decide +kernel
theorem dX6_abortShare_1 : decode cX6_abortShare 1 = .ok (.getfield 12, 3) := by decide +kernel
theorem dX6_abortShare_4 : decode cX6_abortShare 4 = .ok (.getfield 190, 3) := by decide +kernel
theorem dX6_abortShare_7 : decode cX6_abortShare 7 = .ok (.iconst 1, 1) := by decide +kernel
theorem dX6_abortShare_8 : decode cX6_abortShare 8 = .ok (.isub, 1) := by decide +kernel
theorem dX6_abortShare_9 : decode cX6_abortShare 9 = .ok (.istore_n 1, 1) := by decide +kernel
theorem dX6_abortShare_10 : decode cX6_abortShare 10 = .ok (.iload_n 1, 1) := by decide +kernel
theorem dX6_abortShare_11 : decode cX6_abortShare 11 = .ok (.ifCond .ne 13, 3) := by decide +kernel
theorem dX6_abortShare_14 : decode cX6_abortShare 14 = .ok (.new 193, 3) := by decide +kernel
theorem dX6_abortShare_17 : decode cX6_abortShare 17 = .ok (.dup, 1) := by decide +kernel
theorem dX6_abortShare_18 : decode cX6_abortShare 18 = .ok (.ldc 195, 2) := by decide +kernel
theorem dX6_abortShare_20 : decode cX6_abortShare 20 = .ok (.invokespecial 197, 3) := by decide +kernel
theorem dX6_abortShare_23 : decode cX6_abortShare 23 = .ok (.athrow, 1) := by decide +kernel
theorem dX6_abortShare_24 : decode cX6_abortShare 24 = .ok (.aload_n 0, 1) := by decide +kernel
theorem dX6_abortShare_25 : decode cX6_abortShare 25 = .ok (.getfield 12, 3) := by decide +kernel
theorem dX6_abortShare_28 : decode cX6_abortShare 28 = .ok (.getfield 177, 3) := by decide +kernel
theorem dX6_abortShare_31 : decode cX6_abortShare 31 = .ok (.getfield 187, 3) := by decide +kernel
theorem dX6_abortShare_34 : decode cX6_abortShare 34 = .ok (.bipush 6, 2) := by decide +kernel
theorem dX6_abortShare_36 : decode cX6_abortShare 36 = .ok (.iaload, 1) := by decide +kernel
theorem dX6_abortShare_37 : decode cX6_abortShare 37 = .ok (.aload_n 0, 1) := by decide +kernel
theorem dX6_abortShare_38 : decode cX6_abortShare 38 = .ok (.getfield 12, 3) := by decide +kernel
theorem dX6_abortShare_41 : decode cX6_abortShare 41 = .ok (.getfield 177, 3) := by decide +kernel
theorem dX6_abortShare_44 : decode cX6_abortShare 44 = .ok (.getfield 187, 3) := by decide +kernel
theorem dX6_abortShare_47 : decode cX6_abortShare 47 = .ok (.bipush 7, 2) := by decide +kernel
theorem dX6_abortShare_49 : decode cX6_abortShare 49 = .ok (.iaload, 1) := by decide +kernel
theorem dX6_abortShare_50 : decode cX6_abortShare 50 = .ok (.iadd, 1) := by decide +kernel
theorem dX6_abortShare_51 : decode cX6_abortShare 51 = .ok (.istore_n 2, 1) := by decide +kernel
theorem dX6_abortShare_52 : decode cX6_abortShare 52 = .ok (.iload_n 2, 1) := by decide +kernel
theorem dX6_abortShare_53 : decode cX6_abortShare 53 = .ok (.i2d, 1) := by decide +kernel
theorem dX6_abortShare_54 : decode cX6_abortShare 54 = .ok (.iload_n 1, 1) := by decide +kernel
theorem dX6_abortShare_55 : decode cX6_abortShare 55 = .ok (.i2d, 1) := by decide +kernel
theorem dX6_abortShare_56 : decode cX6_abortShare 56 = .ok (.ddiv, 1) := by decide +kernel
theorem dX6_abortShare_57 : decode cX6_abortShare 57 = .ok (.dreturn, 1) := by decide +kernel
theorem dX6_isSlot_0 : decode cX6_isSlot 0 = .ok (.iload_n 0, 1) := by decide +kernel
theorem dX6_isSlot_1 : decode cX6_isSlot 1 = .ok (.ifCond .lt 12, 3) := by decide +kernel
theorem dX6_isSlot_4 : decode cX6_isSlot 4 = .ok (.iload_n 0, 1) := by decide +kernel
theorem dX6_isSlot_5 : decode cX6_isSlot 5 = .ok (.iconst 3, 1) := by decide +kernel
theorem dX6_isSlot_6 : decode cX6_isSlot 6 = .ok (.if_icmp .ge 7, 3) := by decide +kernel
theorem dX6_isSlot_9 : decode cX6_isSlot 9 = .ok (.iconst 1, 1) := by decide +kernel
theorem dX6_isSlot_10 : decode cX6_isSlot 10 = .ok (.goto 4, 3) := by decide +kernel
theorem dX6_isSlot_13 : decode cX6_isSlot 13 = .ok (.iconst 0, 1) := by decide +kernel
theorem dX6_isSlot_14 : decode cX6_isSlot 14 = .ok (.ireturn, 1) := by decide +kernel
theorem dX6_allocate_0 : decode cX6_allocate 0 = .ok (.iload_n 1, 1) := by decide +kernel
theorem dX6_allocate_1 : decode cX6_allocate 1 = .ok (.invokestatic 200, 3) := by decide +kernel
theorem dX6_allocate_4 : decode cX6_allocate 4 = .ok (.invokestatic 71, 3) := by decide +kernel
theorem dX6_allocate_7 : decode cX6_allocate 7 = .ok (.iload_n 2, 1) := by decide +kernel
theorem dX6_allocate_8 : decode cX6_allocate 8 = .ok (.ifCond .eq 8, 3) := by decide +kernel
theorem dX6_allocate_11 : decode cX6_allocate 11 = .ok (.iload_n 2, 1) := by decide +kernel
theorem dX6_allocate_12 : decode cX6_allocate 12 = .ok (.iconst 1, 1) := by decide +kernel
theorem dX6_allocate_13 : decode cX6_allocate 13 = .ok (.if_icmp .ne 7, 3) := by decide +kernel
theorem dX6_allocate_16 : decode cX6_allocate 16 = .ok (.iconst 1, 1) := by decide +kernel
theorem dX6_allocate_17 : decode cX6_allocate 17 = .ok (.goto 4, 3) := by decide +kernel
theorem dX6_allocate_20 : decode cX6_allocate 20 = .ok (.iconst 0, 1) := by decide +kernel
theorem dX6_allocate_21 : decode cX6_allocate 21 = .ok (.invokestatic 43, 3) := by decide +kernel
theorem dX6_allocate_24 : decode cX6_allocate 24 = .ok (.iload_n 3, 1) := by decide +kernel
theorem dX6_allocate_25 : decode cX6_allocate 25 = .ok (.ifCond .lt 13, 3) := by decide +kernel
theorem dX6_allocate_28 : decode cX6_allocate 28 = .ok (.iload_n 3, 1) := by decide +kernel
theorem dX6_allocate_29 : decode cX6_allocate 29 = .ok (.bipush 30, 2) := by decide +kernel
theorem dX6_allocate_31 : decode cX6_allocate 31 = .ok (.if_icmp .gt 7, 3) := by decide +kernel
theorem dX6_allocate_34 : decode cX6_allocate 34 = .ok (.iconst 1, 1) := by decide +kernel
theorem dX6_allocate_35 : decode cX6_allocate 35 = .ok (.goto 4, 3) := by decide +kernel
theorem dX6_allocate_38 : decode cX6_allocate 38 = .ok (.iconst 0, 1) := by decide +kernel
theorem dX6_allocate_39 : decode cX6_allocate 39 = .ok (.invokestatic 43, 3) := by decide +kernel
theorem dX6_allocate_42 : decode cX6_allocate 42 = .ok (.aload_n 0, 1) := by decide +kernel
theorem dX6_allocate_43 : decode cX6_allocate 43 = .ok (.getfield 38, 3) := by decide +kernel
theorem dX6_allocate_46 : decode cX6_allocate 46 = .ok (.iload_n 1, 1) := by decide +kernel
theorem dX6_allocate_47 : decode cX6_allocate 47 = .ok (.aaload, 1) := by decide +kernel
theorem dX6_allocate_48 : decode cX6_allocate 48 = .ok (.iload_n 2, 1) := by decide +kernel
theorem dX6_allocate_49 : decode cX6_allocate 49 = .ok (.iload_n 3, 1) := by decide +kernel
theorem dX6_allocate_50 : decode cX6_allocate 50 = .ok (.invokevirtual 203, 3) := by decide +kernel
theorem dX6_allocate_53 : decode cX6_allocate 53 = .ok (.return_, 1) := by decide +kernel
theorem dX6_export_0 : decode cX6_export 0 = .ok (.iload_n 1, 1) := by decide +kernel
theorem dX6_export_1 : decode cX6_export 1 = .ok (.invokestatic 200, 3) := by decide +kernel
theorem dX6_export_4 : decode cX6_export 4 = .ok (.ifCond .eq 14, 3) := by decide +kernel
theorem dX6_export_7 : decode cX6_export 7 = .ok (.iload_n 2, 1) := by decide +kernel
theorem dX6_export_8 : decode cX6_export 8 = .ok (.invokestatic 68, 3) := by decide +kernel
theorem dX6_export_11 : decode cX6_export 11 = .ok (.ifCond .eq 7, 3) := by decide +kernel
theorem dX6_export_14 : decode cX6_export 14 = .ok (.iconst 1, 1) := by decide +kernel
theorem dX6_export_15 : decode cX6_export 15 = .ok (.goto 4, 3) := by decide +kernel
theorem dX6_export_18 : decode cX6_export 18 = .ok (.iconst 0, 1) := by decide +kernel
theorem dX6_export_19 : decode cX6_export 19 = .ok (.invokestatic 71, 3) := by decide +kernel
theorem dX6_export_22 : decode cX6_export 22 = .ok (.aload_n 0, 1) := by decide +kernel
theorem dX6_export_23 : decode cX6_export 23 = .ok (.getfield 38, 3) := by decide +kernel
theorem dX6_export_26 : decode cX6_export 26 = .ok (.iload_n 1, 1) := by decide +kernel
theorem dX6_export_27 : decode cX6_export 27 = .ok (.aaload, 1) := by decide +kernel
theorem dX6_export_28 : decode cX6_export 28 = .ok (.invokevirtual 206, 3) := by decide +kernel
theorem dX6_export_31 : decode cX6_export 31 = .ok (.invokestatic 57, 3) := by decide +kernel
theorem dX6_export_34 : decode cX6_export 34 = .ok (.aload_n 0, 1) := by decide +kernel
theorem dX6_export_35 : decode cX6_export 35 = .ok (.getfield 12, 3) := by decide +kernel
theorem dX6_export_38 : decode cX6_export 38 = .ok (.getfield 142, 3) := by decide +kernel
theorem dX6_export_41 : decode cX6_export 41 = .ok (.iload_n 2, 1) := by decide +kernel
theorem dX6_export_42 : decode cX6_export 42 = .ok (.aaload, 1) := by decide +kernel
theorem dX6_export_43 : decode cX6_export 43 = .ok (.astore_n 3, 1) := by decide +kernel
theorem dX6_export_44 : decode cX6_export 44 = .ok (.aload_n 0, 1) := by decide +kernel
theorem dX6_export_45 : decode cX6_export 45 = .ok (.getfield 38, 3) := by decide +kernel
theorem dX6_export_48 : decode cX6_export 48 = .ok (.iload_n 1, 1) := by decide +kernel
theorem dX6_export_49 : decode cX6_export 49 = .ok (.aaload, 1) := by decide +kernel
theorem dX6_export_50 : decode cX6_export 50 = .ok (.aload_n 3, 1) := by decide +kernel
theorem dX6_export_51 : decode cX6_export 51 = .ok (.invokevirtual 209, 3) := by decide +kernel
theorem dX6_export_54 : decode cX6_export 54 = .ok (.aload_n 0, 1) := by decide +kernel
theorem dX6_export_55 : decode cX6_export 55 = .ok (.getfield 38, 3) := by decide +kernel
theorem dX6_export_58 : decode cX6_export 58 = .ok (.iload_n 1, 1) := by decide +kernel
theorem dX6_export_59 : decode cX6_export 59 = .ok (.aaload, 1) := by decide +kernel
theorem dX6_export_60 : decode cX6_export 60 = .ok (.getfield 213, 3) := by decide +kernel
theorem dX6_export_63 : decode cX6_export 63 = .ok (.aload_n 3, 1) := by decide +kernel
theorem dX6_export_64 : decode cX6_export 64 = .ok (.getfield 146, 3) := by decide +kernel
theorem dX6_export_67 : decode cX6_export 67 = .ok (.if_icmp .lt 7, 3) := by decide +kernel
theorem dX6_export_70 : decode cX6_export 70 = .ok (.iconst 1, 1) := by decide +kernel
theorem dX6_export_71 : decode cX6_export 71 = .ok (.goto 4, 3) := by decide +kernel
theorem dX6_export_74 : decode cX6_export 74 = .ok (.iconst 0, 1) := by decide +kernel
theorem dX6_export_75 : decode cX6_export 75 = .ok (.invokestatic 71, 3) := by decide +kernel
theorem dX6_export_78 : decode cX6_export 78 = .ok (.aload_n 3, 1) := by decide +kernel
theorem dX6_export_79 : decode cX6_export 79 = .ok (.getfield 146, 3) := by decide +kernel
theorem dX6_export_82 : decode cX6_export 82 = .ok (.ireturn, 1) := by decide +kernel
theorem dX6_divide_0 : decode cX6_divide 0 = .ok (.iload_n 1, 1) := by decide +kernel
theorem dX6_divide_1 : decode cX6_divide 1 = .ok (.invokestatic 200, 3) := by decide +kernel
theorem dX6_divide_4 : decode cX6_divide 4 = .ok (.invokestatic 71, 3) := by decide +kernel
theorem dX6_divide_7 : decode cX6_divide 7 = .ok (.aload_n 0, 1) := by decide +kernel
theorem dX6_divide_8 : decode cX6_divide 8 = .ok (.getfield 38, 3) := by decide +kernel
theorem dX6_divide_11 : decode cX6_divide 11 = .ok (.iload_n 1, 1) := by decide +kernel
theorem dX6_divide_12 : decode cX6_divide 12 = .ok (.aaload, 1) := by decide +kernel
theorem dX6_divide_13 : decode cX6_divide 13 = .ok (.invokevirtual 206, 3) := by decide +kernel
theorem dX6_divide_16 : decode cX6_divide 16 = .ok (.invokestatic 57, 3) := by decide +kernel
theorem dX6_divide_19 : decode cX6_divide 19 = .ok (.iload_n 3, 1) := by decide +kernel
theorem dX6_divide_20 : decode cX6_divide 20 = .ok (.ifCond .ne 13, 3) := by decide +kernel
theorem dX6_divide_23 : decode cX6_divide 23 = .ok (.new 193, 3) := by decide +kernel
theorem dX6_divide_26 : decode cX6_divide 26 = .ok (.dup, 1) := by decide +kernel
theorem dX6_divide_27 : decode cX6_divide 27 = .ok (.ldc 214, 2) := by decide +kernel
theorem dX6_divide_29 : decode cX6_divide 29 = .ok (.invokespecial 197, 3) := by decide +kernel
theorem dX6_divide_32 : decode cX6_divide 32 = .ok (.athrow, 1) := by decide +kernel
theorem dX6_divide_33 : decode cX6_divide 33 = .ok (.iload_n 2, 1) := by decide +kernel
theorem dX6_divide_34 : decode cX6_divide 34 = .ok (.ifCond .lt 20, 3) := by decide +kernel

theorem dD_init_0 : decode mD_init.2.1 0 = .ok (.aload_n 0, 1) := by decide +kernel
theorem dD_init_1 : decode mD_init.2.1 1 = .ok (.invokespecial 1, 3) := by decide +kernel
theorem dD_init_4 : decode mD_init.2.1 4 = .ok (.aload_n 0, 1) := by decide +kernel
theorem dD_init_5 : decode mD_init.2.1 5 = .ok (.bipush 16, 2) := by decide +kernel
theorem dD_init_7 : decode mD_init.2.1 7 = .ok (.anewarray 9, 3) := by decide +kernel
theorem dD_init_10 : decode mD_init.2.1 10 = .ok (.putfield 11, 3) := by decide +kernel
theorem dD_init_13 : decode mD_init.2.1 13 = .ok (.iconst 0, 1) := by decide +kernel
theorem dD_init_14 : decode mD_init.2.1 14 = .ok (.istore_n 1, 1) := by decide +kernel
theorem dD_init_15 : decode mD_init.2.1 15 = .ok (.iload_n 1, 1) := by decide +kernel
theorem dD_init_16 : decode mD_init.2.1 16 = .ok (.bipush 16, 2) := by decide +kernel
theorem dD_init_18 : decode mD_init.2.1 18 = .ok (.if_icmp .ge 22, 3) := by decide +kernel
theorem dD_init_21 : decode mD_init.2.1 21 = .ok (.aload_n 0, 1) := by decide +kernel
theorem dD_init_22 : decode mD_init.2.1 22 = .ok (.getfield 11, 3) := by decide +kernel
theorem dD_init_25 : decode mD_init.2.1 25 = .ok (.iload_n 1, 1) := by decide +kernel
theorem dD_init_26 : decode mD_init.2.1 26 = .ok (.new 9, 3) := by decide +kernel
theorem dD_init_29 : decode mD_init.2.1 29 = .ok (.dup, 1) := by decide +kernel
theorem dD_init_30 : decode mD_init.2.1 30 = .ok (.invokespecial 15, 3) := by decide +kernel
theorem dD_init_33 : decode mD_init.2.1 33 = .ok (.aastore, 1) := by decide +kernel
theorem dD_init_34 : decode mD_init.2.1 34 = .ok (.iinc 1 1, 3) := by decide +kernel
theorem dD_init_37 : decode mD_init.2.1 37 = .ok (.goto (-22), 3) := by decide +kernel
theorem dD_init_40 : decode mD_init.2.1 40 = .ok (.aload_n 0, 1) := by decide +kernel
theorem dD_init_41 : decode mD_init.2.1 41 = .ok (.new 16, 3) := by decide +kernel
theorem dD_init_44 : decode mD_init.2.1 44 = .ok (.dup, 1) := by decide +kernel
theorem dD_init_45 : decode mD_init.2.1 45 = .ok (.invokespecial 18, 3) := by decide +kernel
theorem dD_init_48 : decode mD_init.2.1 48 = .ok (.putfield 19, 3) := by decide +kernel
theorem dD_init_51 : decode mD_init.2.1 51 = .ok (.aload_n 0, 1) := by decide +kernel
theorem dD_init_52 : decode mD_init.2.1 52 = .ok (.iconst 0, 1) := by decide +kernel
theorem dD_init_53 : decode mD_init.2.1 53 = .ok (.putfield 23, 3) := by decide +kernel
theorem dD_init_56 : decode mD_init.2.1 56 = .ok (.return_, 1) := by decide +kernel
theorem dD_begin_0 : decode mD_begin.2.1 0 = .ok (.iload_n 1, 1) := by decide +kernel
theorem dD_begin_1 : decode mD_begin.2.1 1 = .ok (.ifCond .eq 16, 3) := by decide +kernel
theorem dD_begin_4 : decode mD_begin.2.1 4 = .ok (.iload_n 1, 1) := by decide +kernel
theorem dD_begin_5 : decode mD_begin.2.1 5 = .ok (.iconst 1, 1) := by decide +kernel
theorem dD_begin_6 : decode mD_begin.2.1 6 = .ok (.if_icmp .eq 11, 3) := by decide +kernel
theorem dD_begin_9 : decode mD_begin.2.1 9 = .ok (.new 27, 3) := by decide +kernel
theorem dD_begin_12 : decode mD_begin.2.1 12 = .ok (.dup, 1) := by decide +kernel
theorem dD_begin_13 : decode mD_begin.2.1 13 = .ok (.invokespecial 29, 3) := by decide +kernel
theorem dD_begin_16 : decode mD_begin.2.1 16 = .ok (.athrow, 1) := by decide +kernel
theorem dD_begin_17 : decode mD_begin.2.1 17 = .ok (.aload_n 0, 1) := by decide +kernel
theorem dD_begin_18 : decode mD_begin.2.1 18 = .ok (.invokevirtual 30, 3) := by decide +kernel
theorem dD_begin_21 : decode mD_begin.2.1 21 = .ok (.istore_n 2, 1) := by decide +kernel
theorem dD_begin_22 : decode mD_begin.2.1 22 = .ok (.iload_n 2, 1) := by decide +kernel
theorem dD_begin_23 : decode mD_begin.2.1 23 = .ok (.bipush 16, 2) := by decide +kernel
theorem dD_begin_25 : decode mD_begin.2.1 25 = .ok (.if_icmp .lt 11, 3) := by decide +kernel
theorem dD_begin_28 : decode mD_begin.2.1 28 = .ok (.new 34, 3) := by decide +kernel
theorem dD_begin_31 : decode mD_begin.2.1 31 = .ok (.dup, 1) := by decide +kernel
theorem dD_begin_32 : decode mD_begin.2.1 32 = .ok (.invokespecial 36, 3) := by decide +kernel
theorem dD_begin_35 : decode mD_begin.2.1 35 = .ok (.athrow, 1) := by decide +kernel
theorem dD_begin_36 : decode mD_begin.2.1 36 = .ok (.aload_n 0, 1) := by decide +kernel
theorem dD_begin_37 : decode mD_begin.2.1 37 = .ok (.getfield 11, 3) := by decide +kernel
theorem dD_begin_40 : decode mD_begin.2.1 40 = .ok (.iload_n 2, 1) := by decide +kernel
theorem dD_begin_41 : decode mD_begin.2.1 41 = .ok (.aaload, 1) := by decide +kernel
theorem dD_begin_42 : decode mD_begin.2.1 42 = .ok (.aload_n 0, 1) := by decide +kernel
theorem dD_begin_43 : decode mD_begin.2.1 43 = .ok (.getfield 23, 3) := by decide +kernel
theorem dD_begin_46 : decode mD_begin.2.1 46 = .ok (.iload_n 1, 1) := by decide +kernel
theorem dD_begin_47 : decode mD_begin.2.1 47 = .ok (.invokevirtual 37, 3) := by decide +kernel
theorem dD_begin_50 : decode mD_begin.2.1 50 = .ok (.iload_n 2, 1) := by decide +kernel
theorem dD_begin_51 : decode mD_begin.2.1 51 = .ok (.ireturn, 1) := by decide +kernel
theorem dD_read_0 : decode mD_read.2.1 0 = .ok (.aload_n 0, 1) := by decide +kernel
theorem dD_read_1 : decode mD_read.2.1 1 = .ok (.iload_n 1, 1) := by decide +kernel
theorem dD_read_2 : decode mD_read.2.1 2 = .ok (.invokevirtual 41, 3) := by decide +kernel
theorem dD_read_5 : decode mD_read.2.1 5 = .ok (.astore_n 3, 1) := by decide +kernel
theorem dD_read_6 : decode mD_read.2.1 6 = .ok (.iload_n 2, 1) := by decide +kernel
theorem dD_read_7 : decode mD_read.2.1 7 = .ok (.invokestatic 45, 3) := by decide +kernel
theorem dD_read_10 : decode mD_read.2.1 10 = .ok (.aload_n 3, 1) := by decide +kernel
theorem dD_read_11 : decode mD_read.2.1 11 = .ok (.iload_n 2, 1) := by decide +kernel
theorem dD_read_12 : decode mD_read.2.1 12 = .ok (.invokevirtual 49, 3) := by decide +kernel
theorem dD_read_15 : decode mD_read.2.1 15 = .ok (.ifCond .ge 8, 3) := by decide +kernel
theorem dD_read_18 : decode mD_read.2.1 18 = .ok (.aload_n 3, 1) := by decide +kernel
theorem dD_read_19 : decode mD_read.2.1 19 = .ok (.iload_n 2, 1) := by decide +kernel
theorem dD_read_20 : decode mD_read.2.1 20 = .ok (.invokevirtual 53, 3) := by decide +kernel
theorem dD_read_23 : decode mD_read.2.1 23 = .ok (.aload_n 0, 1) := by decide +kernel
theorem dD_read_24 : decode mD_read.2.1 24 = .ok (.aload_n 3, 1) := by decide +kernel
theorem dD_read_25 : decode mD_read.2.1 25 = .ok (.iload_n 2, 1) := by decide +kernel
theorem dD_read_26 : decode mD_read.2.1 26 = .ok (.invokevirtual 56, 3) := by decide +kernel
theorem dD_read_29 : decode mD_read.2.1 29 = .ok (.lreturn, 1) := by decide +kernel
theorem dD_write_0 : decode mD_write.2.1 0 = .ok (.aload_n 0, 1) := by decide +kernel
theorem dD_write_1 : decode mD_write.2.1 1 = .ok (.iload_n 1, 1) := by decide +kernel
theorem dD_write_2 : decode mD_write.2.1 2 = .ok (.invokevirtual 41, 3) := by decide +kernel
theorem dD_write_5 : decode mD_write.2.1 5 = .ok (.astore 5, 2) := by decide +kernel
theorem dD_write_7 : decode mD_write.2.1 7 = .ok (.iload_n 2, 1) := by decide +kernel
theorem dD_write_8 : decode mD_write.2.1 8 = .ok (.invokestatic 45, 3) := by decide +kernel
theorem dD_write_11 : decode mD_write.2.1 11 = .ok (.aload_n 0, 1) := by decide +kernel
theorem dD_write_12 : decode mD_write.2.1 12 = .ok (.aload 5, 2) := by decide +kernel
theorem dD_write_14 : decode mD_write.2.1 14 = .ok (.iload_n 2, 1) := by decide +kernel
theorem dD_write_15 : decode mD_write.2.1 15 = .ok (.invokevirtual 56, 3) := by decide +kernel
theorem dD_write_18 : decode mD_write.2.1 18 = .ok (.lstore 6, 2) := by decide +kernel
theorem dD_write_20 : decode mD_write.2.1 20 = .ok (.aload 5, 2) := by decide +kernel
theorem dD_write_22 : decode mD_write.2.1 22 = .ok (.iload_n 2, 1) := by decide +kernel
theorem dD_write_23 : decode mD_write.2.1 23 = .ok (.lload_n 3, 1) := by decide +kernel
theorem dD_write_24 : decode mD_write.2.1 24 = .ok (.invokevirtual 60, 3) := by decide +kernel
theorem dD_write_27 : decode mD_write.2.1 27 = .ok (.lload 6, 2) := by decide +kernel
theorem dD_write_29 : decode mD_write.2.1 29 = .ok (.lreturn, 1) := by decide +kernel
theorem dD_push_0 : decode mD_push.2.1 0 = .ok (.aload_n 0, 1) := by decide +kernel
theorem dD_push_1 : decode mD_push.2.1 1 = .ok (.iload_n 1, 1) := by decide +kernel
theorem dD_push_2 : decode mD_push.2.1 2 = .ok (.invokevirtual 41, 3) := by decide +kernel
theorem dD_push_5 : decode mD_push.2.1 5 = .ok (.astore_n 2, 1) := by decide +kernel
theorem dD_push_6 : decode mD_push.2.1 6 = .ok (.aload_n 2, 1) := by decide +kernel
theorem dD_push_7 : decode mD_push.2.1 7 = .ok (.invokevirtual 64, 3) := by decide +kernel
theorem dD_push_10 : decode mD_push.2.1 10 = .ok (.bipush 8, 2) := by decide +kernel
theorem dD_push_12 : decode mD_push.2.1 12 = .ok (.if_icmp .lt 11, 3) := by decide +kernel
theorem dD_push_15 : decode mD_push.2.1 15 = .ok (.new 34, 3) := by decide +kernel
theorem dD_push_18 : decode mD_push.2.1 18 = .ok (.dup, 1) := by decide +kernel
theorem dD_push_19 : decode mD_push.2.1 19 = .ok (.invokespecial 36, 3) := by decide +kernel
theorem dD_push_22 : decode mD_push.2.1 22 = .ok (.athrow, 1) := by decide +kernel
theorem dD_push_23 : decode mD_push.2.1 23 = .ok (.aload_n 2, 1) := by decide +kernel
theorem dD_push_24 : decode mD_push.2.1 24 = .ok (.invokevirtual 67, 3) := by decide +kernel
theorem dD_push_27 : decode mD_push.2.1 27 = .ok (.aload_n 2, 1) := by decide +kernel
theorem dD_push_28 : decode mD_push.2.1 28 = .ok (.invokevirtual 64, 3) := by decide +kernel
theorem dD_push_31 : decode mD_push.2.1 31 = .ok (.ireturn, 1) := by decide +kernel
theorem dD_pop_0 : decode mD_pop.2.1 0 = .ok (.aload_n 0, 1) := by decide +kernel
theorem dD_pop_1 : decode mD_pop.2.1 1 = .ok (.iload_n 1, 1) := by decide +kernel
theorem dD_pop_2 : decode mD_pop.2.1 2 = .ok (.invokevirtual 41, 3) := by decide +kernel
theorem dD_pop_5 : decode mD_pop.2.1 5 = .ok (.astore_n 3, 1) := by decide +kernel
theorem dD_pop_6 : decode mD_pop.2.1 6 = .ok (.aload_n 3, 1) := by decide +kernel
theorem dD_pop_7 : decode mD_pop.2.1 7 = .ok (.invokevirtual 64, 3) := by decide +kernel
theorem dD_pop_10 : decode mD_pop.2.1 10 = .ok (.iconst 1, 1) := by decide +kernel
theorem dD_pop_11 : decode mD_pop.2.1 11 = .ok (.if_icmp .gt 11, 3) := by decide +kernel
theorem dD_pop_14 : decode mD_pop.2.1 14 = .ok (.new 34, 3) := by decide +kernel
theorem dD_pop_17 : decode mD_pop.2.1 17 = .ok (.dup, 1) := by decide +kernel
theorem dD_pop_18 : decode mD_pop.2.1 18 = .ok (.invokespecial 36, 3) := by decide +kernel
theorem dD_pop_21 : decode mD_pop.2.1 21 = .ok (.athrow, 1) := by decide +kernel
theorem dD_pop_22 : decode mD_pop.2.1 22 = .ok (.iload_n 2, 1) := by decide +kernel
theorem dD_pop_23 : decode mD_pop.2.1 23 = .ok (.ifCond .eq 7, 3) := by decide +kernel
theorem dD_pop_26 : decode mD_pop.2.1 26 = .ok (.aload_n 3, 1) := by decide +kernel
theorem dD_pop_27 : decode mD_pop.2.1 27 = .ok (.invokevirtual 70, 3) := by decide +kernel
theorem dD_pop_30 : decode mD_pop.2.1 30 = .ok (.aload_n 3, 1) := by decide +kernel
theorem dD_pop_31 : decode mD_pop.2.1 31 = .ok (.invokevirtual 73, 3) := by decide +kernel
theorem dD_pop_34 : decode mD_pop.2.1 34 = .ok (.aload_n 3, 1) := by decide +kernel
theorem dD_pop_35 : decode mD_pop.2.1 35 = .ok (.invokevirtual 64, 3) := by decide +kernel
theorem dD_pop_38 : decode mD_pop.2.1 38 = .ok (.ireturn, 1) := by decide +kernel
theorem dD_commit_0 : decode mD_commit.2.1 0 = .ok (.aload_n 0, 1) := by decide +kernel
theorem dD_commit_1 : decode mD_commit.2.1 1 = .ok (.iload_n 1, 1) := by decide +kernel
theorem dD_commit_2 : decode mD_commit.2.1 2 = .ok (.invokevirtual 41, 3) := by decide +kernel
theorem dD_commit_5 : decode mD_commit.2.1 5 = .ok (.astore_n 2, 1) := by decide +kernel
theorem dD_commit_6 : decode mD_commit.2.1 6 = .ok (.aload_n 0, 1) := by decide +kernel
theorem dD_commit_7 : decode mD_commit.2.1 7 = .ok (.aload_n 2, 1) := by decide +kernel
theorem dD_commit_8 : decode mD_commit.2.1 8 = .ok (.invokevirtual 76, 3) := by decide +kernel
theorem dD_commit_11 : decode mD_commit.2.1 11 = .ok (.ifCond .eq 9, 3) := by decide +kernel
theorem dD_commit_14 : decode mD_commit.2.1 14 = .ok (.aload_n 2, 1) := by decide +kernel
theorem dD_commit_15 : decode mD_commit.2.1 15 = .ok (.invokevirtual 80, 3) := by decide +kernel
theorem dD_commit_18 : decode mD_commit.2.1 18 = .ok (.iconst (-1), 1) := by decide +kernel
theorem dD_commit_19 : decode mD_commit.2.1 19 = .ok (.ireturn, 1) := by decide +kernel
theorem dD_commit_20 : decode mD_commit.2.1 20 = .ok (.aload_n 2, 1) := by decide +kernel
theorem dD_commit_21 : decode mD_commit.2.1 21 = .ok (.invokevirtual 83, 3) := by decide +kernel
theorem dD_commit_24 : decode mD_commit.2.1 24 = .ok (.istore_n 3, 1) := by decide +kernel
theorem dD_commit_25 : decode mD_commit.2.1 25 = .ok (.aload_n 0, 1) := by decide +kernel
theorem dD_commit_26 : decode mD_commit.2.1 26 = .ok (.getfield 19, 3) := by decide +kernel
theorem dD_commit_29 : decode mD_commit.2.1 29 = .ok (.iload_n 3, 1) := by decide +kernel
theorem dD_commit_30 : decode mD_commit.2.1 30 = .ok (.invokestatic 86, 3) := by decide +kernel
theorem dD_commit_33 : decode mD_commit.2.1 33 = .ok (.invokevirtual 91, 3) := by decide +kernel
theorem dD_commit_36 : decode mD_commit.2.1 36 = .ok (.ifCond .ne 11, 3) := by decide +kernel
theorem dD_commit_39 : decode mD_commit.2.1 39 = .ok (.new 34, 3) := by decide +kernel
theorem dD_commit_42 : decode mD_commit.2.1 42 = .ok (.dup, 1) := by decide +kernel
theorem dD_commit_43 : decode mD_commit.2.1 43 = .ok (.invokespecial 36, 3) := by decide +kernel
theorem dD_commit_46 : decode mD_commit.2.1 46 = .ok (.athrow, 1) := by decide +kernel
theorem dD_commit_47 : decode mD_commit.2.1 47 = .ok (.iload_n 3, 1) := by decide +kernel
theorem dD_commit_48 : decode mD_commit.2.1 48 = .ok (.ifCond .eq 19, 3) := by decide +kernel
theorem dD_commit_51 : decode mD_commit.2.1 51 = .ok (.aload_n 0, 1) := by decide +kernel
theorem dD_commit_52 : decode mD_commit.2.1 52 = .ok (.dup, 1) := by decide +kernel
theorem dD_commit_53 : decode mD_commit.2.1 53 = .ok (.getfield 23, 3) := by decide +kernel
theorem dD_commit_56 : decode mD_commit.2.1 56 = .ok (.iconst 1, 1) := by decide +kernel
theorem dD_commit_57 : decode mD_commit.2.1 57 = .ok (.iadd, 1) := by decide +kernel
theorem dD_commit_58 : decode mD_commit.2.1 58 = .ok (.putfield 23, 3) := by decide +kernel
theorem dD_commit_61 : decode mD_commit.2.1 61 = .ok (.aload_n 0, 1) := by decide +kernel
theorem dD_commit_62 : decode mD_commit.2.1 62 = .ok (.aload_n 2, 1) := by decide +kernel
theorem dD_commit_63 : decode mD_commit.2.1 63 = .ok (.iload_n 3, 1) := by decide +kernel
theorem dD_commit_64 : decode mD_commit.2.1 64 = .ok (.invokevirtual 95, 3) := by decide +kernel
theorem dD_commit_67 : decode mD_commit.2.1 67 = .ok (.aload_n 2, 1) := by decide +kernel
theorem dD_commit_68 : decode mD_commit.2.1 68 = .ok (.invokevirtual 80, 3) := by decide +kernel
theorem dD_commit_71 : decode mD_commit.2.1 71 = .ok (.aload_n 0, 1) := by decide +kernel
theorem dD_commit_72 : decode mD_commit.2.1 72 = .ok (.getfield 23, 3) := by decide +kernel
theorem dD_commit_75 : decode mD_commit.2.1 75 = .ok (.ireturn, 1) := by decide +kernel
theorem dD_drop_0 : decode mD_drop.2.1 0 = .ok (.aload_n 0, 1) := by decide +kernel
theorem dD_drop_1 : decode mD_drop.2.1 1 = .ok (.iload_n 1, 1) := by decide +kernel
theorem dD_drop_2 : decode mD_drop.2.1 2 = .ok (.invokevirtual 41, 3) := by decide +kernel
theorem dD_drop_5 : decode mD_drop.2.1 5 = .ok (.astore_n 2, 1) := by decide +kernel
theorem dD_drop_6 : decode mD_drop.2.1 6 = .ok (.aload_n 2, 1) := by decide +kernel
theorem dD_drop_7 : decode mD_drop.2.1 7 = .ok (.invokevirtual 80, 3) := by decide +kernel
theorem dD_drop_10 : decode mD_drop.2.1 10 = .ok (.aload_n 2, 1) := by decide +kernel
theorem dD_drop_11 : decode mD_drop.2.1 11 = .ok (.invokevirtual 83, 3) := by decide +kernel
theorem dD_drop_14 : decode mD_drop.2.1 14 = .ok (.invokestatic 86, 3) := by decide +kernel
theorem dD_drop_17 : decode mD_drop.2.1 17 = .ok (.ireturn, 1) := by decide +kernel
theorem dD_spoiled_0 : decode mD_spoiled.2.1 0 = .ok (.aload_n 0, 1) := by decide +kernel
theorem dD_spoiled_1 : decode mD_spoiled.2.1 1 = .ok (.aload_n 0, 1) := by decide +kernel
theorem dD_spoiled_2 : decode mD_spoiled.2.1 2 = .ok (.iload_n 1, 1) := by decide +kernel
theorem dD_spoiled_3 : decode mD_spoiled.2.1 3 = .ok (.invokevirtual 41, 3) := by decide +kernel
theorem dD_spoiled_6 : decode mD_spoiled.2.1 6 = .ok (.invokevirtual 76, 3) := by decide +kernel
theorem dD_spoiled_9 : decode mD_spoiled.2.1 9 = .ok (.ifCond .eq 7, 3) := by decide +kernel
theorem dD_spoiled_12 : decode mD_spoiled.2.1 12 = .ok (.iconst 1, 1) := by decide +kernel
theorem dD_spoiled_13 : decode mD_spoiled.2.1 13 = .ok (.goto 4, 3) := by decide +kernel
theorem dD_spoiled_16 : decode mD_spoiled.2.1 16 = .ok (.iconst 0, 1) := by decide +kernel
theorem dD_spoiled_17 : decode mD_spoiled.2.1 17 = .ok (.ireturn, 1) := by decide +kernel
theorem dD_meets_0 : decode mD_meets.2.1 0 = .ok (.aload_n 0, 1) := by decide +kernel
theorem dD_meets_1 : decode mD_meets.2.1 1 = .ok (.iload_n 1, 1) := by decide +kernel
theorem dD_meets_2 : decode mD_meets.2.1 2 = .ok (.invokevirtual 41, 3) := by decide +kernel
theorem dD_meets_5 : decode mD_meets.2.1 5 = .ok (.astore_n 3, 1) := by decide +kernel
theorem dD_meets_6 : decode mD_meets.2.1 6 = .ok (.aload_n 0, 1) := by decide +kernel
theorem dD_meets_7 : decode mD_meets.2.1 7 = .ok (.iload_n 2, 1) := by decide +kernel
theorem dD_meets_8 : decode mD_meets.2.1 8 = .ok (.invokevirtual 41, 3) := by decide +kernel
theorem dD_meets_11 : decode mD_meets.2.1 11 = .ok (.astore 4, 2) := by decide +kernel
theorem dD_meets_13 : decode mD_meets.2.1 13 = .ok (.iload_n 1, 1) := by decide +kernel
theorem dD_meets_14 : decode mD_meets.2.1 14 = .ok (.iload_n 2, 1) := by decide +kernel
theorem dD_meets_15 : decode mD_meets.2.1 15 = .ok (.if_icmp .ne 5, 3) := by decide +kernel
theorem dD_meets_18 : decode mD_meets.2.1 18 = .ok (.iconst 0, 1) := by decide +kernel
theorem dD_meets_19 : decode mD_meets.2.1 19 = .ok (.ireturn, 1) := by decide +kernel
theorem dD_meets_20 : decode mD_meets.2.1 20 = .ok (.aload_n 3, 1) := by decide +kernel
theorem dD_meets_21 : decode mD_meets.2.1 21 = .ok (.invokevirtual 83, 3) := by decide +kernel
theorem dD_meets_24 : decode mD_meets.2.1 24 = .ok (.aload 4, 2) := by decide +kernel
theorem dD_meets_26 : decode mD_meets.2.1 26 = .ok (.invokevirtual 99, 3) := by decide +kernel
theorem dD_meets_29 : decode mD_meets.2.1 29 = .ok (.iand, 1) := by decide +kernel
theorem dD_meets_30 : decode mD_meets.2.1 30 = .ok (.istore 5, 2) := by decide +kernel
theorem dD_meets_32 : decode mD_meets.2.1 32 = .ok (.iload 5, 2) := by decide +kernel
theorem dD_meets_34 : decode mD_meets.2.1 34 = .ok (.aload_n 0, 1) := by decide +kernel
theorem dD_meets_35 : decode mD_meets.2.1 35 = .ok (.aload 4, 2) := by decide +kernel
theorem dD_meets_37 : decode mD_meets.2.1 37 = .ok (.invokevirtual 76, 3) := by decide +kernel
theorem dD_meets_40 : decode mD_meets.2.1 40 = .ok (.iconst (-1), 1) := by decide +kernel
theorem dD_meets_41 : decode mD_meets.2.1 41 = .ok (.ixor, 1) := by decide +kernel
theorem dD_meets_42 : decode mD_meets.2.1 42 = .ok (.iand, 1) := by decide +kernel
theorem dD_meets_43 : decode mD_meets.2.1 43 = .ok (.ifCond .eq 7, 3) := by decide +kernel
theorem dD_meets_46 : decode mD_meets.2.1 46 = .ok (.iconst 1, 1) := by decide +kernel
theorem dD_meets_47 : decode mD_meets.2.1 47 = .ok (.goto 4, 3) := by decide +kernel
theorem dD_meets_50 : decode mD_meets.2.1 50 = .ok (.iconst 0, 1) := by decide +kernel
theorem dD_meets_51 : decode mD_meets.2.1 51 = .ok (.ireturn, 1) := by decide +kernel
theorem dD_past_0 : decode mD_past.2.1 0 = .ok (.iload_n 1, 1) := by decide +kernel
theorem dD_past_1 : decode mD_past.2.1 1 = .ok (.invokestatic 45, 3) := by decide +kernel
theorem dD_past_4 : decode mD_past.2.1 4 = .ok (.iload_n 2, 1) := by decide +kernel
theorem dD_past_5 : decode mD_past.2.1 5 = .ok (.ifCond .lt 23, 3) := by decide +kernel
theorem dD_past_8 : decode mD_past.2.1 8 = .ok (.iload_n 2, 1) := by decide +kernel
theorem dD_past_9 : decode mD_past.2.1 9 = .ok (.aload_n 0, 1) := by decide +kernel
theorem dD_past_10 : decode mD_past.2.1 10 = .ok (.getfield 23, 3) := by decide +kernel
theorem dD_past_13 : decode mD_past.2.1 13 = .ok (.if_icmp .gt 15, 3) := by decide +kernel
theorem dD_past_16 : decode mD_past.2.1 16 = .ok (.aload_n 0, 1) := by decide +kernel
theorem dD_past_17 : decode mD_past.2.1 17 = .ok (.getfield 19, 3) := by decide +kernel
theorem dD_past_20 : decode mD_past.2.1 20 = .ok (.iload_n 1, 1) := by decide +kernel
theorem dD_past_21 : decode mD_past.2.1 21 = .ok (.iload_n 2, 1) := by decide +kernel
theorem dD_past_22 : decode mD_past.2.1 22 = .ok (.invokevirtual 102, 3) := by decide +kernel
theorem dD_past_25 : decode mD_past.2.1 25 = .ok (.ifCond .ne 11, 3) := by decide +kernel
theorem dD_past_28 : decode mD_past.2.1 28 = .ok (.new 106, 3) := by decide +kernel
theorem dD_past_31 : decode mD_past.2.1 31 = .ok (.dup, 1) := by decide +kernel
theorem dD_past_32 : decode mD_past.2.1 32 = .ok (.invokespecial 108, 3) := by decide +kernel
theorem dD_past_35 : decode mD_past.2.1 35 = .ok (.athrow, 1) := by decide +kernel
theorem dD_past_36 : decode mD_past.2.1 36 = .ok (.aload_n 0, 1) := by decide +kernel
theorem dD_past_37 : decode mD_past.2.1 37 = .ok (.getfield 19, 3) := by decide +kernel
theorem dD_past_40 : decode mD_past.2.1 40 = .ok (.iload_n 1, 1) := by decide +kernel
theorem dD_past_41 : decode mD_past.2.1 41 = .ok (.iload_n 2, 1) := by decide +kernel
theorem dD_past_42 : decode mD_past.2.1 42 = .ok (.invokevirtual 109, 3) := by decide +kernel
theorem dD_past_45 : decode mD_past.2.1 45 = .ok (.lreturn, 1) := by decide +kernel
theorem dD_forget_0 : decode mD_forget.2.1 0 = .ok (.aload_n 0, 1) := by decide +kernel
theorem dD_forget_1 : decode mD_forget.2.1 1 = .ok (.getfield 19, 3) := by decide +kernel
theorem dD_forget_4 : decode mD_forget.2.1 4 = .ok (.aload_n 0, 1) := by decide +kernel
theorem dD_forget_5 : decode mD_forget.2.1 5 = .ok (.invokevirtual 113, 3) := by decide +kernel
theorem dD_forget_8 : decode mD_forget.2.1 8 = .ok (.invokevirtual 116, 3) := by decide +kernel
theorem dD_forget_11 : decode mD_forget.2.1 11 = .ok (.ireturn, 1) := by decide +kernel
theorem dD_about_0 : decode mD_about.2.1 0 = .ok (.aload_n 0, 1) := by decide +kernel
theorem dD_about_1 : decode mD_about.2.1 1 = .ok (.iload_n 1, 1) := by decide +kernel
theorem dD_about_2 : decode mD_about.2.1 2 = .ok (.invokevirtual 41, 3) := by decide +kernel
theorem dD_about_5 : decode mD_about.2.1 5 = .ok (.astore_n 3, 1) := by decide +kernel
theorem dD_about_6 : decode mD_about.2.1 6 = .ok (.iload_n 2, 1) := by decide +kernel
theorem dD_about_7 : decode mD_about.2.1 7 = .ok (.tableswitch 77 0 5 #[37, 42, 47, 52, 60, 68], 37) := by decide +kernel
theorem dD_about_44 : decode mD_about.2.1 44 = .ok (.aload_n 3, 1) := by decide +kernel
theorem dD_about_45 : decode mD_about.2.1 45 = .ok (.invokevirtual 119, 3) := by decide +kernel
theorem dD_about_48 : decode mD_about.2.1 48 = .ok (.ireturn, 1) := by decide +kernel
theorem dD_about_49 : decode mD_about.2.1 49 = .ok (.aload_n 3, 1) := by decide +kernel
theorem dD_about_50 : decode mD_about.2.1 50 = .ok (.invokevirtual 122, 3) := by decide +kernel
theorem dD_about_53 : decode mD_about.2.1 53 = .ok (.ireturn, 1) := by decide +kernel
theorem dD_about_54 : decode mD_about.2.1 54 = .ok (.aload_n 3, 1) := by decide +kernel
theorem dD_about_55 : decode mD_about.2.1 55 = .ok (.invokevirtual 64, 3) := by decide +kernel
theorem dD_about_58 : decode mD_about.2.1 58 = .ok (.ireturn, 1) := by decide +kernel
theorem dD_about_59 : decode mD_about.2.1 59 = .ok (.aload_n 3, 1) := by decide +kernel
theorem dD_about_60 : decode mD_about.2.1 60 = .ok (.invokevirtual 83, 3) := by decide +kernel
theorem dD_about_63 : decode mD_about.2.1 63 = .ok (.invokestatic 86, 3) := by decide +kernel
theorem dD_about_66 : decode mD_about.2.1 66 = .ok (.ireturn, 1) := by decide +kernel
theorem dD_about_67 : decode mD_about.2.1 67 = .ok (.aload_n 3, 1) := by decide +kernel
theorem dD_about_68 : decode mD_about.2.1 68 = .ok (.invokevirtual 125, 3) := by decide +kernel
theorem dD_about_71 : decode mD_about.2.1 71 = .ok (.invokestatic 86, 3) := by decide +kernel
theorem dD_about_74 : decode mD_about.2.1 74 = .ok (.ireturn, 1) := by decide +kernel
theorem dD_about_75 : decode mD_about.2.1 75 = .ok (.aload_n 0, 1) := by decide +kernel
theorem dD_about_76 : decode mD_about.2.1 76 = .ok (.aload_n 3, 1) := by decide +kernel
theorem dD_about_77 : decode mD_about.2.1 77 = .ok (.invokevirtual 76, 3) := by decide +kernel
theorem dD_about_80 : decode mD_about.2.1 80 = .ok (.invokestatic 86, 3) := by decide +kernel
theorem dD_about_83 : decode mD_about.2.1 83 = .ok (.ireturn, 1) := by decide +kernel
theorem dD_about_84 : decode mD_about.2.1 84 = .ok (.new 27, 3) := by decide +kernel
theorem dD_about_87 : decode mD_about.2.1 87 = .ok (.dup, 1) := by decide +kernel
theorem dD_about_88 : decode mD_about.2.1 88 = .ok (.invokespecial 29, 3) := by decide +kernel
theorem dD_about_91 : decode mD_about.2.1 91 = .ok (.athrow, 1) := by decide +kernel
theorem dD_count_0 : decode mD_count.2.1 0 = .ok (.iload_n 1, 1) := by decide +kernel
theorem dD_count_1 : decode mD_count.2.1 1 = .ok (.tableswitch 54 0 3 #[31, 36, 41, 49], 31) := by decide +kernel
theorem dD_count_32 : decode mD_count.2.1 32 = .ok (.aload_n 0, 1) := by decide +kernel
theorem dD_count_33 : decode mD_count.2.1 33 = .ok (.getfield 23, 3) := by decide +kernel
theorem dD_count_36 : decode mD_count.2.1 36 = .ok (.ireturn, 1) := by decide +kernel
theorem dD_count_37 : decode mD_count.2.1 37 = .ok (.aload_n 0, 1) := by decide +kernel
theorem dD_count_38 : decode mD_count.2.1 38 = .ok (.invokevirtual 128, 3) := by decide +kernel
theorem dD_count_41 : decode mD_count.2.1 41 = .ok (.ireturn, 1) := by decide +kernel
theorem dD_count_42 : decode mD_count.2.1 42 = .ok (.aload_n 0, 1) := by decide +kernel
theorem dD_count_43 : decode mD_count.2.1 43 = .ok (.getfield 19, 3) := by decide +kernel
theorem dD_count_46 : decode mD_count.2.1 46 = .ok (.invokevirtual 131, 3) := by decide +kernel
theorem dD_count_49 : decode mD_count.2.1 49 = .ok (.ireturn, 1) := by decide +kernel
theorem dD_count_50 : decode mD_count.2.1 50 = .ok (.aload_n 0, 1) := by decide +kernel
theorem dD_count_51 : decode mD_count.2.1 51 = .ok (.invokevirtual 113, 3) := by decide +kernel
theorem dD_count_54 : decode mD_count.2.1 54 = .ok (.ireturn, 1) := by decide +kernel
theorem dD_count_55 : decode mD_count.2.1 55 = .ok (.iconst (-1), 1) := by decide +kernel
theorem dD_count_56 : decode mD_count.2.1 56 = .ok (.ireturn, 1) := by decide +kernel
theorem dD_openOne_0 : decode mD_openOne.2.1 0 = .ok (.iload_n 1, 1) := by decide +kernel
theorem dD_openOne_1 : decode mD_openOne.2.1 1 = .ok (.ifCond .lt 21, 3) := by decide +kernel
theorem dD_openOne_4 : decode mD_openOne.2.1 4 = .ok (.iload_n 1, 1) := by decide +kernel
theorem dD_openOne_5 : decode mD_openOne.2.1 5 = .ok (.bipush 16, 2) := by decide +kernel
theorem dD_openOne_7 : decode mD_openOne.2.1 7 = .ok (.if_icmp .ge 15, 3) := by decide +kernel
theorem dD_openOne_10 : decode mD_openOne.2.1 10 = .ok (.aload_n 0, 1) := by decide +kernel
theorem dD_openOne_11 : decode mD_openOne.2.1 11 = .ok (.getfield 11, 3) := by decide +kernel
theorem dD_openOne_14 : decode mD_openOne.2.1 14 = .ok (.iload_n 1, 1) := by decide +kernel
theorem dD_openOne_15 : decode mD_openOne.2.1 15 = .ok (.aaload, 1) := by decide +kernel
theorem dD_openOne_16 : decode mD_openOne.2.1 16 = .ok (.invokevirtual 134, 3) := by decide +kernel
theorem dD_openOne_19 : decode mD_openOne.2.1 19 = .ok (.ifCond .ne 11, 3) := by decide +kernel
theorem dD_openOne_22 : decode mD_openOne.2.1 22 = .ok (.new 106, 3) := by decide +kernel
theorem dD_openOne_25 : decode mD_openOne.2.1 25 = .ok (.dup, 1) := by decide +kernel
theorem dD_openOne_26 : decode mD_openOne.2.1 26 = .ok (.invokespecial 108, 3) := by decide +kernel
theorem dD_openOne_29 : decode mD_openOne.2.1 29 = .ok (.athrow, 1) := by decide +kernel
theorem dD_openOne_30 : decode mD_openOne.2.1 30 = .ok (.aload_n 0, 1) := by decide +kernel
theorem dD_openOne_31 : decode mD_openOne.2.1 31 = .ok (.getfield 11, 3) := by decide +kernel
theorem dD_openOne_34 : decode mD_openOne.2.1 34 = .ok (.iload_n 1, 1) := by decide +kernel
theorem dD_openOne_35 : decode mD_openOne.2.1 35 = .ok (.aaload, 1) := by decide +kernel
theorem dD_openOne_36 : decode mD_openOne.2.1 36 = .ok (.areturn, 1) := by decide +kernel
theorem dD_requireCell_0 : decode mD_requireCell.2.1 0 = .ok (.iload_n 0, 1) := by decide +kernel
theorem dD_requireCell_1 : decode mD_requireCell.2.1 1 = .ok (.ifCond .lt 9, 3) := by decide +kernel
theorem dD_requireCell_4 : decode mD_requireCell.2.1 4 = .ok (.iload_n 0, 1) := by decide +kernel
theorem dD_requireCell_5 : decode mD_requireCell.2.1 5 = .ok (.bipush 16, 2) := by decide +kernel
theorem dD_requireCell_7 : decode mD_requireCell.2.1 7 = .ok (.if_icmp .lt 11, 3) := by decide +kernel
theorem dD_requireCell_10 : decode mD_requireCell.2.1 10 = .ok (.new 106, 3) := by decide +kernel
theorem dD_requireCell_13 : decode mD_requireCell.2.1 13 = .ok (.dup, 1) := by decide +kernel
theorem dD_requireCell_14 : decode mD_requireCell.2.1 14 = .ok (.invokespecial 108, 3) := by decide +kernel
theorem dD_requireCell_17 : decode mD_requireCell.2.1 17 = .ok (.athrow, 1) := by decide +kernel
theorem dD_requireCell_18 : decode mD_requireCell.2.1 18 = .ok (.return_, 1) := by decide +kernel
theorem dD_leastNotOpen_0 : decode mD_leastNotOpen.2.1 0 = .ok (.iconst 0, 1) := by decide +kernel
theorem dD_leastNotOpen_1 : decode mD_leastNotOpen.2.1 1 = .ok (.istore_n 1, 1) := by decide +kernel
theorem dD_leastNotOpen_2 : decode mD_leastNotOpen.2.1 2 = .ok (.iload_n 1, 1) := by decide +kernel
theorem dD_leastNotOpen_3 : decode mD_leastNotOpen.2.1 3 = .ok (.bipush 16, 2) := by decide +kernel
theorem dD_leastNotOpen_5 : decode mD_leastNotOpen.2.1 5 = .ok (.if_icmp .ge 21, 3) := by decide +kernel
theorem dD_leastNotOpen_8 : decode mD_leastNotOpen.2.1 8 = .ok (.aload_n 0, 1) := by decide +kernel
theorem dD_leastNotOpen_9 : decode mD_leastNotOpen.2.1 9 = .ok (.getfield 11, 3) := by decide +kernel
theorem dD_leastNotOpen_12 : decode mD_leastNotOpen.2.1 12 = .ok (.iload_n 1, 1) := by decide +kernel
theorem dD_leastNotOpen_13 : decode mD_leastNotOpen.2.1 13 = .ok (.aaload, 1) := by decide +kernel
theorem dD_leastNotOpen_14 : decode mD_leastNotOpen.2.1 14 = .ok (.invokevirtual 134, 3) := by decide +kernel
theorem dD_leastNotOpen_17 : decode mD_leastNotOpen.2.1 17 = .ok (.ifCond .eq 9, 3) := by decide +kernel
theorem dD_leastNotOpen_20 : decode mD_leastNotOpen.2.1 20 = .ok (.iinc 1 1, 3) := by decide +kernel
theorem dD_leastNotOpen_23 : decode mD_leastNotOpen.2.1 23 = .ok (.goto (-21), 3) := by decide +kernel
theorem dD_leastNotOpen_26 : decode mD_leastNotOpen.2.1 26 = .ok (.iload_n 1, 1) := by decide +kernel
theorem dD_leastNotOpen_27 : decode mD_leastNotOpen.2.1 27 = .ok (.ireturn, 1) := by decide +kernel
theorem dD_howManyOpen_0 : decode mD_howManyOpen.2.1 0 = .ok (.iconst 0, 1) := by decide +kernel
theorem dD_howManyOpen_1 : decode mD_howManyOpen.2.1 1 = .ok (.istore_n 1, 1) := by decide +kernel
theorem dD_howManyOpen_2 : decode mD_howManyOpen.2.1 2 = .ok (.iconst 0, 1) := by decide +kernel
theorem dD_howManyOpen_3 : decode mD_howManyOpen.2.1 3 = .ok (.istore_n 2, 1) := by decide +kernel
theorem dD_howManyOpen_4 : decode mD_howManyOpen.2.1 4 = .ok (.iload_n 2, 1) := by decide +kernel
theorem dD_howManyOpen_5 : decode mD_howManyOpen.2.1 5 = .ok (.bipush 16, 2) := by decide +kernel
theorem dD_howManyOpen_7 : decode mD_howManyOpen.2.1 7 = .ok (.if_icmp .ge 24, 3) := by decide +kernel
theorem dD_howManyOpen_10 : decode mD_howManyOpen.2.1 10 = .ok (.aload_n 0, 1) := by decide +kernel
theorem dD_howManyOpen_11 : decode mD_howManyOpen.2.1 11 = .ok (.getfield 11, 3) := by decide +kernel
theorem dD_howManyOpen_14 : decode mD_howManyOpen.2.1 14 = .ok (.iload_n 2, 1) := by decide +kernel
theorem dD_howManyOpen_15 : decode mD_howManyOpen.2.1 15 = .ok (.aaload, 1) := by decide +kernel
theorem dD_howManyOpen_16 : decode mD_howManyOpen.2.1 16 = .ok (.invokevirtual 134, 3) := by decide +kernel
theorem dD_howManyOpen_19 : decode mD_howManyOpen.2.1 19 = .ok (.ifCond .eq 6, 3) := by decide +kernel
theorem dD_howManyOpen_22 : decode mD_howManyOpen.2.1 22 = .ok (.iinc 1 1, 3) := by decide +kernel
theorem dD_howManyOpen_25 : decode mD_howManyOpen.2.1 25 = .ok (.iinc 2 1, 3) := by decide +kernel
theorem dD_howManyOpen_28 : decode mD_howManyOpen.2.1 28 = .ok (.goto (-24), 3) := by decide +kernel
theorem dD_howManyOpen_31 : decode mD_howManyOpen.2.1 31 = .ok (.iload_n 1, 1) := by decide +kernel
theorem dD_howManyOpen_32 : decode mD_howManyOpen.2.1 32 = .ok (.ireturn, 1) := by decide +kernel
theorem dD_floor_0 : decode mD_floor.2.1 0 = .ok (.aload_n 0, 1) := by decide +kernel
theorem dD_floor_1 : decode mD_floor.2.1 1 = .ok (.getfield 23, 3) := by decide +kernel
theorem dD_floor_4 : decode mD_floor.2.1 4 = .ok (.istore_n 1, 1) := by decide +kernel
theorem dD_floor_5 : decode mD_floor.2.1 5 = .ok (.iconst 0, 1) := by decide +kernel
theorem dD_floor_6 : decode mD_floor.2.1 6 = .ok (.istore_n 2, 1) := by decide +kernel
theorem dD_floor_7 : decode mD_floor.2.1 7 = .ok (.iload_n 2, 1) := by decide +kernel
theorem dD_floor_8 : decode mD_floor.2.1 8 = .ok (.bipush 16, 2) := by decide +kernel
theorem dD_floor_10 : decode mD_floor.2.1 10 = .ok (.if_icmp .ge 35, 3) := by decide +kernel
theorem dD_floor_13 : decode mD_floor.2.1 13 = .ok (.aload_n 0, 1) := by decide +kernel
theorem dD_floor_14 : decode mD_floor.2.1 14 = .ok (.getfield 11, 3) := by decide +kernel
theorem dD_floor_17 : decode mD_floor.2.1 17 = .ok (.iload_n 2, 1) := by decide +kernel
theorem dD_floor_18 : decode mD_floor.2.1 18 = .ok (.aaload, 1) := by decide +kernel
theorem dD_floor_19 : decode mD_floor.2.1 19 = .ok (.invokevirtual 134, 3) := by decide +kernel
theorem dD_floor_22 : decode mD_floor.2.1 22 = .ok (.ifCond .eq 17, 3) := by decide +kernel
theorem dD_floor_25 : decode mD_floor.2.1 25 = .ok (.iload_n 1, 1) := by decide +kernel
theorem dD_floor_26 : decode mD_floor.2.1 26 = .ok (.aload_n 0, 1) := by decide +kernel
theorem dD_floor_27 : decode mD_floor.2.1 27 = .ok (.getfield 11, 3) := by decide +kernel
theorem dD_floor_30 : decode mD_floor.2.1 30 = .ok (.iload_n 2, 1) := by decide +kernel
theorem dD_floor_31 : decode mD_floor.2.1 31 = .ok (.aaload, 1) := by decide +kernel
theorem dD_floor_32 : decode mD_floor.2.1 32 = .ok (.invokevirtual 119, 3) := by decide +kernel
theorem dD_floor_35 : decode mD_floor.2.1 35 = .ok (.invokestatic 138, 3) := by decide +kernel
theorem dD_floor_38 : decode mD_floor.2.1 38 = .ok (.istore_n 1, 1) := by decide +kernel
theorem dD_floor_39 : decode mD_floor.2.1 39 = .ok (.iinc 2 1, 3) := by decide +kernel
theorem dD_floor_42 : decode mD_floor.2.1 42 = .ok (.goto (-35), 3) := by decide +kernel
theorem dD_floor_45 : decode mD_floor.2.1 45 = .ok (.iload_n 1, 1) := by decide +kernel
theorem dD_floor_46 : decode mD_floor.2.1 46 = .ok (.ireturn, 1) := by decide +kernel
theorem dD_reading_0 : decode mD_reading.2.1 0 = .ok (.aload_n 1, 1) := by decide +kernel
theorem dD_reading_1 : decode mD_reading.2.1 1 = .ok (.iload_n 2, 1) := by decide +kernel
theorem dD_reading_2 : decode mD_reading.2.1 2 = .ok (.invokevirtual 49, 3) := by decide +kernel
theorem dD_reading_5 : decode mD_reading.2.1 5 = .ok (.istore_n 3, 1) := by decide +kernel
theorem dD_reading_6 : decode mD_reading.2.1 6 = .ok (.iload_n 3, 1) := by decide +kernel
theorem dD_reading_7 : decode mD_reading.2.1 7 = .ok (.ifCond .lt 10, 3) := by decide +kernel
theorem dD_reading_10 : decode mD_reading.2.1 10 = .ok (.aload_n 1, 1) := by decide +kernel
theorem dD_reading_11 : decode mD_reading.2.1 11 = .ok (.iload_n 3, 1) := by decide +kernel

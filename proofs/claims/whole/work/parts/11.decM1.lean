theorem dM_begin_135 : decode mM_begin.2.1 135 = .ok (.ireturn, 1) := by decide +kernel
theorem dM_read_0 : decode mM_read.2.1 0 = .ok (.aload_n 0, 1) := by decide +kernel
theorem dM_read_1 : decode mM_read.2.1 1 = .ok (.iload_n 1, 1) := by decide +kernel
theorem dM_read_2 : decode mM_read.2.1 2 = .ok (.iload_n 2, 1) := by decide +kernel
theorem dM_read_3 : decode mM_read.2.1 3 = .ok (.invokevirtual 84, 3) := by decide +kernel
theorem dM_read_6 : decode mM_read.2.1 6 = .ok (.ifCond .eq 5, 3) := by decide +kernel
theorem dM_read_9 : decode mM_read.2.1 9 = .ok (.lconst 0, 1) := by decide +kernel
theorem dM_read_10 : decode mM_read.2.1 10 = .ok (.lreturn, 1) := by decide +kernel
theorem dM_read_11 : decode mM_read.2.1 11 = .ok (.aload_n 0, 1) := by decide +kernel
theorem dM_read_12 : decode mM_read.2.1 12 = .ok (.iload_n 1, 1) := by decide +kernel
theorem dM_read_13 : decode mM_read.2.1 13 = .ok (.iload_n 2, 1) := by decide +kernel
theorem dM_read_14 : decode mM_read.2.1 14 = .ok (.invokevirtual 56, 3) := by decide +kernel
theorem dM_read_17 : decode mM_read.2.1 17 = .ok (.iconst (-1), 1) := by decide +kernel
theorem dM_read_18 : decode mM_read.2.1 18 = .ok (.if_icmp .ne 15, 3) := by decide +kernel
theorem dM_read_21 : decode mM_read.2.1 21 = .ok (.aload_n 0, 1) := by decide +kernel
theorem dM_read_22 : decode mM_read.2.1 22 = .ok (.getfield 13, 3) := by decide +kernel
theorem dM_read_25 : decode mM_read.2.1 25 = .ok (.bipush 16, 2) := by decide +kernel
theorem dM_read_27 : decode mM_read.2.1 27 = .ok (.iload_n 1, 1) := by decide +kernel
theorem dM_read_28 : decode mM_read.2.1 28 = .ok (.imul, 1) := by decide +kernel
theorem dM_read_29 : decode mM_read.2.1 29 = .ok (.iload_n 2, 1) := by decide +kernel
theorem dM_read_30 : decode mM_read.2.1 30 = .ok (.iadd, 1) := by decide +kernel
theorem dM_read_31 : decode mM_read.2.1 31 = .ok (.iconst 1, 1) := by decide +kernel
theorem dM_read_32 : decode mM_read.2.1 32 = .ok (.bastore, 1) := by decide +kernel
theorem dM_read_33 : decode mM_read.2.1 33 = .ok (.aload_n 0, 1) := by decide +kernel
theorem dM_read_34 : decode mM_read.2.1 34 = .ok (.iload_n 1, 1) := by decide +kernel
theorem dM_read_35 : decode mM_read.2.1 35 = .ok (.iload_n 2, 1) := by decide +kernel
theorem dM_read_36 : decode mM_read.2.1 36 = .ok (.invokevirtual 87, 3) := by decide +kernel
theorem dM_read_39 : decode mM_read.2.1 39 = .ok (.lreturn, 1) := by decide +kernel
theorem dM_write_0 : decode mM_write.2.1 0 = .ok (.aload_n 0, 1) := by decide +kernel
theorem dM_write_1 : decode mM_write.2.1 1 = .ok (.iload_n 1, 1) := by decide +kernel
theorem dM_write_2 : decode mM_write.2.1 2 = .ok (.iload_n 2, 1) := by decide +kernel
theorem dM_write_3 : decode mM_write.2.1 3 = .ok (.invokevirtual 84, 3) := by decide +kernel
theorem dM_write_6 : decode mM_write.2.1 6 = .ok (.ifCond .eq 5, 3) := by decide +kernel
theorem dM_write_9 : decode mM_write.2.1 9 = .ok (.lconst 0, 1) := by decide +kernel
theorem dM_write_10 : decode mM_write.2.1 10 = .ok (.lreturn, 1) := by decide +kernel
theorem dM_write_11 : decode mM_write.2.1 11 = .ok (.aload_n 0, 1) := by decide +kernel
theorem dM_write_12 : decode mM_write.2.1 12 = .ok (.iload_n 1, 1) := by decide +kernel
theorem dM_write_13 : decode mM_write.2.1 13 = .ok (.iload_n 2, 1) := by decide +kernel
theorem dM_write_14 : decode mM_write.2.1 14 = .ok (.invokevirtual 87, 3) := by decide +kernel
theorem dM_write_17 : decode mM_write.2.1 17 = .ok (.lstore 5, 2) := by decide +kernel
theorem dM_write_19 : decode mM_write.2.1 19 = .ok (.bipush 8, 2) := by decide +kernel
theorem dM_write_21 : decode mM_write.2.1 21 = .ok (.iload_n 1, 1) := by decide +kernel
theorem dM_write_22 : decode mM_write.2.1 22 = .ok (.imul, 1) := by decide +kernel
theorem dM_write_23 : decode mM_write.2.1 23 = .ok (.aload_n 0, 1) := by decide +kernel
theorem dM_write_24 : decode mM_write.2.1 24 = .ok (.getfield 26, 3) := by decide +kernel
theorem dM_write_27 : decode mM_write.2.1 27 = .ok (.iload_n 1, 1) := by decide +kernel
theorem dM_write_28 : decode mM_write.2.1 28 = .ok (.iaload, 1) := by decide +kernel
theorem dM_write_29 : decode mM_write.2.1 29 = .ok (.iadd, 1) := by decide +kernel
theorem dM_write_30 : decode mM_write.2.1 30 = .ok (.iconst 1, 1) := by decide +kernel
theorem dM_write_31 : decode mM_write.2.1 31 = .ok (.isub, 1) := by decide +kernel
theorem dM_write_32 : decode mM_write.2.1 32 = .ok (.bipush 16, 2) := by decide +kernel
theorem dM_write_34 : decode mM_write.2.1 34 = .ok (.imul, 1) := by decide +kernel
theorem dM_write_35 : decode mM_write.2.1 35 = .ok (.iload_n 2, 1) := by decide +kernel
theorem dM_write_36 : decode mM_write.2.1 36 = .ok (.iadd, 1) := by decide +kernel
theorem dM_write_37 : decode mM_write.2.1 37 = .ok (.istore 7, 2) := by decide +kernel
theorem dM_write_39 : decode mM_write.2.1 39 = .ok (.aload_n 0, 1) := by decide +kernel
theorem dM_write_40 : decode mM_write.2.1 40 = .ok (.getfield 16, 3) := by decide +kernel
theorem dM_write_43 : decode mM_write.2.1 43 = .ok (.iload 7, 2) := by decide +kernel
theorem dM_write_45 : decode mM_write.2.1 45 = .ok (.iconst 1, 1) := by decide +kernel
theorem dM_write_46 : decode mM_write.2.1 46 = .ok (.bastore, 1) := by decide +kernel
theorem dM_write_47 : decode mM_write.2.1 47 = .ok (.aload_n 0, 1) := by decide +kernel
theorem dM_write_48 : decode mM_write.2.1 48 = .ok (.getfield 33, 3) := by decide +kernel
theorem dM_write_51 : decode mM_write.2.1 51 = .ok (.iload 7, 2) := by decide +kernel
theorem dM_write_53 : decode mM_write.2.1 53 = .ok (.lload_n 3, 1) := by decide +kernel
theorem dM_write_54 : decode mM_write.2.1 54 = .ok (.lastore, 1) := by decide +kernel
theorem dM_write_55 : decode mM_write.2.1 55 = .ok (.lload 5, 2) := by decide +kernel
theorem dM_write_57 : decode mM_write.2.1 57 = .ok (.lreturn, 1) := by decide +kernel
theorem dM_push_0 : decode mM_push.2.1 0 = .ok (.aload_n 0, 1) := by decide +kernel
theorem dM_push_1 : decode mM_push.2.1 1 = .ok (.iload_n 1, 1) := by decide +kernel
theorem dM_push_2 : decode mM_push.2.1 2 = .ok (.invokevirtual 52, 3) := by decide +kernel
theorem dM_push_5 : decode mM_push.2.1 5 = .ok (.ifCond .eq 5, 3) := by decide +kernel
theorem dM_push_8 : decode mM_push.2.1 8 = .ok (.iconst 0, 1) := by decide +kernel
theorem dM_push_9 : decode mM_push.2.1 9 = .ok (.ireturn, 1) := by decide +kernel
theorem dM_push_10 : decode mM_push.2.1 10 = .ok (.aload_n 0, 1) := by decide +kernel
theorem dM_push_11 : decode mM_push.2.1 11 = .ok (.getfield 26, 3) := by decide +kernel
theorem dM_push_14 : decode mM_push.2.1 14 = .ok (.iload_n 1, 1) := by decide +kernel
theorem dM_push_15 : decode mM_push.2.1 15 = .ok (.iaload, 1) := by decide +kernel
theorem dM_push_16 : decode mM_push.2.1 16 = .ok (.bipush 8, 2) := by decide +kernel
theorem dM_push_18 : decode mM_push.2.1 18 = .ok (.if_icmp .ne 9, 3) := by decide +kernel
theorem dM_push_21 : decode mM_push.2.1 21 = .ok (.aload_n 0, 1) := by decide +kernel
theorem dM_push_22 : decode mM_push.2.1 22 = .ok (.iconst 2, 1) := by decide +kernel
theorem dM_push_23 : decode mM_push.2.1 23 = .ok (.invokevirtual 72, 3) := by decide +kernel
theorem dM_push_26 : decode mM_push.2.1 26 = .ok (.ireturn, 1) := by decide +kernel
theorem dM_push_27 : decode mM_push.2.1 27 = .ok (.aload_n 0, 1) := by decide +kernel
theorem dM_push_28 : decode mM_push.2.1 28 = .ok (.iload_n 1, 1) := by decide +kernel
theorem dM_push_29 : decode mM_push.2.1 29 = .ok (.aload_n 0, 1) := by decide +kernel
theorem dM_push_30 : decode mM_push.2.1 30 = .ok (.getfield 26, 3) := by decide +kernel
theorem dM_push_33 : decode mM_push.2.1 33 = .ok (.iload_n 1, 1) := by decide +kernel
theorem dM_push_34 : decode mM_push.2.1 34 = .ok (.iaload, 1) := by decide +kernel
theorem dM_push_35 : decode mM_push.2.1 35 = .ok (.invokevirtual 76, 3) := by decide +kernel
theorem dM_push_38 : decode mM_push.2.1 38 = .ok (.aload_n 0, 1) := by decide +kernel
theorem dM_push_39 : decode mM_push.2.1 39 = .ok (.getfield 26, 3) := by decide +kernel
theorem dM_push_42 : decode mM_push.2.1 42 = .ok (.iload_n 1, 1) := by decide +kernel
theorem dM_push_43 : decode mM_push.2.1 43 = .ok (.dup2, 1) := by decide +kernel
theorem dM_push_44 : decode mM_push.2.1 44 = .ok (.iaload, 1) := by decide +kernel
theorem dM_push_45 : decode mM_push.2.1 45 = .ok (.iconst 1, 1) := by decide +kernel
theorem dM_push_46 : decode mM_push.2.1 46 = .ok (.iadd, 1) := by decide +kernel
theorem dM_push_47 : decode mM_push.2.1 47 = .ok (.iastore, 1) := by decide +kernel
theorem dM_push_48 : decode mM_push.2.1 48 = .ok (.aload_n 0, 1) := by decide +kernel
theorem dM_push_49 : decode mM_push.2.1 49 = .ok (.getfield 26, 3) := by decide +kernel
theorem dM_push_52 : decode mM_push.2.1 52 = .ok (.iload_n 1, 1) := by decide +kernel
theorem dM_push_53 : decode mM_push.2.1 53 = .ok (.iaload, 1) := by decide +kernel
theorem dM_push_54 : decode mM_push.2.1 54 = .ok (.ireturn, 1) := by decide +kernel
theorem dM_pop_0 : decode mM_pop.2.1 0 = .ok (.aload_n 0, 1) := by decide +kernel
theorem dM_pop_1 : decode mM_pop.2.1 1 = .ok (.iload_n 1, 1) := by decide +kernel
theorem dM_pop_2 : decode mM_pop.2.1 2 = .ok (.invokevirtual 52, 3) := by decide +kernel
theorem dM_pop_5 : decode mM_pop.2.1 5 = .ok (.ifCond .eq 5, 3) := by decide +kernel
theorem dM_pop_8 : decode mM_pop.2.1 8 = .ok (.iconst 0, 1) := by decide +kernel
theorem dM_pop_9 : decode mM_pop.2.1 9 = .ok (.ireturn, 1) := by decide +kernel
theorem dM_pop_10 : decode mM_pop.2.1 10 = .ok (.aload_n 0, 1) := by decide +kernel
theorem dM_pop_11 : decode mM_pop.2.1 11 = .ok (.getfield 26, 3) := by decide +kernel
theorem dM_pop_14 : decode mM_pop.2.1 14 = .ok (.iload_n 1, 1) := by decide +kernel
theorem dM_pop_15 : decode mM_pop.2.1 15 = .ok (.iaload, 1) := by decide +kernel
theorem dM_pop_16 : decode mM_pop.2.1 16 = .ok (.iconst 1, 1) := by decide +kernel
theorem dM_pop_17 : decode mM_pop.2.1 17 = .ok (.if_icmp .ne 9, 3) := by decide +kernel
theorem dM_pop_20 : decode mM_pop.2.1 20 = .ok (.aload_n 0, 1) := by decide +kernel
theorem dM_pop_21 : decode mM_pop.2.1 21 = .ok (.iconst 2, 1) := by decide +kernel
theorem dM_pop_22 : decode mM_pop.2.1 22 = .ok (.invokevirtual 72, 3) := by decide +kernel
theorem dM_pop_25 : decode mM_pop.2.1 25 = .ok (.ireturn, 1) := by decide +kernel
theorem dM_pop_26 : decode mM_pop.2.1 26 = .ok (.aload_n 0, 1) := by decide +kernel
theorem dM_pop_27 : decode mM_pop.2.1 27 = .ok (.getfield 26, 3) := by decide +kernel
theorem dM_pop_30 : decode mM_pop.2.1 30 = .ok (.iload_n 1, 1) := by decide +kernel
theorem dM_pop_31 : decode mM_pop.2.1 31 = .ok (.dup2, 1) := by decide +kernel
theorem dM_pop_32 : decode mM_pop.2.1 32 = .ok (.iaload, 1) := by decide +kernel
theorem dM_pop_33 : decode mM_pop.2.1 33 = .ok (.iconst 1, 1) := by decide +kernel
theorem dM_pop_34 : decode mM_pop.2.1 34 = .ok (.isub, 1) := by decide +kernel
theorem dM_pop_35 : decode mM_pop.2.1 35 = .ok (.iastore, 1) := by decide +kernel
theorem dM_pop_36 : decode mM_pop.2.1 36 = .ok (.iconst 0, 1) := by decide +kernel
theorem dM_pop_37 : decode mM_pop.2.1 37 = .ok (.istore_n 3, 1) := by decide +kernel
theorem dM_pop_38 : decode mM_pop.2.1 38 = .ok (.iload_n 3, 1) := by decide +kernel
theorem dM_pop_39 : decode mM_pop.2.1 39 = .ok (.bipush 16, 2) := by decide +kernel
theorem dM_pop_41 : decode mM_pop.2.1 41 = .ok (.if_icmp .ge 72, 3) := by decide +kernel
theorem dM_pop_44 : decode mM_pop.2.1 44 = .ok (.iload_n 2, 1) := by decide +kernel
theorem dM_pop_45 : decode mM_pop.2.1 45 = .ok (.ifCond .eq 68, 3) := by decide +kernel
theorem dM_pop_48 : decode mM_pop.2.1 48 = .ok (.bipush 8, 2) := by decide +kernel
theorem dM_pop_50 : decode mM_pop.2.1 50 = .ok (.iload_n 1, 1) := by decide +kernel
theorem dM_pop_51 : decode mM_pop.2.1 51 = .ok (.imul, 1) := by decide +kernel
theorem dM_pop_52 : decode mM_pop.2.1 52 = .ok (.aload_n 0, 1) := by decide +kernel
theorem dM_pop_53 : decode mM_pop.2.1 53 = .ok (.getfield 26, 3) := by decide +kernel
theorem dM_pop_56 : decode mM_pop.2.1 56 = .ok (.iload_n 1, 1) := by decide +kernel
theorem dM_pop_57 : decode mM_pop.2.1 57 = .ok (.iaload, 1) := by decide +kernel
theorem dM_pop_58 : decode mM_pop.2.1 58 = .ok (.iadd, 1) := by decide +kernel
theorem dM_pop_59 : decode mM_pop.2.1 59 = .ok (.bipush 16, 2) := by decide +kernel
theorem dM_pop_61 : decode mM_pop.2.1 61 = .ok (.imul, 1) := by decide +kernel
theorem dM_pop_62 : decode mM_pop.2.1 62 = .ok (.iload_n 3, 1) := by decide +kernel
theorem dM_pop_63 : decode mM_pop.2.1 63 = .ok (.iadd, 1) := by decide +kernel
theorem dM_pop_64 : decode mM_pop.2.1 64 = .ok (.istore 4, 2) := by decide +kernel
theorem dM_pop_66 : decode mM_pop.2.1 66 = .ok (.aload_n 0, 1) := by decide +kernel
theorem dM_pop_67 : decode mM_pop.2.1 67 = .ok (.getfield 16, 3) := by decide +kernel
theorem dM_pop_70 : decode mM_pop.2.1 70 = .ok (.iload 4, 2) := by decide +kernel
theorem dM_pop_72 : decode mM_pop.2.1 72 = .ok (.baload, 1) := by decide +kernel
theorem dM_pop_73 : decode mM_pop.2.1 73 = .ok (.ifCond .ne 6, 3) := by decide +kernel
theorem dM_pop_76 : decode mM_pop.2.1 76 = .ok (.goto 31, 3) := by decide +kernel
theorem dM_pop_79 : decode mM_pop.2.1 79 = .ok (.aload_n 0, 1) := by decide +kernel
theorem dM_pop_80 : decode mM_pop.2.1 80 = .ok (.getfield 16, 3) := by decide +kernel
theorem dM_pop_83 : decode mM_pop.2.1 83 = .ok (.iload 4, 2) := by decide +kernel
theorem dM_pop_85 : decode mM_pop.2.1 85 = .ok (.bipush 16, 2) := by decide +kernel
theorem dM_pop_87 : decode mM_pop.2.1 87 = .ok (.isub, 1) := by decide +kernel
theorem dM_pop_88 : decode mM_pop.2.1 88 = .ok (.iconst 1, 1) := by decide +kernel
theorem dM_pop_89 : decode mM_pop.2.1 89 = .ok (.bastore, 1) := by decide +kernel
theorem dM_pop_90 : decode mM_pop.2.1 90 = .ok (.aload_n 0, 1) := by decide +kernel
theorem dM_pop_91 : decode mM_pop.2.1 91 = .ok (.getfield 33, 3) := by decide +kernel
theorem dM_pop_94 : decode mM_pop.2.1 94 = .ok (.iload 4, 2) := by decide +kernel
theorem dM_pop_96 : decode mM_pop.2.1 96 = .ok (.bipush 16, 2) := by decide +kernel
theorem dM_pop_98 : decode mM_pop.2.1 98 = .ok (.isub, 1) := by decide +kernel
theorem dM_pop_99 : decode mM_pop.2.1 99 = .ok (.aload_n 0, 1) := by decide +kernel
theorem dM_pop_100 : decode mM_pop.2.1 100 = .ok (.getfield 33, 3) := by decide +kernel
theorem dM_pop_103 : decode mM_pop.2.1 103 = .ok (.iload 4, 2) := by decide +kernel
theorem dM_pop_105 : decode mM_pop.2.1 105 = .ok (.laload, 1) := by decide +kernel
theorem dM_pop_106 : decode mM_pop.2.1 106 = .ok (.lastore, 1) := by decide +kernel
theorem dM_pop_107 : decode mM_pop.2.1 107 = .ok (.iinc 3 1, 3) := by decide +kernel
theorem dM_pop_110 : decode mM_pop.2.1 110 = .ok (.goto (-72), 3) := by decide +kernel
theorem dM_pop_113 : decode mM_pop.2.1 113 = .ok (.aload_n 0, 1) := by decide +kernel
theorem dM_pop_114 : decode mM_pop.2.1 114 = .ok (.getfield 26, 3) := by decide +kernel
theorem dM_pop_117 : decode mM_pop.2.1 117 = .ok (.iload_n 1, 1) := by decide +kernel
theorem dM_pop_118 : decode mM_pop.2.1 118 = .ok (.iaload, 1) := by decide +kernel
theorem dM_pop_119 : decode mM_pop.2.1 119 = .ok (.ireturn, 1) := by decide +kernel
theorem dM_commit_0 : decode mM_commit.2.1 0 = .ok (.aload_n 0, 1) := by decide +kernel
theorem dM_commit_1 : decode mM_commit.2.1 1 = .ok (.iload_n 1, 1) := by decide +kernel
theorem dM_commit_2 : decode mM_commit.2.1 2 = .ok (.invokevirtual 52, 3) := by decide +kernel
theorem dM_commit_5 : decode mM_commit.2.1 5 = .ok (.ifCond .eq 5, 3) := by decide +kernel
theorem dM_commit_8 : decode mM_commit.2.1 8 = .ok (.iconst 0, 1) := by decide +kernel
theorem dM_commit_9 : decode mM_commit.2.1 9 = .ok (.ireturn, 1) := by decide +kernel
theorem dM_commit_10 : decode mM_commit.2.1 10 = .ok (.aload_n 0, 1) := by decide +kernel
theorem dM_commit_11 : decode mM_commit.2.1 11 = .ok (.iload_n 1, 1) := by decide +kernel
theorem dM_commit_12 : decode mM_commit.2.1 12 = .ok (.invokevirtual 91, 3) := by decide +kernel
theorem dM_commit_15 : decode mM_commit.2.1 15 = .ok (.ifCond .le 12, 3) := by decide +kernel
theorem dM_commit_18 : decode mM_commit.2.1 18 = .ok (.aload_n 0, 1) := by decide +kernel
theorem dM_commit_19 : decode mM_commit.2.1 19 = .ok (.getfield 9, 3) := by decide +kernel
theorem dM_commit_22 : decode mM_commit.2.1 22 = .ok (.iload_n 1, 1) := by decide +kernel
theorem dM_commit_23 : decode mM_commit.2.1 23 = .ok (.iconst 0, 1) := by decide +kernel
theorem dM_commit_24 : decode mM_commit.2.1 24 = .ok (.bastore, 1) := by decide +kernel
theorem dM_commit_25 : decode mM_commit.2.1 25 = .ok (.iconst (-1), 1) := by decide +kernel
theorem dM_commit_26 : decode mM_commit.2.1 26 = .ok (.ireturn, 1) := by decide +kernel
theorem dM_commit_27 : decode mM_commit.2.1 27 = .ok (.aload_n 0, 1) := by decide +kernel
theorem dM_commit_28 : decode mM_commit.2.1 28 = .ok (.iload_n 1, 1) := by decide +kernel
theorem dM_commit_29 : decode mM_commit.2.1 29 = .ok (.invokevirtual 94, 3) := by decide +kernel
theorem dM_commit_32 : decode mM_commit.2.1 32 = .ok (.istore_n 2, 1) := by decide +kernel
theorem dM_commit_33 : decode mM_commit.2.1 33 = .ok (.aload_n 0, 1) := by decide +kernel
theorem dM_commit_34 : decode mM_commit.2.1 34 = .ok (.invokevirtual 97, 3) := by decide +kernel
theorem dM_commit_37 : decode mM_commit.2.1 37 = .ok (.iload_n 2, 1) := by decide +kernel
theorem dM_commit_38 : decode mM_commit.2.1 38 = .ok (.iadd, 1) := by decide +kernel
theorem dM_commit_39 : decode mM_commit.2.1 39 = .ok (.sipush 500, 3) := by decide +kernel
theorem dM_commit_42 : decode mM_commit.2.1 42 = .ok (.if_icmp .le 9, 3) := by decide +kernel
theorem dM_commit_45 : decode mM_commit.2.1 45 = .ok (.aload_n 0, 1) := by decide +kernel
theorem dM_commit_46 : decode mM_commit.2.1 46 = .ok (.iconst 2, 1) := by decide +kernel
theorem dM_commit_47 : decode mM_commit.2.1 47 = .ok (.invokevirtual 72, 3) := by decide +kernel
theorem dM_commit_50 : decode mM_commit.2.1 50 = .ok (.ireturn, 1) := by decide +kernel
theorem dM_commit_51 : decode mM_commit.2.1 51 = .ok (.aload_n 0, 1) := by decide +kernel
theorem dM_commit_52 : decode mM_commit.2.1 52 = .ok (.getfield 9, 3) := by decide +kernel
theorem dM_commit_55 : decode mM_commit.2.1 55 = .ok (.iload_n 1, 1) := by decide +kernel
theorem dM_commit_56 : decode mM_commit.2.1 56 = .ok (.iconst 0, 1) := by decide +kernel
theorem dM_commit_57 : decode mM_commit.2.1 57 = .ok (.bastore, 1) := by decide +kernel
theorem dM_commit_58 : decode mM_commit.2.1 58 = .ok (.iload_n 2, 1) := by decide +kernel
theorem dM_commit_59 : decode mM_commit.2.1 59 = .ok (.ifCond .ne 8, 3) := by decide +kernel
theorem dM_commit_62 : decode mM_commit.2.1 62 = .ok (.aload_n 0, 1) := by decide +kernel
theorem dM_commit_63 : decode mM_commit.2.1 63 = .ok (.getfield 64, 3) := by decide +kernel
theorem dM_commit_66 : decode mM_commit.2.1 66 = .ok (.ireturn, 1) := by decide +kernel
theorem dM_commit_67 : decode mM_commit.2.1 67 = .ok (.aload_n 0, 1) := by decide +kernel
theorem dM_commit_68 : decode mM_commit.2.1 68 = .ok (.dup, 1) := by decide +kernel
theorem dM_commit_69 : decode mM_commit.2.1 69 = .ok (.getfield 64, 3) := by decide +kernel
theorem dM_commit_72 : decode mM_commit.2.1 72 = .ok (.iconst 1, 1) := by decide +kernel
theorem dM_commit_73 : decode mM_commit.2.1 73 = .ok (.iadd, 1) := by decide +kernel
theorem dM_commit_74 : decode mM_commit.2.1 74 = .ok (.putfield 64, 3) := by decide +kernel
theorem dM_commit_77 : decode mM_commit.2.1 77 = .ok (.iconst 0, 1) := by decide +kernel
theorem dM_commit_78 : decode mM_commit.2.1 78 = .ok (.istore_n 3, 1) := by decide +kernel
theorem dM_commit_79 : decode mM_commit.2.1 79 = .ok (.iload_n 3, 1) := by decide +kernel
theorem dM_commit_80 : decode mM_commit.2.1 80 = .ok (.bipush 16, 2) := by decide +kernel
theorem dM_commit_82 : decode mM_commit.2.1 82 = .ok (.if_icmp .ge 86, 3) := by decide +kernel
theorem dM_commit_85 : decode mM_commit.2.1 85 = .ok (.aload_n 0, 1) := by decide +kernel
theorem dM_commit_86 : decode mM_commit.2.1 86 = .ok (.iload_n 1, 1) := by decide +kernel
theorem dM_commit_87 : decode mM_commit.2.1 87 = .ok (.iload_n 3, 1) := by decide +kernel
theorem dM_commit_88 : decode mM_commit.2.1 88 = .ok (.invokevirtual 56, 3) := by decide +kernel
theorem dM_commit_91 : decode mM_commit.2.1 91 = .ok (.iconst (-1), 1) := by decide +kernel
theorem dM_commit_92 : decode mM_commit.2.1 92 = .ok (.if_icmp .ne 6, 3) := by decide +kernel
theorem dM_commit_95 : decode mM_commit.2.1 95 = .ok (.goto 67, 3) := by decide +kernel
theorem dM_commit_98 : decode mM_commit.2.1 98 = .ok (.aload_n 0, 1) := by decide +kernel
theorem dM_commit_99 : decode mM_commit.2.1 99 = .ok (.getfield 39, 3) := by decide +kernel
theorem dM_commit_102 : decode mM_commit.2.1 102 = .ok (.sipush 520, 3) := by decide +kernel
theorem dM_commit_105 : decode mM_commit.2.1 105 = .ok (.iload_n 3, 1) := by decide +kernel
theorem dM_commit_106 : decode mM_commit.2.1 106 = .ok (.imul, 1) := by decide +kernel
theorem dM_commit_107 : decode mM_commit.2.1 107 = .ok (.aload_n 0, 1) := by decide +kernel
theorem dM_commit_108 : decode mM_commit.2.1 108 = .ok (.getfield 36, 3) := by decide +kernel
theorem dM_commit_111 : decode mM_commit.2.1 111 = .ok (.iload_n 3, 1) := by decide +kernel
theorem dM_commit_112 : decode mM_commit.2.1 112 = .ok (.iaload, 1) := by decide +kernel
theorem dM_commit_113 : decode mM_commit.2.1 113 = .ok (.iadd, 1) := by decide +kernel
theorem dM_commit_114 : decode mM_commit.2.1 114 = .ok (.aload_n 0, 1) := by decide +kernel
theorem dM_commit_115 : decode mM_commit.2.1 115 = .ok (.getfield 64, 3) := by decide +kernel
theorem dM_commit_118 : decode mM_commit.2.1 118 = .ok (.iastore, 1) := by decide +kernel
theorem dM_commit_119 : decode mM_commit.2.1 119 = .ok (.aload_n 0, 1) := by decide +kernel
theorem dM_commit_120 : decode mM_commit.2.1 120 = .ok (.getfield 45, 3) := by decide +kernel
theorem dM_commit_123 : decode mM_commit.2.1 123 = .ok (.sipush 520, 3) := by decide +kernel
theorem dM_commit_126 : decode mM_commit.2.1 126 = .ok (.iload_n 3, 1) := by decide +kernel
theorem dM_commit_127 : decode mM_commit.2.1 127 = .ok (.imul, 1) := by decide +kernel
theorem dM_commit_128 : decode mM_commit.2.1 128 = .ok (.aload_n 0, 1) := by decide +kernel
theorem dM_commit_129 : decode mM_commit.2.1 129 = .ok (.getfield 36, 3) := by decide +kernel
theorem dM_commit_132 : decode mM_commit.2.1 132 = .ok (.iload_n 3, 1) := by decide +kernel
theorem dM_commit_133 : decode mM_commit.2.1 133 = .ok (.iaload, 1) := by decide +kernel
theorem dM_commit_134 : decode mM_commit.2.1 134 = .ok (.iadd, 1) := by decide +kernel
theorem dM_commit_135 : decode mM_commit.2.1 135 = .ok (.aload_n 0, 1) := by decide +kernel
theorem dM_commit_136 : decode mM_commit.2.1 136 = .ok (.iload_n 1, 1) := by decide +kernel
theorem dM_commit_137 : decode mM_commit.2.1 137 = .ok (.iload_n 3, 1) := by decide +kernel
theorem dM_commit_138 : decode mM_commit.2.1 138 = .ok (.invokevirtual 87, 3) := by decide +kernel
theorem dM_commit_141 : decode mM_commit.2.1 141 = .ok (.lastore, 1) := by decide +kernel
theorem dM_commit_142 : decode mM_commit.2.1 142 = .ok (.aload_n 0, 1) := by decide +kernel
theorem dM_commit_143 : decode mM_commit.2.1 143 = .ok (.getfield 36, 3) := by decide +kernel
theorem dM_commit_146 : decode mM_commit.2.1 146 = .ok (.iload_n 3, 1) := by decide +kernel
theorem dM_commit_147 : decode mM_commit.2.1 147 = .ok (.dup2, 1) := by decide +kernel
theorem dM_commit_148 : decode mM_commit.2.1 148 = .ok (.iaload, 1) := by decide +kernel
theorem dM_commit_149 : decode mM_commit.2.1 149 = .ok (.iconst 1, 1) := by decide +kernel
theorem dM_commit_150 : decode mM_commit.2.1 150 = .ok (.iadd, 1) := by decide +kernel
theorem dM_commit_151 : decode mM_commit.2.1 151 = .ok (.iastore, 1) := by decide +kernel
theorem dM_commit_152 : decode mM_commit.2.1 152 = .ok (.aload_n 0, 1) := by decide +kernel
theorem dM_commit_153 : decode mM_commit.2.1 153 = .ok (.getfield 42, 3) := by decide +kernel
theorem dM_commit_156 : decode mM_commit.2.1 156 = .ok (.iload_n 3, 1) := by decide +kernel
theorem dM_commit_157 : decode mM_commit.2.1 157 = .ok (.aload_n 0, 1) := by decide +kernel
theorem dM_commit_158 : decode mM_commit.2.1 158 = .ok (.getfield 64, 3) := by decide +kernel
theorem dM_commit_161 : decode mM_commit.2.1 161 = .ok (.iastore, 1) := by decide +kernel
theorem dM_commit_162 : decode mM_commit.2.1 162 = .ok (.iinc 3 1, 3) := by decide +kernel
theorem dM_commit_165 : decode mM_commit.2.1 165 = .ok (.goto (-86), 3) := by decide +kernel
theorem dM_commit_168 : decode mM_commit.2.1 168 = .ok (.aload_n 0, 1) := by decide +kernel
theorem dM_commit_169 : decode mM_commit.2.1 169 = .ok (.getfield 64, 3) := by decide +kernel
theorem dM_commit_172 : decode mM_commit.2.1 172 = .ok (.ireturn, 1) := by decide +kernel
theorem dM_drop_0 : decode mM_drop.2.1 0 = .ok (.aload_n 0, 1) := by decide +kernel
theorem dM_drop_1 : decode mM_drop.2.1 1 = .ok (.iload_n 1, 1) := by decide +kernel
theorem dM_drop_2 : decode mM_drop.2.1 2 = .ok (.invokevirtual 52, 3) := by decide +kernel
theorem dM_drop_5 : decode mM_drop.2.1 5 = .ok (.ifCond .eq 5, 3) := by decide +kernel
theorem dM_drop_8 : decode mM_drop.2.1 8 = .ok (.iconst 0, 1) := by decide +kernel
theorem dM_drop_9 : decode mM_drop.2.1 9 = .ok (.ireturn, 1) := by decide +kernel
theorem dM_drop_10 : decode mM_drop.2.1 10 = .ok (.aload_n 0, 1) := by decide +kernel
theorem dM_drop_11 : decode mM_drop.2.1 11 = .ok (.getfield 9, 3) := by decide +kernel
theorem dM_drop_14 : decode mM_drop.2.1 14 = .ok (.iload_n 1, 1) := by decide +kernel
theorem dM_drop_15 : decode mM_drop.2.1 15 = .ok (.iconst 0, 1) := by decide +kernel
theorem dM_drop_16 : decode mM_drop.2.1 16 = .ok (.bastore, 1) := by decide +kernel
theorem dM_drop_17 : decode mM_drop.2.1 17 = .ok (.aload_n 0, 1) := by decide +kernel
theorem dM_drop_18 : decode mM_drop.2.1 18 = .ok (.iload_n 1, 1) := by decide +kernel
theorem dM_drop_19 : decode mM_drop.2.1 19 = .ok (.invokevirtual 94, 3) := by decide +kernel
theorem dM_drop_22 : decode mM_drop.2.1 22 = .ok (.ireturn, 1) := by decide +kernel
theorem dM_spoiled_0 : decode mM_spoiled.2.1 0 = .ok (.aload_n 0, 1) := by decide +kernel
theorem dM_spoiled_1 : decode mM_spoiled.2.1 1 = .ok (.iload_n 1, 1) := by decide +kernel
theorem dM_spoiled_2 : decode mM_spoiled.2.1 2 = .ok (.invokevirtual 52, 3) := by decide +kernel
theorem dM_spoiled_5 : decode mM_spoiled.2.1 5 = .ok (.ifCond .ne 15, 3) := by decide +kernel
theorem dM_spoiled_8 : decode mM_spoiled.2.1 8 = .ok (.aload_n 0, 1) := by decide +kernel
theorem dM_spoiled_9 : decode mM_spoiled.2.1 9 = .ok (.iload_n 1, 1) := by decide +kernel
theorem dM_spoiled_10 : decode mM_spoiled.2.1 10 = .ok (.invokevirtual 91, 3) := by decide +kernel
theorem dM_spoiled_13 : decode mM_spoiled.2.1 13 = .ok (.ifCond .le 7, 3) := by decide +kernel
theorem dM_spoiled_16 : decode mM_spoiled.2.1 16 = .ok (.iconst 1, 1) := by decide +kernel
theorem dM_spoiled_17 : decode mM_spoiled.2.1 17 = .ok (.goto 4, 3) := by decide +kernel
theorem dM_spoiled_20 : decode mM_spoiled.2.1 20 = .ok (.iconst 0, 1) := by decide +kernel
theorem dM_spoiled_21 : decode mM_spoiled.2.1 21 = .ok (.ireturn, 1) := by decide +kernel
theorem dM_meets_0 : decode mM_meets.2.1 0 = .ok (.aload_n 0, 1) := by decide +kernel
theorem dM_meets_1 : decode mM_meets.2.1 1 = .ok (.iload_n 1, 1) := by decide +kernel
theorem dM_meets_2 : decode mM_meets.2.1 2 = .ok (.invokevirtual 52, 3) := by decide +kernel
theorem dM_meets_5 : decode mM_meets.2.1 5 = .ok (.ifCond .ne 16, 3) := by decide +kernel
theorem dM_meets_8 : decode mM_meets.2.1 8 = .ok (.aload_n 0, 1) := by decide +kernel
theorem dM_meets_9 : decode mM_meets.2.1 9 = .ok (.iload_n 2, 1) := by decide +kernel
theorem dM_meets_10 : decode mM_meets.2.1 10 = .ok (.invokevirtual 52, 3) := by decide +kernel
theorem dM_meets_13 : decode mM_meets.2.1 13 = .ok (.ifCond .ne 8, 3) := by decide +kernel
theorem dM_meets_16 : decode mM_meets.2.1 16 = .ok (.iload_n 1, 1) := by decide +kernel
theorem dM_meets_17 : decode mM_meets.2.1 17 = .ok (.iload_n 2, 1) := by decide +kernel
theorem dM_meets_18 : decode mM_meets.2.1 18 = .ok (.if_icmp .ne 5, 3) := by decide +kernel
theorem dM_meets_21 : decode mM_meets.2.1 21 = .ok (.iconst 0, 1) := by decide +kernel
theorem dM_meets_22 : decode mM_meets.2.1 22 = .ok (.ireturn, 1) := by decide +kernel
theorem dM_meets_23 : decode mM_meets.2.1 23 = .ok (.iconst 0, 1) := by decide +kernel
theorem dM_meets_24 : decode mM_meets.2.1 24 = .ok (.istore_n 3, 1) := by decide +kernel
theorem dM_meets_25 : decode mM_meets.2.1 25 = .ok (.iload_n 3, 1) := by decide +kernel
theorem dM_meets_26 : decode mM_meets.2.1 26 = .ok (.bipush 16, 2) := by decide +kernel
theorem dM_meets_28 : decode mM_meets.2.1 28 = .ok (.if_icmp .ge 64, 3) := by decide +kernel
theorem dM_meets_31 : decode mM_meets.2.1 31 = .ok (.aload_n 0, 1) := by decide +kernel
theorem dM_meets_32 : decode mM_meets.2.1 32 = .ok (.iload_n 1, 1) := by decide +kernel
theorem dM_meets_33 : decode mM_meets.2.1 33 = .ok (.iload_n 3, 1) := by decide +kernel
theorem dM_meets_34 : decode mM_meets.2.1 34 = .ok (.invokevirtual 56, 3) := by decide +kernel
theorem dM_meets_37 : decode mM_meets.2.1 37 = .ok (.iconst (-1), 1) := by decide +kernel
theorem dM_meets_38 : decode mM_meets.2.1 38 = .ok (.if_icmp .eq 48, 3) := by decide +kernel
theorem dM_meets_41 : decode mM_meets.2.1 41 = .ok (.aload_n 0, 1) := by decide +kernel
theorem dM_meets_42 : decode mM_meets.2.1 42 = .ok (.iload_n 2, 1) := by decide +kernel
theorem dM_meets_43 : decode mM_meets.2.1 43 = .ok (.iload_n 3, 1) := by decide +kernel
theorem dM_meets_44 : decode mM_meets.2.1 44 = .ok (.invokevirtual 60, 3) := by decide +kernel
theorem dM_meets_47 : decode mM_meets.2.1 47 = .ok (.ifCond .ne 39, 3) := by decide +kernel
theorem dM_meets_50 : decode mM_meets.2.1 50 = .ok (.aload_n 0, 1) := by decide +kernel
theorem dM_meets_51 : decode mM_meets.2.1 51 = .ok (.iload_n 2, 1) := by decide +kernel
theorem dM_meets_52 : decode mM_meets.2.1 52 = .ok (.iload_n 3, 1) := by decide +kernel
theorem dM_meets_53 : decode mM_meets.2.1 53 = .ok (.invokevirtual 56, 3) := by decide +kernel
theorem dM_meets_56 : decode mM_meets.2.1 56 = .ok (.iconst (-1), 1) := by decide +kernel
theorem dM_meets_57 : decode mM_meets.2.1 57 = .ok (.if_icmp .ne 27, 3) := by decide +kernel
theorem dM_meets_60 : decode mM_meets.2.1 60 = .ok (.aload_n 0, 1) := by decide +kernel
theorem dM_meets_61 : decode mM_meets.2.1 61 = .ok (.getfield 23, 3) := by decide +kernel
theorem dM_meets_64 : decode mM_meets.2.1 64 = .ok (.iload_n 2, 1) := by decide +kernel
theorem dM_meets_65 : decode mM_meets.2.1 65 = .ok (.iaload, 1) := by decide +kernel
theorem dM_meets_66 : decode mM_meets.2.1 66 = .ok (.iconst 1, 1) := by decide +kernel
theorem dM_meets_67 : decode mM_meets.2.1 67 = .ok (.if_icmp .ne 19, 3) := by decide +kernel
theorem dM_meets_70 : decode mM_meets.2.1 70 = .ok (.aload_n 0, 1) := by decide +kernel
theorem dM_meets_71 : decode mM_meets.2.1 71 = .ok (.getfield 13, 3) := by decide +kernel
theorem dM_meets_74 : decode mM_meets.2.1 74 = .ok (.bipush 16, 2) := by decide +kernel
theorem dM_meets_76 : decode mM_meets.2.1 76 = .ok (.iload_n 2, 1) := by decide +kernel
theorem dM_meets_77 : decode mM_meets.2.1 77 = .ok (.imul, 1) := by decide +kernel
theorem dM_meets_78 : decode mM_meets.2.1 78 = .ok (.iload_n 3, 1) := by decide +kernel
theorem dM_meets_79 : decode mM_meets.2.1 79 = .ok (.iadd, 1) := by decide +kernel
theorem dM_meets_80 : decode mM_meets.2.1 80 = .ok (.baload, 1) := by decide +kernel
theorem dM_meets_81 : decode mM_meets.2.1 81 = .ok (.ifCond .eq 5, 3) := by decide +kernel
theorem dM_meets_84 : decode mM_meets.2.1 84 = .ok (.iconst 1, 1) := by decide +kernel
theorem dM_meets_85 : decode mM_meets.2.1 85 = .ok (.ireturn, 1) := by decide +kernel
theorem dM_meets_86 : decode mM_meets.2.1 86 = .ok (.iinc 3 1, 3) := by decide +kernel
theorem dM_meets_89 : decode mM_meets.2.1 89 = .ok (.goto (-64), 3) := by decide +kernel
theorem dM_meets_92 : decode mM_meets.2.1 92 = .ok (.iconst 0, 1) := by decide +kernel
theorem dM_meets_93 : decode mM_meets.2.1 93 = .ok (.ireturn, 1) := by decide +kernel
theorem dM_past_0 : decode mM_past.2.1 0 = .ok (.aload_n 0, 1) := by decide +kernel
theorem dM_past_1 : decode mM_past.2.1 1 = .ok (.iload_n 1, 1) := by decide +kernel
theorem dM_past_2 : decode mM_past.2.1 2 = .ok (.ifCond .lt 35, 3) := by decide +kernel
theorem dM_past_5 : decode mM_past.2.1 5 = .ok (.iload_n 1, 1) := by decide +kernel
theorem dM_past_6 : decode mM_past.2.1 6 = .ok (.bipush 16, 2) := by decide +kernel
theorem dM_past_8 : decode mM_past.2.1 8 = .ok (.if_icmp .ge 29, 3) := by decide +kernel
theorem dM_past_11 : decode mM_past.2.1 11 = .ok (.iload_n 2, 1) := by decide +kernel
theorem dM_past_12 : decode mM_past.2.1 12 = .ok (.ifCond .lt 25, 3) := by decide +kernel
theorem dM_past_15 : decode mM_past.2.1 15 = .ok (.iload_n 2, 1) := by decide +kernel
theorem dM_past_16 : decode mM_past.2.1 16 = .ok (.aload_n 0, 1) := by decide +kernel
theorem dM_past_17 : decode mM_past.2.1 17 = .ok (.getfield 64, 3) := by decide +kernel
theorem dM_past_20 : decode mM_past.2.1 20 = .ok (.if_icmp .gt 17, 3) := by decide +kernel
theorem dM_past_23 : decode mM_past.2.1 23 = .ok (.aload_n 0, 1) := by decide +kernel
theorem dM_past_24 : decode mM_past.2.1 24 = .ok (.getfield 39, 3) := by decide +kernel
theorem dM_past_27 : decode mM_past.2.1 27 = .ok (.sipush 520, 3) := by decide +kernel
theorem dM_past_30 : decode mM_past.2.1 30 = .ok (.iload_n 1, 1) := by decide +kernel
theorem dM_past_31 : decode mM_past.2.1 31 = .ok (.imul, 1) := by decide +kernel
theorem dM_past_32 : decode mM_past.2.1 32 = .ok (.iaload, 1) := by decide +kernel
theorem dM_past_33 : decode mM_past.2.1 33 = .ok (.iload_n 2, 1) := by decide +kernel
theorem dM_past_34 : decode mM_past.2.1 34 = .ok (.if_icmp .le 7, 3) := by decide +kernel
theorem dM_past_37 : decode mM_past.2.1 37 = .ok (.iconst 1, 1) := by decide +kernel
theorem dM_past_38 : decode mM_past.2.1 38 = .ok (.goto 4, 3) := by decide +kernel
theorem dM_past_41 : decode mM_past.2.1 41 = .ok (.iconst 0, 1) := by decide +kernel
theorem dM_past_42 : decode mM_past.2.1 42 = .ok (.putfield 48, 3) := by decide +kernel
theorem dM_past_45 : decode mM_past.2.1 45 = .ok (.aload_n 0, 1) := by decide +kernel
theorem dM_past_46 : decode mM_past.2.1 46 = .ok (.getfield 48, 3) := by decide +kernel
theorem dM_past_49 : decode mM_past.2.1 49 = .ok (.ifCond .le 5, 3) := by decide +kernel
theorem dM_past_52 : decode mM_past.2.1 52 = .ok (.lconst 0, 1) := by decide +kernel
theorem dM_past_53 : decode mM_past.2.1 53 = .ok (.lreturn, 1) := by decide +kernel
theorem dM_past_54 : decode mM_past.2.1 54 = .ok (.iconst 0, 1) := by decide +kernel
theorem dM_past_55 : decode mM_past.2.1 55 = .ok (.istore_n 3, 1) := by decide +kernel
theorem dM_past_56 : decode mM_past.2.1 56 = .ok (.iload_n 3, 1) := by decide +kernel
theorem dM_past_57 : decode mM_past.2.1 57 = .ok (.iconst 1, 1) := by decide +kernel
theorem dM_past_58 : decode mM_past.2.1 58 = .ok (.iadd, 1) := by decide +kernel

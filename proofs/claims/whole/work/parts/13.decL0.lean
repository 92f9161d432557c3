theorem dL_begin_0 : decode mL_begin.2.1 0 = .ok (.aload_n 2, 1) := by decide +kernel
theorem dL_begin_1 : decode mL_begin.2.1 1 = .ok (.iconst 0, 1) := by decide +kernel
theorem dL_begin_2 : decode mL_begin.2.1 2 = .ok (.aload_n 0, 1) := by decide +kernel
theorem dL_begin_3 : decode mL_begin.2.1 3 = .ok (.iload_n 1, 1) := by decide +kernel
theorem dL_begin_4 : decode mL_begin.2.1 4 = .ok (.invokevirtual 7, 3) := by decide +kernel
theorem dL_begin_7 : decode mL_begin.2.1 7 = .ok (.i2l, 1) := by decide +kernel
theorem dL_begin_8 : decode mL_begin.2.1 8 = .ok (.lastore, 1) := by decide +kernel
theorem dL_begin_9 : decode mL_begin.2.1 9 = .ok (.goto 9, 3) := by decide +kernel
theorem dL_begin_12 : decode mL_begin.2.1 12 = .ok (.astore_n 3, 1) := by decide +kernel
theorem dL_begin_13 : decode mL_begin.2.1 13 = .ok (.iconst 1, 1) := by decide +kernel
theorem dL_begin_14 : decode mL_begin.2.1 14 = .ok (.ireturn, 1) := by decide +kernel
theorem dL_begin_15 : decode mL_begin.2.1 15 = .ok (.astore_n 3, 1) := by decide +kernel
theorem dL_begin_16 : decode mL_begin.2.1 16 = .ok (.iconst 2, 1) := by decide +kernel
theorem dL_begin_17 : decode mL_begin.2.1 17 = .ok (.ireturn, 1) := by decide +kernel
theorem dL_begin_18 : decode mL_begin.2.1 18 = .ok (.iconst 0, 1) := by decide +kernel
theorem dL_begin_19 : decode mL_begin.2.1 19 = .ok (.ireturn, 1) := by decide +kernel
theorem dL_read_0 : decode mL_read.2.1 0 = .ok (.aload_n 3, 1) := by decide +kernel
theorem dL_read_1 : decode mL_read.2.1 1 = .ok (.iconst 0, 1) := by decide +kernel
theorem dL_read_2 : decode mL_read.2.1 2 = .ok (.aload_n 0, 1) := by decide +kernel
theorem dL_read_3 : decode mL_read.2.1 3 = .ok (.iload_n 1, 1) := by decide +kernel
theorem dL_read_4 : decode mL_read.2.1 4 = .ok (.iload_n 2, 1) := by decide +kernel
theorem dL_read_5 : decode mL_read.2.1 5 = .ok (.invokevirtual 17, 3) := by decide +kernel
theorem dL_read_8 : decode mL_read.2.1 8 = .ok (.lastore, 1) := by decide +kernel
theorem dL_read_9 : decode mL_read.2.1 9 = .ok (.goto 7, 3) := by decide +kernel
theorem dL_read_12 : decode mL_read.2.1 12 = .ok (.astore 4, 2) := by decide +kernel
theorem dL_read_14 : decode mL_read.2.1 14 = .ok (.iconst 1, 1) := by decide +kernel
theorem dL_read_15 : decode mL_read.2.1 15 = .ok (.ireturn, 1) := by decide +kernel
theorem dL_read_16 : decode mL_read.2.1 16 = .ok (.iconst 0, 1) := by decide +kernel
theorem dL_read_17 : decode mL_read.2.1 17 = .ok (.ireturn, 1) := by decide +kernel
theorem dL_write_0 : decode mL_write.2.1 0 = .ok (.aload 5, 2) := by decide +kernel
theorem dL_write_2 : decode mL_write.2.1 2 = .ok (.iconst 0, 1) := by decide +kernel
theorem dL_write_3 : decode mL_write.2.1 3 = .ok (.aload_n 0, 1) := by decide +kernel
theorem dL_write_4 : decode mL_write.2.1 4 = .ok (.iload_n 1, 1) := by decide +kernel
theorem dL_write_5 : decode mL_write.2.1 5 = .ok (.iload_n 2, 1) := by decide +kernel
theorem dL_write_6 : decode mL_write.2.1 6 = .ok (.lload_n 3, 1) := by decide +kernel
theorem dL_write_7 : decode mL_write.2.1 7 = .ok (.invokevirtual 23, 3) := by decide +kernel
theorem dL_write_10 : decode mL_write.2.1 10 = .ok (.lastore, 1) := by decide +kernel
theorem dL_write_11 : decode mL_write.2.1 11 = .ok (.goto 7, 3) := by decide +kernel
theorem dL_write_14 : decode mL_write.2.1 14 = .ok (.astore 6, 2) := by decide +kernel
theorem dL_write_16 : decode mL_write.2.1 16 = .ok (.iconst 1, 1) := by decide +kernel
theorem dL_write_17 : decode mL_write.2.1 17 = .ok (.ireturn, 1) := by decide +kernel
theorem dL_write_18 : decode mL_write.2.1 18 = .ok (.iconst 0, 1) := by decide +kernel
theorem dL_write_19 : decode mL_write.2.1 19 = .ok (.ireturn, 1) := by decide +kernel
theorem dL_push_0 : decode mL_push.2.1 0 = .ok (.aload_n 2, 1) := by decide +kernel
theorem dL_push_1 : decode mL_push.2.1 1 = .ok (.iconst 0, 1) := by decide +kernel
theorem dL_push_2 : decode mL_push.2.1 2 = .ok (.aload_n 0, 1) := by decide +kernel
theorem dL_push_3 : decode mL_push.2.1 3 = .ok (.iload_n 1, 1) := by decide +kernel
theorem dL_push_4 : decode mL_push.2.1 4 = .ok (.invokevirtual 27, 3) := by decide +kernel
theorem dL_push_7 : decode mL_push.2.1 7 = .ok (.i2l, 1) := by decide +kernel
theorem dL_push_8 : decode mL_push.2.1 8 = .ok (.lastore, 1) := by decide +kernel
theorem dL_push_9 : decode mL_push.2.1 9 = .ok (.goto 9, 3) := by decide +kernel
theorem dL_push_12 : decode mL_push.2.1 12 = .ok (.astore_n 3, 1) := by decide +kernel
theorem dL_push_13 : decode mL_push.2.1 13 = .ok (.iconst 1, 1) := by decide +kernel
theorem dL_push_14 : decode mL_push.2.1 14 = .ok (.ireturn, 1) := by decide +kernel
theorem dL_push_15 : decode mL_push.2.1 15 = .ok (.astore_n 3, 1) := by decide +kernel
theorem dL_push_16 : decode mL_push.2.1 16 = .ok (.iconst 2, 1) := by decide +kernel
theorem dL_push_17 : decode mL_push.2.1 17 = .ok (.ireturn, 1) := by decide +kernel
theorem dL_push_18 : decode mL_push.2.1 18 = .ok (.iconst 0, 1) := by decide +kernel
theorem dL_push_19 : decode mL_push.2.1 19 = .ok (.ireturn, 1) := by decide +kernel
theorem dL_pop_0 : decode mL_pop.2.1 0 = .ok (.aload_n 3, 1) := by decide +kernel
theorem dL_pop_1 : decode mL_pop.2.1 1 = .ok (.iconst 0, 1) := by decide +kernel
theorem dL_pop_2 : decode mL_pop.2.1 2 = .ok (.aload_n 0, 1) := by decide +kernel
theorem dL_pop_3 : decode mL_pop.2.1 3 = .ok (.iload_n 1, 1) := by decide +kernel
theorem dL_pop_4 : decode mL_pop.2.1 4 = .ok (.iload_n 2, 1) := by decide +kernel
theorem dL_pop_5 : decode mL_pop.2.1 5 = .ok (.invokevirtual 30, 3) := by decide +kernel
theorem dL_pop_8 : decode mL_pop.2.1 8 = .ok (.i2l, 1) := by decide +kernel
theorem dL_pop_9 : decode mL_pop.2.1 9 = .ok (.lastore, 1) := by decide +kernel
theorem dL_pop_10 : decode mL_pop.2.1 10 = .ok (.goto 11, 3) := by decide +kernel
theorem dL_pop_13 : decode mL_pop.2.1 13 = .ok (.astore 4, 2) := by decide +kernel
theorem dL_pop_15 : decode mL_pop.2.1 15 = .ok (.iconst 1, 1) := by decide +kernel
theorem dL_pop_16 : decode mL_pop.2.1 16 = .ok (.ireturn, 1) := by decide +kernel
theorem dL_pop_17 : decode mL_pop.2.1 17 = .ok (.astore 4, 2) := by decide +kernel
theorem dL_pop_19 : decode mL_pop.2.1 19 = .ok (.iconst 2, 1) := by decide +kernel
theorem dL_pop_20 : decode mL_pop.2.1 20 = .ok (.ireturn, 1) := by decide +kernel
theorem dL_pop_21 : decode mL_pop.2.1 21 = .ok (.iconst 0, 1) := by decide +kernel
theorem dL_pop_22 : decode mL_pop.2.1 22 = .ok (.ireturn, 1) := by decide +kernel
theorem dL_commit_0 : decode mL_commit.2.1 0 = .ok (.aload_n 2, 1) := by decide +kernel
theorem dL_commit_1 : decode mL_commit.2.1 1 = .ok (.iconst 0, 1) := by decide +kernel
theorem dL_commit_2 : decode mL_commit.2.1 2 = .ok (.aload_n 0, 1) := by decide +kernel
theorem dL_commit_3 : decode mL_commit.2.1 3 = .ok (.iload_n 1, 1) := by decide +kernel
theorem dL_commit_4 : decode mL_commit.2.1 4 = .ok (.invokevirtual 34, 3) := by decide +kernel
theorem dL_commit_7 : decode mL_commit.2.1 7 = .ok (.i2l, 1) := by decide +kernel
theorem dL_commit_8 : decode mL_commit.2.1 8 = .ok (.lastore, 1) := by decide +kernel
theorem dL_commit_9 : decode mL_commit.2.1 9 = .ok (.goto 9, 3) := by decide +kernel
theorem dL_commit_12 : decode mL_commit.2.1 12 = .ok (.astore_n 3, 1) := by decide +kernel
theorem dL_commit_13 : decode mL_commit.2.1 13 = .ok (.iconst 1, 1) := by decide +kernel
theorem dL_commit_14 : decode mL_commit.2.1 14 = .ok (.ireturn, 1) := by decide +kernel
theorem dL_commit_15 : decode mL_commit.2.1 15 = .ok (.astore_n 3, 1) := by decide +kernel
theorem dL_commit_16 : decode mL_commit.2.1 16 = .ok (.iconst 2, 1) := by decide +kernel
theorem dL_commit_17 : decode mL_commit.2.1 17 = .ok (.ireturn, 1) := by decide +kernel
theorem dL_commit_18 : decode mL_commit.2.1 18 = .ok (.iconst 0, 1) := by decide +kernel
theorem dL_commit_19 : decode mL_commit.2.1 19 = .ok (.ireturn, 1) := by decide +kernel
theorem dL_drop_0 : decode mL_drop.2.1 0 = .ok (.aload_n 2, 1) := by decide +kernel
theorem dL_drop_1 : decode mL_drop.2.1 1 = .ok (.iconst 0, 1) := by decide +kernel
theorem dL_drop_2 : decode mL_drop.2.1 2 = .ok (.aload_n 0, 1) := by decide +kernel
theorem dL_drop_3 : decode mL_drop.2.1 3 = .ok (.iload_n 1, 1) := by decide +kernel
theorem dL_drop_4 : decode mL_drop.2.1 4 = .ok (.invokevirtual 37, 3) := by decide +kernel
theorem dL_drop_7 : decode mL_drop.2.1 7 = .ok (.i2l, 1) := by decide +kernel
theorem dL_drop_8 : decode mL_drop.2.1 8 = .ok (.lastore, 1) := by decide +kernel
theorem dL_drop_9 : decode mL_drop.2.1 9 = .ok (.goto 6, 3) := by decide +kernel
theorem dL_drop_12 : decode mL_drop.2.1 12 = .ok (.astore_n 3, 1) := by decide +kernel
theorem dL_drop_13 : decode mL_drop.2.1 13 = .ok (.iconst 1, 1) := by decide +kernel
theorem dL_drop_14 : decode mL_drop.2.1 14 = .ok (.ireturn, 1) := by decide +kernel
theorem dL_drop_15 : decode mL_drop.2.1 15 = .ok (.iconst 0, 1) := by decide +kernel
theorem dL_drop_16 : decode mL_drop.2.1 16 = .ok (.ireturn, 1) := by decide +kernel
theorem dL_spoiled_0 : decode mL_spoiled.2.1 0 = .ok (.aload_n 2, 1) := by decide +kernel
theorem dL_spoiled_1 : decode mL_spoiled.2.1 1 = .ok (.iconst 0, 1) := by decide +kernel
theorem dL_spoiled_2 : decode mL_spoiled.2.1 2 = .ok (.aload_n 0, 1) := by decide +kernel
theorem dL_spoiled_3 : decode mL_spoiled.2.1 3 = .ok (.iload_n 1, 1) := by decide +kernel
theorem dL_spoiled_4 : decode mL_spoiled.2.1 4 = .ok (.invokevirtual 40, 3) := by decide +kernel
theorem dL_spoiled_7 : decode mL_spoiled.2.1 7 = .ok (.ifCond .eq 7, 3) := by decide +kernel
theorem dL_spoiled_10 : decode mL_spoiled.2.1 10 = .ok (.lconst 1, 1) := by decide +kernel
theorem dL_spoiled_11 : decode mL_spoiled.2.1 11 = .ok (.goto 4, 3) := by decide +kernel
theorem dL_spoiled_14 : decode mL_spoiled.2.1 14 = .ok (.lconst 0, 1) := by decide +kernel
theorem dL_spoiled_15 : decode mL_spoiled.2.1 15 = .ok (.lastore, 1) := by decide +kernel
theorem dL_spoiled_16 : decode mL_spoiled.2.1 16 = .ok (.goto 6, 3) := by decide +kernel
theorem dL_spoiled_19 : decode mL_spoiled.2.1 19 = .ok (.astore_n 3, 1) := by decide +kernel
theorem dL_spoiled_20 : decode mL_spoiled.2.1 20 = .ok (.iconst 1, 1) := by decide +kernel
theorem dL_spoiled_21 : decode mL_spoiled.2.1 21 = .ok (.ireturn, 1) := by decide +kernel
theorem dL_spoiled_22 : decode mL_spoiled.2.1 22 = .ok (.iconst 0, 1) := by decide +kernel
theorem dL_spoiled_23 : decode mL_spoiled.2.1 23 = .ok (.ireturn, 1) := by decide +kernel
theorem dL_meets_0 : decode mL_meets.2.1 0 = .ok (.aload_n 3, 1) := by decide +kernel
theorem dL_meets_1 : decode mL_meets.2.1 1 = .ok (.iconst 0, 1) := by decide +kernel
theorem dL_meets_2 : decode mL_meets.2.1 2 = .ok (.aload_n 0, 1) := by decide +kernel
theorem dL_meets_3 : decode mL_meets.2.1 3 = .ok (.iload_n 1, 1) := by decide +kernel
theorem dL_meets_4 : decode mL_meets.2.1 4 = .ok (.iload_n 2, 1) := by decide +kernel
theorem dL_meets_5 : decode mL_meets.2.1 5 = .ok (.invokevirtual 44, 3) := by decide +kernel
theorem dL_meets_8 : decode mL_meets.2.1 8 = .ok (.ifCond .eq 7, 3) := by decide +kernel
theorem dL_meets_11 : decode mL_meets.2.1 11 = .ok (.lconst 1, 1) := by decide +kernel
theorem dL_meets_12 : decode mL_meets.2.1 12 = .ok (.goto 4, 3) := by decide +kernel
theorem dL_meets_15 : decode mL_meets.2.1 15 = .ok (.lconst 0, 1) := by decide +kernel
theorem dL_meets_16 : decode mL_meets.2.1 16 = .ok (.lastore, 1) := by decide +kernel
theorem dL_meets_17 : decode mL_meets.2.1 17 = .ok (.goto 7, 3) := by decide +kernel
theorem dL_meets_20 : decode mL_meets.2.1 20 = .ok (.astore 4, 2) := by decide +kernel
theorem dL_meets_22 : decode mL_meets.2.1 22 = .ok (.iconst 1, 1) := by decide +kernel
theorem dL_meets_23 : decode mL_meets.2.1 23 = .ok (.ireturn, 1) := by decide +kernel
theorem dL_meets_24 : decode mL_meets.2.1 24 = .ok (.iconst 0, 1) := by decide +kernel
theorem dL_meets_25 : decode mL_meets.2.1 25 = .ok (.ireturn, 1) := by decide +kernel
theorem dL_past_0 : decode mL_past.2.1 0 = .ok (.aload_n 3, 1) := by decide +kernel
theorem dL_past_1 : decode mL_past.2.1 1 = .ok (.iconst 0, 1) := by decide +kernel
theorem dL_past_2 : decode mL_past.2.1 2 = .ok (.aload_n 0, 1) := by decide +kernel
theorem dL_past_3 : decode mL_past.2.1 3 = .ok (.iload_n 1, 1) := by decide +kernel
theorem dL_past_4 : decode mL_past.2.1 4 = .ok (.iload_n 2, 1) := by decide +kernel
theorem dL_past_5 : decode mL_past.2.1 5 = .ok (.invokevirtual 48, 3) := by decide +kernel
theorem dL_past_8 : decode mL_past.2.1 8 = .ok (.lastore, 1) := by decide +kernel
theorem dL_past_9 : decode mL_past.2.1 9 = .ok (.goto 7, 3) := by decide +kernel
theorem dL_past_12 : decode mL_past.2.1 12 = .ok (.astore 4, 2) := by decide +kernel
theorem dL_past_14 : decode mL_past.2.1 14 = .ok (.iconst 1, 1) := by decide +kernel
theorem dL_past_15 : decode mL_past.2.1 15 = .ok (.ireturn, 1) := by decide +kernel
theorem dL_past_16 : decode mL_past.2.1 16 = .ok (.iconst 0, 1) := by decide +kernel
theorem dL_past_17 : decode mL_past.2.1 17 = .ok (.ireturn, 1) := by decide +kernel
theorem dL_about_0 : decode mL_about.2.1 0 = .ok (.aload_n 3, 1) := by decide +kernel
theorem dL_about_1 : decode mL_about.2.1 1 = .ok (.iconst 0, 1) := by decide +kernel
theorem dL_about_2 : decode mL_about.2.1 2 = .ok (.aload_n 0, 1) := by decide +kernel
theorem dL_about_3 : decode mL_about.2.1 3 = .ok (.iload_n 1, 1) := by decide +kernel
theorem dL_about_4 : decode mL_about.2.1 4 = .ok (.iload_n 2, 1) := by decide +kernel
theorem dL_about_5 : decode mL_about.2.1 5 = .ok (.invokevirtual 51, 3) := by decide +kernel
theorem dL_about_8 : decode mL_about.2.1 8 = .ok (.i2l, 1) := by decide +kernel
theorem dL_about_9 : decode mL_about.2.1 9 = .ok (.lastore, 1) := by decide +kernel
theorem dL_about_10 : decode mL_about.2.1 10 = .ok (.goto 11, 3) := by decide +kernel
theorem dL_about_13 : decode mL_about.2.1 13 = .ok (.astore 4, 2) := by decide +kernel
theorem dL_about_15 : decode mL_about.2.1 15 = .ok (.iconst 1, 1) := by decide +kernel
theorem dL_about_16 : decode mL_about.2.1 16 = .ok (.ireturn, 1) := by decide +kernel
theorem dL_about_17 : decode mL_about.2.1 17 = .ok (.astore 4, 2) := by decide +kernel
theorem dL_about_19 : decode mL_about.2.1 19 = .ok (.iconst 2, 1) := by decide +kernel
theorem dL_about_20 : decode mL_about.2.1 20 = .ok (.ireturn, 1) := by decide +kernel
theorem dL_about_21 : decode mL_about.2.1 21 = .ok (.iconst 0, 1) := by decide +kernel
theorem dL_about_22 : decode mL_about.2.1 22 = .ok (.ireturn, 1) := by decide +kernel
theorem dL_law_0 : decode mL_law.2.1 0 = .ok (.new 8, 3) := by decide +kernel
theorem dL_law_3 : decode mL_law.2.1 3 = .ok (.dup, 1) := by decide +kernel
theorem dL_law_4 : decode mL_law.2.1 4 = .ok (.invokespecial 55, 3) := by decide +kernel
theorem dL_law_7 : decode mL_law.2.1 7 = .ok (.astore_n 1, 1) := by decide +kernel
theorem dL_law_8 : decode mL_law.2.1 8 = .ok (.new 56, 3) := by decide +kernel
theorem dL_law_11 : decode mL_law.2.1 11 = .ok (.dup, 1) := by decide +kernel
theorem dL_law_12 : decode mL_law.2.1 12 = .ok (.invokespecial 58, 3) := by decide +kernel
theorem dL_law_15 : decode mL_law.2.1 15 = .ok (.astore_n 2, 1) := by decide +kernel
theorem dL_law_16 : decode mL_law.2.1 16 = .ok (.iconst 1, 1) := by decide +kernel
theorem dL_law_17 : decode mL_law.2.1 17 = .ok (.newarray .long, 2) := by decide +kernel
theorem dL_law_19 : decode mL_law.2.1 19 = .ok (.astore_n 3, 1) := by decide +kernel
theorem dL_law_20 : decode mL_law.2.1 20 = .ok (.iconst 0, 1) := by decide +kernel
theorem dL_law_21 : decode mL_law.2.1 21 = .ok (.istore 4, 2) := by decide +kernel
theorem dL_law_23 : decode mL_law.2.1 23 = .ok (.iload 4, 2) := by decide +kernel
theorem dL_law_25 : decode mL_law.2.1 25 = .ok (.aload_n 0, 1) := by decide +kernel
theorem dL_law_26 : decode mL_law.2.1 26 = .ok (.arraylength, 1) := by decide +kernel
theorem dL_law_27 : decode mL_law.2.1 27 = .ok (.iconst 5, 1) := by decide +kernel
theorem dL_law_28 : decode mL_law.2.1 28 = .ok (.isub, 1) := by decide +kernel
theorem dL_law_29 : decode mL_law.2.1 29 = .ok (.if_icmp .gt 878, 3) := by decide +kernel
theorem dL_law_32 : decode mL_law.2.1 32 = .ok (.aload_n 0, 1) := by decide +kernel
theorem dL_law_33 : decode mL_law.2.1 33 = .ok (.iload 4, 2) := by decide +kernel
theorem dL_law_35 : decode mL_law.2.1 35 = .ok (.iaload, 1) := by decide +kernel
theorem dL_law_36 : decode mL_law.2.1 36 = .ok (.bipush 15, 2) := by decide +kernel
theorem dL_law_38 : decode mL_law.2.1 38 = .ok (.iand, 1) := by decide +kernel
theorem dL_law_39 : decode mL_law.2.1 39 = .ok (.tableswitch 862 0 12 #[65, 121, 188, 299, 355, 439, 495, 551, 614, 689, 756, 769, 837], 65) := by decide +kernel
theorem dL_law_104 : decode mL_law.2.1 104 = .ok (.aload_n 1, 1) := by decide +kernel
theorem dL_law_105 : decode mL_law.2.1 105 = .ok (.aload_n 0, 1) := by decide +kernel
theorem dL_law_106 : decode mL_law.2.1 106 = .ok (.iload 4, 2) := by decide +kernel
theorem dL_law_108 : decode mL_law.2.1 108 = .ok (.iconst 1, 1) := by decide +kernel
theorem dL_law_109 : decode mL_law.2.1 109 = .ok (.iadd, 1) := by decide +kernel
theorem dL_law_110 : decode mL_law.2.1 110 = .ok (.iaload, 1) := by decide +kernel
theorem dL_law_111 : decode mL_law.2.1 111 = .ok (.aload_n 3, 1) := by decide +kernel
theorem dL_law_112 : decode mL_law.2.1 112 = .ok (.invokestatic 59, 3) := by decide +kernel
theorem dL_law_115 : decode mL_law.2.1 115 = .ok (.istore 5, 2) := by decide +kernel
theorem dL_law_117 : decode mL_law.2.1 117 = .ok (.aload_n 2, 1) := by decide +kernel
theorem dL_law_118 : decode mL_law.2.1 118 = .ok (.aload_n 0, 1) := by decide +kernel
theorem dL_law_119 : decode mL_law.2.1 119 = .ok (.iload 4, 2) := by decide +kernel
theorem dL_law_121 : decode mL_law.2.1 121 = .ok (.iconst 1, 1) := by decide +kernel
theorem dL_law_122 : decode mL_law.2.1 122 = .ok (.iadd, 1) := by decide +kernel
theorem dL_law_123 : decode mL_law.2.1 123 = .ok (.iaload, 1) := by decide +kernel
theorem dL_law_124 : decode mL_law.2.1 124 = .ok (.invokevirtual 64, 3) := by decide +kernel
theorem dL_law_127 : decode mL_law.2.1 127 = .ok (.istore 6, 2) := by decide +kernel
theorem dL_law_129 : decode mL_law.2.1 129 = .ok (.aload_n 2, 1) := by decide +kernel
theorem dL_law_130 : decode mL_law.2.1 130 = .ok (.invokevirtual 65, 3) := by decide +kernel
theorem dL_law_133 : decode mL_law.2.1 133 = .ok (.iload 5, 2) := by decide +kernel
theorem dL_law_135 : decode mL_law.2.1 135 = .ok (.if_icmp .eq 5, 3) := by decide +kernel
theorem dL_law_138 : decode mL_law.2.1 138 = .ok (.iconst 0, 1) := by decide +kernel
theorem dL_law_139 : decode mL_law.2.1 139 = .ok (.ireturn, 1) := by decide +kernel
theorem dL_law_140 : decode mL_law.2.1 140 = .ok (.iload 5, 2) := by decide +kernel
theorem dL_law_142 : decode mL_law.2.1 142 = .ok (.ifCond .ne 15, 3) := by decide +kernel
theorem dL_law_145 : decode mL_law.2.1 145 = .ok (.aload_n 3, 1) := by decide +kernel
theorem dL_law_146 : decode mL_law.2.1 146 = .ok (.iconst 0, 1) := by decide +kernel
theorem dL_law_147 : decode mL_law.2.1 147 = .ok (.laload, 1) := by decide +kernel
theorem dL_law_148 : decode mL_law.2.1 148 = .ok (.iload 6, 2) := by decide +kernel
theorem dL_law_150 : decode mL_law.2.1 150 = .ok (.i2l, 1) := by decide +kernel
theorem dL_law_151 : decode mL_law.2.1 151 = .ok (.lcmp, 1) := by decide +kernel
theorem dL_law_152 : decode mL_law.2.1 152 = .ok (.ifCond .eq 5, 3) := by decide +kernel
theorem dL_law_155 : decode mL_law.2.1 155 = .ok (.iconst 0, 1) := by decide +kernel
theorem dL_law_156 : decode mL_law.2.1 156 = .ok (.ireturn, 1) := by decide +kernel
theorem dL_law_157 : decode mL_law.2.1 157 = .ok (.goto 744, 3) := by decide +kernel
theorem dL_law_160 : decode mL_law.2.1 160 = .ok (.aload_n 1, 1) := by decide +kernel
theorem dL_law_161 : decode mL_law.2.1 161 = .ok (.aload_n 0, 1) := by decide +kernel
theorem dL_law_162 : decode mL_law.2.1 162 = .ok (.iload 4, 2) := by decide +kernel
theorem dL_law_164 : decode mL_law.2.1 164 = .ok (.iconst 1, 1) := by decide +kernel
theorem dL_law_165 : decode mL_law.2.1 165 = .ok (.iadd, 1) := by decide +kernel
theorem dL_law_166 : decode mL_law.2.1 166 = .ok (.iaload, 1) := by decide +kernel
theorem dL_law_167 : decode mL_law.2.1 167 = .ok (.aload_n 0, 1) := by decide +kernel
theorem dL_law_168 : decode mL_law.2.1 168 = .ok (.iload 4, 2) := by decide +kernel
theorem dL_law_170 : decode mL_law.2.1 170 = .ok (.iconst 2, 1) := by decide +kernel
theorem dL_law_171 : decode mL_law.2.1 171 = .ok (.iadd, 1) := by decide +kernel
theorem dL_law_172 : decode mL_law.2.1 172 = .ok (.iaload, 1) := by decide +kernel
theorem dL_law_173 : decode mL_law.2.1 173 = .ok (.aload_n 3, 1) := by decide +kernel
theorem dL_law_174 : decode mL_law.2.1 174 = .ok (.invokestatic 69, 3) := by decide +kernel
theorem dL_law_177 : decode mL_law.2.1 177 = .ok (.istore 5, 2) := by decide +kernel
theorem dL_law_179 : decode mL_law.2.1 179 = .ok (.aload_n 2, 1) := by decide +kernel
theorem dL_law_180 : decode mL_law.2.1 180 = .ok (.aload_n 0, 1) := by decide +kernel
theorem dL_law_181 : decode mL_law.2.1 181 = .ok (.iload 4, 2) := by decide +kernel
theorem dL_law_183 : decode mL_law.2.1 183 = .ok (.iconst 1, 1) := by decide +kernel
theorem dL_law_184 : decode mL_law.2.1 184 = .ok (.iadd, 1) := by decide +kernel
theorem dL_law_185 : decode mL_law.2.1 185 = .ok (.iaload, 1) := by decide +kernel
theorem dL_law_186 : decode mL_law.2.1 186 = .ok (.aload_n 0, 1) := by decide +kernel
theorem dL_law_187 : decode mL_law.2.1 187 = .ok (.iload 4, 2) := by decide +kernel
theorem dL_law_189 : decode mL_law.2.1 189 = .ok (.iconst 2, 1) := by decide +kernel
theorem dL_law_190 : decode mL_law.2.1 190 = .ok (.iadd, 1) := by decide +kernel
theorem dL_law_191 : decode mL_law.2.1 191 = .ok (.iaload, 1) := by decide +kernel
theorem dL_law_192 : decode mL_law.2.1 192 = .ok (.invokevirtual 72, 3) := by decide +kernel
theorem dL_law_195 : decode mL_law.2.1 195 = .ok (.lstore 6, 2) := by decide +kernel
theorem dL_law_197 : decode mL_law.2.1 197 = .ok (.aload_n 2, 1) := by decide +kernel
theorem dL_law_198 : decode mL_law.2.1 198 = .ok (.invokevirtual 65, 3) := by decide +kernel
theorem dL_law_201 : decode mL_law.2.1 201 = .ok (.iload 5, 2) := by decide +kernel
theorem dL_law_203 : decode mL_law.2.1 203 = .ok (.if_icmp .eq 5, 3) := by decide +kernel
theorem dL_law_206 : decode mL_law.2.1 206 = .ok (.iconst 0, 1) := by decide +kernel
theorem dL_law_207 : decode mL_law.2.1 207 = .ok (.ireturn, 1) := by decide +kernel
theorem dL_law_208 : decode mL_law.2.1 208 = .ok (.iload 5, 2) := by decide +kernel
theorem dL_law_210 : decode mL_law.2.1 210 = .ok (.ifCond .ne 14, 3) := by decide +kernel
theorem dL_law_213 : decode mL_law.2.1 213 = .ok (.aload_n 3, 1) := by decide +kernel
theorem dL_law_214 : decode mL_law.2.1 214 = .ok (.iconst 0, 1) := by decide +kernel
theorem dL_law_215 : decode mL_law.2.1 215 = .ok (.laload, 1) := by decide +kernel
theorem dL_law_216 : decode mL_law.2.1 216 = .ok (.lload 6, 2) := by decide +kernel
theorem dL_law_218 : decode mL_law.2.1 218 = .ok (.lcmp, 1) := by decide +kernel
theorem dL_law_219 : decode mL_law.2.1 219 = .ok (.ifCond .eq 5, 3) := by decide +kernel
theorem dL_law_222 : decode mL_law.2.1 222 = .ok (.iconst 0, 1) := by decide +kernel
theorem dL_law_223 : decode mL_law.2.1 223 = .ok (.ireturn, 1) := by decide +kernel
theorem dL_law_224 : decode mL_law.2.1 224 = .ok (.goto 677, 3) := by decide +kernel
theorem dL_law_227 : decode mL_law.2.1 227 = .ok (.aload_n 1, 1) := by decide +kernel
theorem dL_law_228 : decode mL_law.2.1 228 = .ok (.aload_n 0, 1) := by decide +kernel
theorem dL_law_229 : decode mL_law.2.1 229 = .ok (.iload 4, 2) := by decide +kernel
theorem dL_law_231 : decode mL_law.2.1 231 = .ok (.iconst 1, 1) := by decide +kernel
theorem dL_law_232 : decode mL_law.2.1 232 = .ok (.iadd, 1) := by decide +kernel
theorem dL_law_233 : decode mL_law.2.1 233 = .ok (.iaload, 1) := by decide +kernel
theorem dL_law_234 : decode mL_law.2.1 234 = .ok (.aload_n 0, 1) := by decide +kernel
theorem dL_law_235 : decode mL_law.2.1 235 = .ok (.iload 4, 2) := by decide +kernel
theorem dL_law_237 : decode mL_law.2.1 237 = .ok (.iconst 2, 1) := by decide +kernel
theorem dL_law_238 : decode mL_law.2.1 238 = .ok (.iadd, 1) := by decide +kernel
theorem dL_law_239 : decode mL_law.2.1 239 = .ok (.iaload, 1) := by decide +kernel
theorem dL_law_240 : decode mL_law.2.1 240 = .ok (.aload_n 0, 1) := by decide +kernel
theorem dL_law_241 : decode mL_law.2.1 241 = .ok (.iload 4, 2) := by decide +kernel
theorem dL_law_243 : decode mL_law.2.1 243 = .ok (.iconst 3, 1) := by decide +kernel
theorem dL_law_244 : decode mL_law.2.1 244 = .ok (.iadd, 1) := by decide +kernel
theorem dL_law_245 : decode mL_law.2.1 245 = .ok (.iaload, 1) := by decide +kernel
theorem dL_law_246 : decode mL_law.2.1 246 = .ok (.i2l, 1) := by decide +kernel
theorem dL_law_247 : decode mL_law.2.1 247 = .ok (.bipush 32, 2) := by decide +kernel
theorem dL_law_249 : decode mL_law.2.1 249 = .ok (.lshl, 1) := by decide +kernel
theorem dL_law_250 : decode mL_law.2.1 250 = .ok (.aload_n 0, 1) := by decide +kernel
theorem dL_law_251 : decode mL_law.2.1 251 = .ok (.iload 4, 2) := by decide +kernel
theorem dL_law_253 : decode mL_law.2.1 253 = .ok (.iconst 4, 1) := by decide +kernel
theorem dL_law_254 : decode mL_law.2.1 254 = .ok (.iadd, 1) := by decide +kernel
theorem dL_law_255 : decode mL_law.2.1 255 = .ok (.iaload, 1) := by decide +kernel
theorem dL_law_256 : decode mL_law.2.1 256 = .ok (.i2l, 1) := by decide +kernel
theorem dL_law_257 : decode mL_law.2.1 257 = .ok (.ldc2_w 73, 3) := by decide +kernel
theorem dL_law_260 : decode mL_law.2.1 260 = .ok (.land, 1) := by decide +kernel
theorem dL_law_261 : decode mL_law.2.1 261 = .ok (.lor, 1) := by decide +kernel
theorem dL_law_262 : decode mL_law.2.1 262 = .ok (.aload_n 3, 1) := by decide +kernel
theorem dL_law_263 : decode mL_law.2.1 263 = .ok (.invokestatic 75, 3) := by decide +kernel
theorem dL_law_266 : decode mL_law.2.1 266 = .ok (.istore 5, 2) := by decide +kernel
theorem dL_law_268 : decode mL_law.2.1 268 = .ok (.aload_n 2, 1) := by decide +kernel
theorem dL_law_269 : decode mL_law.2.1 269 = .ok (.aload_n 0, 1) := by decide +kernel
theorem dL_law_270 : decode mL_law.2.1 270 = .ok (.iload 4, 2) := by decide +kernel
theorem dL_law_272 : decode mL_law.2.1 272 = .ok (.iconst 1, 1) := by decide +kernel
theorem dL_law_273 : decode mL_law.2.1 273 = .ok (.iadd, 1) := by decide +kernel
theorem dL_law_274 : decode mL_law.2.1 274 = .ok (.iaload, 1) := by decide +kernel
theorem dL_law_275 : decode mL_law.2.1 275 = .ok (.aload_n 0, 1) := by decide +kernel
theorem dL_law_276 : decode mL_law.2.1 276 = .ok (.iload 4, 2) := by decide +kernel
theorem dL_law_278 : decode mL_law.2.1 278 = .ok (.iconst 2, 1) := by decide +kernel
theorem dL_law_279 : decode mL_law.2.1 279 = .ok (.iadd, 1) := by decide +kernel
theorem dL_law_280 : decode mL_law.2.1 280 = .ok (.iaload, 1) := by decide +kernel
theorem dL_law_281 : decode mL_law.2.1 281 = .ok (.aload_n 0, 1) := by decide +kernel
theorem dL_law_282 : decode mL_law.2.1 282 = .ok (.iload 4, 2) := by decide +kernel
theorem dL_law_284 : decode mL_law.2.1 284 = .ok (.iconst 3, 1) := by decide +kernel
theorem dL_law_285 : decode mL_law.2.1 285 = .ok (.iadd, 1) := by decide +kernel
theorem dL_law_286 : decode mL_law.2.1 286 = .ok (.iaload, 1) := by decide +kernel
theorem dL_law_287 : decode mL_law.2.1 287 = .ok (.i2l, 1) := by decide +kernel
theorem dL_law_288 : decode mL_law.2.1 288 = .ok (.bipush 32, 2) := by decide +kernel
theorem dL_law_290 : decode mL_law.2.1 290 = .ok (.lshl, 1) := by decide +kernel
theorem dL_law_291 : decode mL_law.2.1 291 = .ok (.aload_n 0, 1) := by decide +kernel
theorem dL_law_292 : decode mL_law.2.1 292 = .ok (.iload 4, 2) := by decide +kernel
theorem dL_law_294 : decode mL_law.2.1 294 = .ok (.iconst 4, 1) := by decide +kernel
theorem dL_law_295 : decode mL_law.2.1 295 = .ok (.iadd, 1) := by decide +kernel
theorem dL_law_296 : decode mL_law.2.1 296 = .ok (.iaload, 1) := by decide +kernel
theorem dL_law_297 : decode mL_law.2.1 297 = .ok (.i2l, 1) := by decide +kernel
theorem dL_law_298 : decode mL_law.2.1 298 = .ok (.ldc2_w 73, 3) := by decide +kernel
theorem dL_law_301 : decode mL_law.2.1 301 = .ok (.land, 1) := by decide +kernel
theorem dL_law_302 : decode mL_law.2.1 302 = .ok (.lor, 1) := by decide +kernel
theorem dL_law_303 : decode mL_law.2.1 303 = .ok (.invokevirtual 78, 3) := by decide +kernel
theorem dL_law_306 : decode mL_law.2.1 306 = .ok (.lstore 6, 2) := by decide +kernel
theorem dL_law_308 : decode mL_law.2.1 308 = .ok (.aload_n 2, 1) := by decide +kernel
theorem dL_law_309 : decode mL_law.2.1 309 = .ok (.invokevirtual 65, 3) := by decide +kernel
theorem dL_law_312 : decode mL_law.2.1 312 = .ok (.iload 5, 2) := by decide +kernel
theorem dL_law_314 : decode mL_law.2.1 314 = .ok (.if_icmp .eq 5, 3) := by decide +kernel
theorem dL_law_317 : decode mL_law.2.1 317 = .ok (.iconst 0, 1) := by decide +kernel
theorem dL_law_318 : decode mL_law.2.1 318 = .ok (.ireturn, 1) := by decide +kernel
theorem dL_law_319 : decode mL_law.2.1 319 = .ok (.iload 5, 2) := by decide +kernel
theorem dL_law_321 : decode mL_law.2.1 321 = .ok (.ifCond .ne 14, 3) := by decide +kernel
theorem dL_law_324 : decode mL_law.2.1 324 = .ok (.aload_n 3, 1) := by decide +kernel
theorem dL_law_325 : decode mL_law.2.1 325 = .ok (.iconst 0, 1) := by decide +kernel
theorem dL_law_326 : decode mL_law.2.1 326 = .ok (.laload, 1) := by decide +kernel
theorem dL_law_327 : decode mL_law.2.1 327 = .ok (.lload 6, 2) := by decide +kernel
theorem dL_law_329 : decode mL_law.2.1 329 = .ok (.lcmp, 1) := by decide +kernel
theorem dL_law_330 : decode mL_law.2.1 330 = .ok (.ifCond .eq 5, 3) := by decide +kernel
theorem dL_law_333 : decode mL_law.2.1 333 = .ok (.iconst 0, 1) := by decide +kernel
theorem dL_law_334 : decode mL_law.2.1 334 = .ok (.ireturn, 1) := by decide +kernel
theorem dL_law_335 : decode mL_law.2.1 335 = .ok (.goto 566, 3) := by decide +kernel
theorem dL_law_338 : decode mL_law.2.1 338 = .ok (.aload_n 1, 1) := by decide +kernel
theorem dL_law_339 : decode mL_law.2.1 339 = .ok (.aload_n 0, 1) := by decide +kernel
theorem dL_law_340 : decode mL_law.2.1 340 = .ok (.iload 4, 2) := by decide +kernel
theorem dL_law_342 : decode mL_law.2.1 342 = .ok (.iconst 1, 1) := by decide +kernel
theorem dL_law_343 : decode mL_law.2.1 343 = .ok (.iadd, 1) := by decide +kernel
theorem dL_law_344 : decode mL_law.2.1 344 = .ok (.iaload, 1) := by decide +kernel
theorem dL_law_345 : decode mL_law.2.1 345 = .ok (.aload_n 3, 1) := by decide +kernel
theorem dL_law_346 : decode mL_law.2.1 346 = .ok (.invokestatic 79, 3) := by decide +kernel
theorem dL_law_349 : decode mL_law.2.1 349 = .ok (.istore 5, 2) := by decide +kernel
theorem dL_law_351 : decode mL_law.2.1 351 = .ok (.aload_n 2, 1) := by decide +kernel
theorem dL_law_352 : decode mL_law.2.1 352 = .ok (.aload_n 0, 1) := by decide +kernel
theorem dL_law_353 : decode mL_law.2.1 353 = .ok (.iload 4, 2) := by decide +kernel
theorem dL_law_355 : decode mL_law.2.1 355 = .ok (.iconst 1, 1) := by decide +kernel
theorem dL_law_356 : decode mL_law.2.1 356 = .ok (.iadd, 1) := by decide +kernel
theorem dL_law_357 : decode mL_law.2.1 357 = .ok (.iaload, 1) := by decide +kernel
theorem dL_law_358 : decode mL_law.2.1 358 = .ok (.invokevirtual 81, 3) := by decide +kernel
theorem dL_law_361 : decode mL_law.2.1 361 = .ok (.istore 6, 2) := by decide +kernel
theorem dL_law_363 : decode mL_law.2.1 363 = .ok (.aload_n 2, 1) := by decide +kernel
theorem dL_law_364 : decode mL_law.2.1 364 = .ok (.invokevirtual 65, 3) := by decide +kernel
theorem dL_law_367 : decode mL_law.2.1 367 = .ok (.iload 5, 2) := by decide +kernel
theorem dL_law_369 : decode mL_law.2.1 369 = .ok (.if_icmp .eq 5, 3) := by decide +kernel
theorem dL_law_372 : decode mL_law.2.1 372 = .ok (.iconst 0, 1) := by decide +kernel
theorem dL_law_373 : decode mL_law.2.1 373 = .ok (.ireturn, 1) := by decide +kernel
theorem dL_law_374 : decode mL_law.2.1 374 = .ok (.iload 5, 2) := by decide +kernel
theorem dL_law_376 : decode mL_law.2.1 376 = .ok (.ifCond .ne 15, 3) := by decide +kernel
theorem dL_law_379 : decode mL_law.2.1 379 = .ok (.aload_n 3, 1) := by decide +kernel
theorem dL_law_380 : decode mL_law.2.1 380 = .ok (.iconst 0, 1) := by decide +kernel
theorem dL_law_381 : decode mL_law.2.1 381 = .ok (.laload, 1) := by decide +kernel
theorem dL_law_382 : decode mL_law.2.1 382 = .ok (.iload 6, 2) := by decide +kernel
theorem dL_law_384 : decode mL_law.2.1 384 = .ok (.i2l, 1) := by decide +kernel
theorem dL_law_385 : decode mL_law.2.1 385 = .ok (.lcmp, 1) := by decide +kernel
theorem dL_law_386 : decode mL_law.2.1 386 = .ok (.ifCond .eq 5, 3) := by decide +kernel
theorem dL_law_389 : decode mL_law.2.1 389 = .ok (.iconst 0, 1) := by decide +kernel
theorem dL_law_390 : decode mL_law.2.1 390 = .ok (.ireturn, 1) := by decide +kernel
theorem dL_law_391 : decode mL_law.2.1 391 = .ok (.goto 510, 3) := by decide +kernel
theorem dL_law_394 : decode mL_law.2.1 394 = .ok (.aload_n 1, 1) := by decide +kernel
theorem dL_law_395 : decode mL_law.2.1 395 = .ok (.aload_n 0, 1) := by decide +kernel
theorem dL_law_396 : decode mL_law.2.1 396 = .ok (.iload 4, 2) := by decide +kernel
theorem dL_law_398 : decode mL_law.2.1 398 = .ok (.iconst 1, 1) := by decide +kernel
theorem dL_law_399 : decode mL_law.2.1 399 = .ok (.iadd, 1) := by decide +kernel
theorem dL_law_400 : decode mL_law.2.1 400 = .ok (.iaload, 1) := by decide +kernel
theorem dL_law_401 : decode mL_law.2.1 401 = .ok (.aload_n 0, 1) := by decide +kernel
theorem dL_law_402 : decode mL_law.2.1 402 = .ok (.iload 4, 2) := by decide +kernel
theorem dL_law_404 : decode mL_law.2.1 404 = .ok (.iconst 2, 1) := by decide +kernel
theorem dL_law_405 : decode mL_law.2.1 405 = .ok (.iadd, 1) := by decide +kernel
theorem dL_law_406 : decode mL_law.2.1 406 = .ok (.iaload, 1) := by decide +kernel
theorem dL_law_407 : decode mL_law.2.1 407 = .ok (.ifCond .eq 7, 3) := by decide +kernel
theorem dL_law_410 : decode mL_law.2.1 410 = .ok (.iconst 1, 1) := by decide +kernel
theorem dL_law_411 : decode mL_law.2.1 411 = .ok (.goto 4, 3) := by decide +kernel
theorem dL_law_414 : decode mL_law.2.1 414 = .ok (.iconst 0, 1) := by decide +kernel

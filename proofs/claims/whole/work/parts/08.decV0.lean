theorem dV_init_0 : decode mV_init.2.1 0 = .ok (.aload_n 0, 1) := by decide +kernel
theorem dV_init_1 : decode mV_init.2.1 1 = .ok (.invokespecial 3, 3) := by decide +kernel
theorem dV_init_4 : decode mV_init.2.1 4 = .ok (.aload_n 0, 1) := by decide +kernel
theorem dV_init_5 : decode mV_init.2.1 5 = .ok (.sipush 500, 3) := by decide +kernel
theorem dV_init_8 : decode mV_init.2.1 8 = .ok (.newarray .int, 2) := by decide +kernel
theorem dV_init_10 : decode mV_init.2.1 10 = .ok (.putfield 9, 3) := by decide +kernel
theorem dV_init_13 : decode mV_init.2.1 13 = .ok (.aload_n 0, 1) := by decide +kernel
theorem dV_init_14 : decode mV_init.2.1 14 = .ok (.sipush 500, 3) := by decide +kernel
theorem dV_init_17 : decode mV_init.2.1 17 = .ok (.newarray .int, 2) := by decide +kernel
theorem dV_init_19 : decode mV_init.2.1 19 = .ok (.putfield 15, 3) := by decide +kernel
theorem dV_init_22 : decode mV_init.2.1 22 = .ok (.aload_n 0, 1) := by decide +kernel
theorem dV_init_23 : decode mV_init.2.1 23 = .ok (.sipush 500, 3) := by decide +kernel
theorem dV_init_26 : decode mV_init.2.1 26 = .ok (.newarray .long, 2) := by decide +kernel
theorem dV_init_28 : decode mV_init.2.1 28 = .ok (.putfield 18, 3) := by decide +kernel
theorem dV_init_31 : decode mV_init.2.1 31 = .ok (.iconst 0, 1) := by decide +kernel
theorem dV_init_32 : decode mV_init.2.1 32 = .ok (.istore_n 1, 1) := by decide +kernel
theorem dV_init_33 : decode mV_init.2.1 33 = .ok (.iload_n 1, 1) := by decide +kernel
theorem dV_init_34 : decode mV_init.2.1 34 = .ok (.bipush 16, 2) := by decide +kernel
theorem dV_init_36 : decode mV_init.2.1 36 = .ok (.if_icmp .ge 16, 3) := by decide +kernel
theorem dV_init_39 : decode mV_init.2.1 39 = .ok (.aload_n 0, 1) := by decide +kernel
theorem dV_init_40 : decode mV_init.2.1 40 = .ok (.getfield 9, 3) := by decide +kernel
theorem dV_init_43 : decode mV_init.2.1 43 = .ok (.iload_n 1, 1) := by decide +kernel
theorem dV_init_44 : decode mV_init.2.1 44 = .ok (.iload_n 1, 1) := by decide +kernel
theorem dV_init_45 : decode mV_init.2.1 45 = .ok (.iastore, 1) := by decide +kernel
theorem dV_init_46 : decode mV_init.2.1 46 = .ok (.iinc 1 1, 3) := by decide +kernel
theorem dV_init_49 : decode mV_init.2.1 49 = .ok (.goto (-16), 3) := by decide +kernel
theorem dV_init_52 : decode mV_init.2.1 52 = .ok (.aload_n 0, 1) := by decide +kernel
theorem dV_init_53 : decode mV_init.2.1 53 = .ok (.bipush 16, 2) := by decide +kernel
theorem dV_init_55 : decode mV_init.2.1 55 = .ok (.putfield 22, 3) := by decide +kernel
theorem dV_init_58 : decode mV_init.2.1 58 = .ok (.return_, 1) := by decide +kernel
theorem dV_size_0 : decode mV_size.2.1 0 = .ok (.aload_n 0, 1) := by decide +kernel
theorem dV_size_1 : decode mV_size.2.1 1 = .ok (.getfield 22, 3) := by decide +kernel
theorem dV_size_4 : decode mV_size.2.1 4 = .ok (.ireturn, 1) := by decide +kernel
theorem dV_haveRoomFor_0 : decode mV_haveRoomFor.2.1 0 = .ok (.aload_n 0, 1) := by decide +kernel
theorem dV_haveRoomFor_1 : decode mV_haveRoomFor.2.1 1 = .ok (.getfield 22, 3) := by decide +kernel
theorem dV_haveRoomFor_4 : decode mV_haveRoomFor.2.1 4 = .ok (.iload_n 1, 1) := by decide +kernel
theorem dV_haveRoomFor_5 : decode mV_haveRoomFor.2.1 5 = .ok (.iadd, 1) := by decide +kernel
theorem dV_haveRoomFor_6 : decode mV_haveRoomFor.2.1 6 = .ok (.sipush 500, 3) := by decide +kernel
theorem dV_haveRoomFor_9 : decode mV_haveRoomFor.2.1 9 = .ok (.if_icmp .gt 7, 3) := by decide +kernel
theorem dV_haveRoomFor_12 : decode mV_haveRoomFor.2.1 12 = .ok (.iconst 1, 1) := by decide +kernel
theorem dV_haveRoomFor_13 : decode mV_haveRoomFor.2.1 13 = .ok (.goto 4, 3) := by decide +kernel
theorem dV_haveRoomFor_16 : decode mV_haveRoomFor.2.1 16 = .ok (.iconst 0, 1) := by decide +kernel
theorem dV_haveRoomFor_17 : decode mV_haveRoomFor.2.1 17 = .ok (.ireturn, 1) := by decide +kernel
theorem dV_append_0 : decode mV_append.2.1 0 = .ok (.aload_n 0, 1) := by decide +kernel
theorem dV_append_1 : decode mV_append.2.1 1 = .ok (.getfield 22, 3) := by decide +kernel
theorem dV_append_4 : decode mV_append.2.1 4 = .ok (.sipush 500, 3) := by decide +kernel
theorem dV_append_7 : decode mV_append.2.1 7 = .ok (.if_icmp .ge 43, 3) := by decide +kernel
theorem dV_append_10 : decode mV_append.2.1 10 = .ok (.aload_n 0, 1) := by decide +kernel
theorem dV_append_11 : decode mV_append.2.1 11 = .ok (.getfield 9, 3) := by decide +kernel
theorem dV_append_14 : decode mV_append.2.1 14 = .ok (.aload_n 0, 1) := by decide +kernel
theorem dV_append_15 : decode mV_append.2.1 15 = .ok (.getfield 22, 3) := by decide +kernel
theorem dV_append_18 : decode mV_append.2.1 18 = .ok (.iload_n 1, 1) := by decide +kernel
theorem dV_append_19 : decode mV_append.2.1 19 = .ok (.iastore, 1) := by decide +kernel
theorem dV_append_20 : decode mV_append.2.1 20 = .ok (.aload_n 0, 1) := by decide +kernel
theorem dV_append_21 : decode mV_append.2.1 21 = .ok (.getfield 15, 3) := by decide +kernel
theorem dV_append_24 : decode mV_append.2.1 24 = .ok (.aload_n 0, 1) := by decide +kernel
theorem dV_append_25 : decode mV_append.2.1 25 = .ok (.getfield 22, 3) := by decide +kernel
theorem dV_append_28 : decode mV_append.2.1 28 = .ok (.iload_n 2, 1) := by decide +kernel
theorem dV_append_29 : decode mV_append.2.1 29 = .ok (.iastore, 1) := by decide +kernel
theorem dV_append_30 : decode mV_append.2.1 30 = .ok (.aload_n 0, 1) := by decide +kernel
theorem dV_append_31 : decode mV_append.2.1 31 = .ok (.getfield 18, 3) := by decide +kernel
theorem dV_append_34 : decode mV_append.2.1 34 = .ok (.aload_n 0, 1) := by decide +kernel
theorem dV_append_35 : decode mV_append.2.1 35 = .ok (.getfield 22, 3) := by decide +kernel
theorem dV_append_38 : decode mV_append.2.1 38 = .ok (.lload_n 3, 1) := by decide +kernel
theorem dV_append_39 : decode mV_append.2.1 39 = .ok (.lastore, 1) := by decide +kernel
theorem dV_append_40 : decode mV_append.2.1 40 = .ok (.aload_n 0, 1) := by decide +kernel
theorem dV_append_41 : decode mV_append.2.1 41 = .ok (.dup, 1) := by decide +kernel
theorem dV_append_42 : decode mV_append.2.1 42 = .ok (.getfield 22, 3) := by decide +kernel
theorem dV_append_45 : decode mV_append.2.1 45 = .ok (.iconst 1, 1) := by decide +kernel
theorem dV_append_46 : decode mV_append.2.1 46 = .ok (.iadd, 1) := by decide +kernel
theorem dV_append_47 : decode mV_append.2.1 47 = .ok (.putfield 22, 3) := by decide +kernel
theorem dV_append_50 : decode mV_append.2.1 50 = .ok (.return_, 1) := by decide +kernel
theorem dV_know_0 : decode mV_know.2.1 0 = .ok (.aload_n 0, 1) := by decide +kernel
theorem dV_know_1 : decode mV_know.2.1 1 = .ok (.iload_n 1, 1) := by decide +kernel
theorem dV_know_2 : decode mV_know.2.1 2 = .ok (.iload_n 2, 1) := by decide +kernel
theorem dV_know_3 : decode mV_know.2.1 3 = .ok (.invokevirtual 26, 3) := by decide +kernel
theorem dV_know_6 : decode mV_know.2.1 6 = .ok (.ifCond .lt 7, 3) := by decide +kernel
theorem dV_know_9 : decode mV_know.2.1 9 = .ok (.iconst 1, 1) := by decide +kernel
theorem dV_know_10 : decode mV_know.2.1 10 = .ok (.goto 4, 3) := by decide +kernel
theorem dV_know_13 : decode mV_know.2.1 13 = .ok (.iconst 0, 1) := by decide +kernel
theorem dV_know_14 : decode mV_know.2.1 14 = .ok (.ireturn, 1) := by decide +kernel
theorem dV_valueAt_0 : decode mV_valueAt.2.1 0 = .ok (.aload_n 0, 1) := by decide +kernel
theorem dV_valueAt_1 : decode mV_valueAt.2.1 1 = .ok (.iload_n 1, 1) := by decide +kernel
theorem dV_valueAt_2 : decode mV_valueAt.2.1 2 = .ok (.iload_n 2, 1) := by decide +kernel
theorem dV_valueAt_3 : decode mV_valueAt.2.1 3 = .ok (.invokevirtual 26, 3) := by decide +kernel
theorem dV_valueAt_6 : decode mV_valueAt.2.1 6 = .ok (.istore_n 3, 1) := by decide +kernel
theorem dV_valueAt_7 : decode mV_valueAt.2.1 7 = .ok (.iload_n 3, 1) := by decide +kernel
theorem dV_valueAt_8 : decode mV_valueAt.2.1 8 = .ok (.ifCond .lt 12, 3) := by decide +kernel
theorem dV_valueAt_11 : decode mV_valueAt.2.1 11 = .ok (.aload_n 0, 1) := by decide +kernel
theorem dV_valueAt_12 : decode mV_valueAt.2.1 12 = .ok (.getfield 18, 3) := by decide +kernel
theorem dV_valueAt_15 : decode mV_valueAt.2.1 15 = .ok (.iload_n 3, 1) := by decide +kernel
theorem dV_valueAt_16 : decode mV_valueAt.2.1 16 = .ok (.laload, 1) := by decide +kernel
theorem dV_valueAt_17 : decode mV_valueAt.2.1 17 = .ok (.goto 4, 3) := by decide +kernel
theorem dV_valueAt_20 : decode mV_valueAt.2.1 20 = .ok (.lconst 0, 1) := by decide +kernel
theorem dV_valueAt_21 : decode mV_valueAt.2.1 21 = .ok (.lreturn, 1) := by decide +kernel
theorem dV_cellsWrittenAfter_0 : decode mV_cellsWrittenAfter.2.1 0 = .ok (.iconst 0, 1) := by decide +kernel
theorem dV_cellsWrittenAfter_1 : decode mV_cellsWrittenAfter.2.1 1 = .ok (.istore_n 2, 1) := by decide +kernel
theorem dV_cellsWrittenAfter_2 : decode mV_cellsWrittenAfter.2.1 2 = .ok (.aload_n 0, 1) := by decide +kernel
theorem dV_cellsWrittenAfter_3 : decode mV_cellsWrittenAfter.2.1 3 = .ok (.getfield 22, 3) := by decide +kernel
theorem dV_cellsWrittenAfter_6 : decode mV_cellsWrittenAfter.2.1 6 = .ok (.iconst 1, 1) := by decide +kernel
theorem dV_cellsWrittenAfter_7 : decode mV_cellsWrittenAfter.2.1 7 = .ok (.isub, 1) := by decide +kernel
theorem dV_cellsWrittenAfter_8 : decode mV_cellsWrittenAfter.2.1 8 = .ok (.istore_n 3, 1) := by decide +kernel
theorem dV_cellsWrittenAfter_9 : decode mV_cellsWrittenAfter.2.1 9 = .ok (.iload_n 3, 1) := by decide +kernel
theorem dV_cellsWrittenAfter_10 : decode mV_cellsWrittenAfter.2.1 10 = .ok (.ifCond .lt 30, 3) := by decide +kernel
theorem dV_cellsWrittenAfter_13 : decode mV_cellsWrittenAfter.2.1 13 = .ok (.aload_n 0, 1) := by decide +kernel
theorem dV_cellsWrittenAfter_14 : decode mV_cellsWrittenAfter.2.1 14 = .ok (.getfield 15, 3) := by decide +kernel
theorem dV_cellsWrittenAfter_17 : decode mV_cellsWrittenAfter.2.1 17 = .ok (.iload_n 3, 1) := by decide +kernel
theorem dV_cellsWrittenAfter_18 : decode mV_cellsWrittenAfter.2.1 18 = .ok (.iaload, 1) := by decide +kernel
theorem dV_cellsWrittenAfter_19 : decode mV_cellsWrittenAfter.2.1 19 = .ok (.iload_n 1, 1) := by decide +kernel
theorem dV_cellsWrittenAfter_20 : decode mV_cellsWrittenAfter.2.1 20 = .ok (.if_icmp .le 20, 3) := by decide +kernel
theorem dV_cellsWrittenAfter_23 : decode mV_cellsWrittenAfter.2.1 23 = .ok (.iload_n 2, 1) := by decide +kernel
theorem dV_cellsWrittenAfter_24 : decode mV_cellsWrittenAfter.2.1 24 = .ok (.iconst 1, 1) := by decide +kernel
theorem dV_cellsWrittenAfter_25 : decode mV_cellsWrittenAfter.2.1 25 = .ok (.aload_n 0, 1) := by decide +kernel
theorem dV_cellsWrittenAfter_26 : decode mV_cellsWrittenAfter.2.1 26 = .ok (.getfield 9, 3) := by decide +kernel
theorem dV_cellsWrittenAfter_29 : decode mV_cellsWrittenAfter.2.1 29 = .ok (.iload_n 3, 1) := by decide +kernel
theorem dV_cellsWrittenAfter_30 : decode mV_cellsWrittenAfter.2.1 30 = .ok (.iaload, 1) := by decide +kernel
theorem dV_cellsWrittenAfter_31 : decode mV_cellsWrittenAfter.2.1 31 = .ok (.ishl, 1) := by decide +kernel
theorem dV_cellsWrittenAfter_32 : decode mV_cellsWrittenAfter.2.1 32 = .ok (.ior, 1) := by decide +kernel
theorem dV_cellsWrittenAfter_33 : decode mV_cellsWrittenAfter.2.1 33 = .ok (.istore_n 2, 1) := by decide +kernel
theorem dV_cellsWrittenAfter_34 : decode mV_cellsWrittenAfter.2.1 34 = .ok (.iinc 3 (-1), 3) := by decide +kernel
theorem dV_cellsWrittenAfter_37 : decode mV_cellsWrittenAfter.2.1 37 = .ok (.goto (-28), 3) := by decide +kernel
theorem dV_cellsWrittenAfter_40 : decode mV_cellsWrittenAfter.2.1 40 = .ok (.iload_n 2, 1) := by decide +kernel
theorem dV_cellsWrittenAfter_41 : decode mV_cellsWrittenAfter.2.1 41 = .ok (.ireturn, 1) := by decide +kernel
theorem dV_removeCovered_0 : decode mV_removeCovered.2.1 0 = .ok (.iconst 0, 1) := by decide +kernel
theorem dV_removeCovered_1 : decode mV_removeCovered.2.1 1 = .ok (.istore_n 2, 1) := by decide +kernel
theorem dV_removeCovered_2 : decode mV_removeCovered.2.1 2 = .ok (.aload_n 0, 1) := by decide +kernel
theorem dV_removeCovered_3 : decode mV_removeCovered.2.1 3 = .ok (.getfield 22, 3) := by decide +kernel
theorem dV_removeCovered_6 : decode mV_removeCovered.2.1 6 = .ok (.istore_n 3, 1) := by decide +kernel
theorem dV_removeCovered_7 : decode mV_removeCovered.2.1 7 = .ok (.aload_n 0, 1) := by decide +kernel
theorem dV_removeCovered_8 : decode mV_removeCovered.2.1 8 = .ok (.getfield 22, 3) := by decide +kernel
theorem dV_removeCovered_11 : decode mV_removeCovered.2.1 11 = .ok (.iconst 1, 1) := by decide +kernel
theorem dV_removeCovered_12 : decode mV_removeCovered.2.1 12 = .ok (.isub, 1) := by decide +kernel
theorem dV_removeCovered_13 : decode mV_removeCovered.2.1 13 = .ok (.istore 4, 2) := by decide +kernel
theorem dV_removeCovered_15 : decode mV_removeCovered.2.1 15 = .ok (.iload 4, 2) := by decide +kernel
theorem dV_removeCovered_17 : decode mV_removeCovered.2.1 17 = .ok (.ifCond .lt 52, 3) := by decide +kernel
theorem dV_removeCovered_20 : decode mV_removeCovered.2.1 20 = .ok (.iconst 1, 1) := by decide +kernel
theorem dV_removeCovered_21 : decode mV_removeCovered.2.1 21 = .ok (.aload_n 0, 1) := by decide +kernel
theorem dV_removeCovered_22 : decode mV_removeCovered.2.1 22 = .ok (.getfield 9, 3) := by decide +kernel
theorem dV_removeCovered_25 : decode mV_removeCovered.2.1 25 = .ok (.iload 4, 2) := by decide +kernel
theorem dV_removeCovered_27 : decode mV_removeCovered.2.1 27 = .ok (.iaload, 1) := by decide +kernel
theorem dV_removeCovered_28 : decode mV_removeCovered.2.1 28 = .ok (.ishl, 1) := by decide +kernel
theorem dV_removeCovered_29 : decode mV_removeCovered.2.1 29 = .ok (.istore 5, 2) := by decide +kernel
theorem dV_removeCovered_31 : decode mV_removeCovered.2.1 31 = .ok (.iload_n 2, 1) := by decide +kernel
theorem dV_removeCovered_32 : decode mV_removeCovered.2.1 32 = .ok (.iload 5, 2) := by decide +kernel
theorem dV_removeCovered_34 : decode mV_removeCovered.2.1 34 = .ok (.iand, 1) := by decide +kernel
theorem dV_removeCovered_35 : decode mV_removeCovered.2.1 35 = .ok (.ifCond .ne 28, 3) := by decide +kernel
theorem dV_removeCovered_38 : decode mV_removeCovered.2.1 38 = .ok (.iinc 3 (-1), 3) := by decide +kernel
theorem dV_removeCovered_41 : decode mV_removeCovered.2.1 41 = .ok (.aload_n 0, 1) := by decide +kernel
theorem dV_removeCovered_42 : decode mV_removeCovered.2.1 42 = .ok (.iload 4, 2) := by decide +kernel
theorem dV_removeCovered_44 : decode mV_removeCovered.2.1 44 = .ok (.iload_n 3, 1) := by decide +kernel
theorem dV_removeCovered_45 : decode mV_removeCovered.2.1 45 = .ok (.invokevirtual 30, 3) := by decide +kernel
theorem dV_removeCovered_48 : decode mV_removeCovered.2.1 48 = .ok (.aload_n 0, 1) := by decide +kernel
theorem dV_removeCovered_49 : decode mV_removeCovered.2.1 49 = .ok (.getfield 15, 3) := by decide +kernel
theorem dV_removeCovered_52 : decode mV_removeCovered.2.1 52 = .ok (.iload_n 3, 1) := by decide +kernel
theorem dV_removeCovered_53 : decode mV_removeCovered.2.1 53 = .ok (.iaload, 1) := by decide +kernel
theorem dV_removeCovered_54 : decode mV_removeCovered.2.1 54 = .ok (.iload_n 1, 1) := by decide +kernel
theorem dV_removeCovered_55 : decode mV_removeCovered.2.1 55 = .ok (.if_icmp .gt 8, 3) := by decide +kernel
theorem dV_removeCovered_58 : decode mV_removeCovered.2.1 58 = .ok (.iload_n 2, 1) := by decide +kernel
theorem dV_removeCovered_59 : decode mV_removeCovered.2.1 59 = .ok (.iload 5, 2) := by decide +kernel
theorem dV_removeCovered_61 : decode mV_removeCovered.2.1 61 = .ok (.ior, 1) := by decide +kernel
theorem dV_removeCovered_62 : decode mV_removeCovered.2.1 62 = .ok (.istore_n 2, 1) := by decide +kernel
theorem dV_removeCovered_63 : decode mV_removeCovered.2.1 63 = .ok (.iinc 4 (-1), 3) := by decide +kernel
theorem dV_removeCovered_66 : decode mV_removeCovered.2.1 66 = .ok (.goto (-51), 3) := by decide +kernel
theorem dV_removeCovered_69 : decode mV_removeCovered.2.1 69 = .ok (.iload_n 3, 1) := by decide +kernel
theorem dV_removeCovered_70 : decode mV_removeCovered.2.1 70 = .ok (.istore 4, 2) := by decide +kernel
theorem dV_removeCovered_72 : decode mV_removeCovered.2.1 72 = .ok (.iload 4, 2) := by decide +kernel
theorem dV_removeCovered_74 : decode mV_removeCovered.2.1 74 = .ok (.aload_n 0, 1) := by decide +kernel
theorem dV_removeCovered_75 : decode mV_removeCovered.2.1 75 = .ok (.getfield 22, 3) := by decide +kernel
theorem dV_removeCovered_78 : decode mV_removeCovered.2.1 78 = .ok (.if_icmp .ge 19, 3) := by decide +kernel
theorem dV_removeCovered_81 : decode mV_removeCovered.2.1 81 = .ok (.aload_n 0, 1) := by decide +kernel
theorem dV_removeCovered_82 : decode mV_removeCovered.2.1 82 = .ok (.iload 4, 2) := by decide +kernel
theorem dV_removeCovered_84 : decode mV_removeCovered.2.1 84 = .ok (.iload 4, 2) := by decide +kernel
theorem dV_removeCovered_86 : decode mV_removeCovered.2.1 86 = .ok (.iload_n 3, 1) := by decide +kernel
theorem dV_removeCovered_87 : decode mV_removeCovered.2.1 87 = .ok (.isub, 1) := by decide +kernel
theorem dV_removeCovered_88 : decode mV_removeCovered.2.1 88 = .ok (.invokevirtual 30, 3) := by decide +kernel
theorem dV_removeCovered_91 : decode mV_removeCovered.2.1 91 = .ok (.iinc 4 1, 3) := by decide +kernel
theorem dV_removeCovered_94 : decode mV_removeCovered.2.1 94 = .ok (.goto (-22), 3) := by decide +kernel
theorem dV_removeCovered_97 : decode mV_removeCovered.2.1 97 = .ok (.aload_n 0, 1) := by decide +kernel
theorem dV_removeCovered_98 : decode mV_removeCovered.2.1 98 = .ok (.dup, 1) := by decide +kernel
theorem dV_removeCovered_99 : decode mV_removeCovered.2.1 99 = .ok (.getfield 22, 3) := by decide +kernel
theorem dV_removeCovered_102 : decode mV_removeCovered.2.1 102 = .ok (.iload_n 3, 1) := by decide +kernel
theorem dV_removeCovered_103 : decode mV_removeCovered.2.1 103 = .ok (.isub, 1) := by decide +kernel
theorem dV_removeCovered_104 : decode mV_removeCovered.2.1 104 = .ok (.putfield 22, 3) := by decide +kernel
theorem dV_removeCovered_107 : decode mV_removeCovered.2.1 107 = .ok (.iload_n 3, 1) := by decide +kernel
theorem dV_removeCovered_108 : decode mV_removeCovered.2.1 108 = .ok (.ireturn, 1) := by decide +kernel
theorem dV_indexAt_0 : decode mV_indexAt.2.1 0 = .ok (.aload_n 0, 1) := by decide +kernel
theorem dV_indexAt_1 : decode mV_indexAt.2.1 1 = .ok (.getfield 22, 3) := by decide +kernel
theorem dV_indexAt_4 : decode mV_indexAt.2.1 4 = .ok (.iconst 1, 1) := by decide +kernel
theorem dV_indexAt_5 : decode mV_indexAt.2.1 5 = .ok (.isub, 1) := by decide +kernel
theorem dV_indexAt_6 : decode mV_indexAt.2.1 6 = .ok (.istore_n 3, 1) := by decide +kernel
theorem dV_indexAt_7 : decode mV_indexAt.2.1 7 = .ok (.iload_n 3, 1) := by decide +kernel
theorem dV_indexAt_8 : decode mV_indexAt.2.1 8 = .ok (.ifCond .lt 29, 3) := by decide +kernel
theorem dV_indexAt_11 : decode mV_indexAt.2.1 11 = .ok (.aload_n 0, 1) := by decide +kernel
theorem dV_indexAt_12 : decode mV_indexAt.2.1 12 = .ok (.getfield 9, 3) := by decide +kernel
theorem dV_indexAt_15 : decode mV_indexAt.2.1 15 = .ok (.iload_n 3, 1) := by decide +kernel
theorem dV_indexAt_16 : decode mV_indexAt.2.1 16 = .ok (.iaload, 1) := by decide +kernel
theorem dV_indexAt_17 : decode mV_indexAt.2.1 17 = .ok (.iload_n 1, 1) := by decide +kernel
theorem dV_indexAt_18 : decode mV_indexAt.2.1 18 = .ok (.if_icmp .ne 13, 3) := by decide +kernel
theorem dV_indexAt_21 : decode mV_indexAt.2.1 21 = .ok (.aload_n 0, 1) := by decide +kernel
theorem dV_indexAt_22 : decode mV_indexAt.2.1 22 = .ok (.getfield 15, 3) := by decide +kernel
theorem dV_indexAt_25 : decode mV_indexAt.2.1 25 = .ok (.iload_n 3, 1) := by decide +kernel
theorem dV_indexAt_26 : decode mV_indexAt.2.1 26 = .ok (.iaload, 1) := by decide +kernel
theorem dV_indexAt_27 : decode mV_indexAt.2.1 27 = .ok (.iload_n 2, 1) := by decide +kernel
theorem dV_indexAt_28 : decode mV_indexAt.2.1 28 = .ok (.if_icmp .le 9, 3) := by decide +kernel
theorem dV_indexAt_31 : decode mV_indexAt.2.1 31 = .ok (.iinc 3 (-1), 3) := by decide +kernel
theorem dV_indexAt_34 : decode mV_indexAt.2.1 34 = .ok (.goto (-27), 3) := by decide +kernel
theorem dV_indexAt_37 : decode mV_indexAt.2.1 37 = .ok (.iload_n 3, 1) := by decide +kernel
theorem dV_indexAt_38 : decode mV_indexAt.2.1 38 = .ok (.ireturn, 1) := by decide +kernel
theorem dV_move_0 : decode mV_move.2.1 0 = .ok (.aload_n 0, 1) := by decide +kernel
theorem dV_move_1 : decode mV_move.2.1 1 = .ok (.getfield 9, 3) := by decide +kernel
theorem dV_move_4 : decode mV_move.2.1 4 = .ok (.iload_n 2, 1) := by decide +kernel
theorem dV_move_5 : decode mV_move.2.1 5 = .ok (.aload_n 0, 1) := by decide +kernel
theorem dV_move_6 : decode mV_move.2.1 6 = .ok (.getfield 9, 3) := by decide +kernel
theorem dV_move_9 : decode mV_move.2.1 9 = .ok (.iload_n 1, 1) := by decide +kernel
theorem dV_move_10 : decode mV_move.2.1 10 = .ok (.iaload, 1) := by decide +kernel
theorem dV_move_11 : decode mV_move.2.1 11 = .ok (.iastore, 1) := by decide +kernel
theorem dV_move_12 : decode mV_move.2.1 12 = .ok (.aload_n 0, 1) := by decide +kernel
theorem dV_move_13 : decode mV_move.2.1 13 = .ok (.getfield 15, 3) := by decide +kernel
theorem dV_move_16 : decode mV_move.2.1 16 = .ok (.iload_n 2, 1) := by decide +kernel
theorem dV_move_17 : decode mV_move.2.1 17 = .ok (.aload_n 0, 1) := by decide +kernel
theorem dV_move_18 : decode mV_move.2.1 18 = .ok (.getfield 15, 3) := by decide +kernel
theorem dV_move_21 : decode mV_move.2.1 21 = .ok (.iload_n 1, 1) := by decide +kernel
theorem dV_move_22 : decode mV_move.2.1 22 = .ok (.iaload, 1) := by decide +kernel
theorem dV_move_23 : decode mV_move.2.1 23 = .ok (.iastore, 1) := by decide +kernel
theorem dV_move_24 : decode mV_move.2.1 24 = .ok (.aload_n 0, 1) := by decide +kernel
theorem dV_move_25 : decode mV_move.2.1 25 = .ok (.getfield 18, 3) := by decide +kernel
theorem dV_move_28 : decode mV_move.2.1 28 = .ok (.iload_n 2, 1) := by decide +kernel
theorem dV_move_29 : decode mV_move.2.1 29 = .ok (.aload_n 0, 1) := by decide +kernel
theorem dV_move_30 : decode mV_move.2.1 30 = .ok (.getfield 18, 3) := by decide +kernel
theorem dV_move_33 : decode mV_move.2.1 33 = .ok (.iload_n 1, 1) := by decide +kernel
theorem dV_move_34 : decode mV_move.2.1 34 = .ok (.laload, 1) := by decide +kernel
theorem dV_move_35 : decode mV_move.2.1 35 = .ok (.lastore, 1) := by decide +kernel
theorem dV_move_36 : decode mV_move.2.1 36 = .ok (.return_, 1) := by decide +kernel

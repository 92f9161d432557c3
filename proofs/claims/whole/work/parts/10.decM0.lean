theorem dM_init_0 : decode mM_init.2.1 0 = .ok (.aload_n 0, 1) := by decide +kernel
theorem dM_init_1 : decode mM_init.2.1 1 = .ok (.invokespecial 1, 3) := by decide +kernel
theorem dM_init_4 : decode mM_init.2.1 4 = .ok (.aload_n 0, 1) := by decide +kernel
theorem dM_init_5 : decode mM_init.2.1 5 = .ok (.bipush 16, 2) := by decide +kernel
theorem dM_init_7 : decode mM_init.2.1 7 = .ok (.newarray .boolean, 2) := by decide +kernel
theorem dM_init_9 : decode mM_init.2.1 9 = .ok (.putfield 9, 3) := by decide +kernel
theorem dM_init_12 : decode mM_init.2.1 12 = .ok (.aload_n 0, 1) := by decide +kernel
theorem dM_init_13 : decode mM_init.2.1 13 = .ok (.sipush 256, 3) := by decide +kernel
theorem dM_init_16 : decode mM_init.2.1 16 = .ok (.newarray .boolean, 2) := by decide +kernel
theorem dM_init_18 : decode mM_init.2.1 18 = .ok (.putfield 13, 3) := by decide +kernel
theorem dM_init_21 : decode mM_init.2.1 21 = .ok (.aload_n 0, 1) := by decide +kernel
theorem dM_init_22 : decode mM_init.2.1 22 = .ok (.sipush 2048, 3) := by decide +kernel
theorem dM_init_25 : decode mM_init.2.1 25 = .ok (.newarray .boolean, 2) := by decide +kernel
theorem dM_init_27 : decode mM_init.2.1 27 = .ok (.putfield 16, 3) := by decide +kernel
theorem dM_init_30 : decode mM_init.2.1 30 = .ok (.aload_n 0, 1) := by decide +kernel
theorem dM_init_31 : decode mM_init.2.1 31 = .ok (.bipush 16, 2) := by decide +kernel
theorem dM_init_33 : decode mM_init.2.1 33 = .ok (.newarray .int, 2) := by decide +kernel
theorem dM_init_35 : decode mM_init.2.1 35 = .ok (.putfield 19, 3) := by decide +kernel
theorem dM_init_38 : decode mM_init.2.1 38 = .ok (.aload_n 0, 1) := by decide +kernel
theorem dM_init_39 : decode mM_init.2.1 39 = .ok (.bipush 16, 2) := by decide +kernel
theorem dM_init_41 : decode mM_init.2.1 41 = .ok (.newarray .int, 2) := by decide +kernel
theorem dM_init_43 : decode mM_init.2.1 43 = .ok (.putfield 23, 3) := by decide +kernel
theorem dM_init_46 : decode mM_init.2.1 46 = .ok (.aload_n 0, 1) := by decide +kernel
theorem dM_init_47 : decode mM_init.2.1 47 = .ok (.bipush 16, 2) := by decide +kernel
theorem dM_init_49 : decode mM_init.2.1 49 = .ok (.newarray .int, 2) := by decide +kernel
theorem dM_init_51 : decode mM_init.2.1 51 = .ok (.putfield 26, 3) := by decide +kernel
theorem dM_init_54 : decode mM_init.2.1 54 = .ok (.aload_n 0, 1) := by decide +kernel
theorem dM_init_55 : decode mM_init.2.1 55 = .ok (.sipush 256, 3) := by decide +kernel
theorem dM_init_58 : decode mM_init.2.1 58 = .ok (.newarray .long, 2) := by decide +kernel
theorem dM_init_60 : decode mM_init.2.1 60 = .ok (.putfield 29, 3) := by decide +kernel
theorem dM_init_63 : decode mM_init.2.1 63 = .ok (.aload_n 0, 1) := by decide +kernel
theorem dM_init_64 : decode mM_init.2.1 64 = .ok (.sipush 2048, 3) := by decide +kernel
theorem dM_init_67 : decode mM_init.2.1 67 = .ok (.newarray .long, 2) := by decide +kernel
theorem dM_init_69 : decode mM_init.2.1 69 = .ok (.putfield 33, 3) := by decide +kernel
theorem dM_init_72 : decode mM_init.2.1 72 = .ok (.aload_n 0, 1) := by decide +kernel
theorem dM_init_73 : decode mM_init.2.1 73 = .ok (.bipush 16, 2) := by decide +kernel
theorem dM_init_75 : decode mM_init.2.1 75 = .ok (.newarray .int, 2) := by decide +kernel
theorem dM_init_77 : decode mM_init.2.1 77 = .ok (.putfield 36, 3) := by decide +kernel
theorem dM_init_80 : decode mM_init.2.1 80 = .ok (.aload_n 0, 1) := by decide +kernel
theorem dM_init_81 : decode mM_init.2.1 81 = .ok (.sipush 8320, 3) := by decide +kernel
theorem dM_init_84 : decode mM_init.2.1 84 = .ok (.newarray .int, 2) := by decide +kernel
theorem dM_init_86 : decode mM_init.2.1 86 = .ok (.putfield 39, 3) := by decide +kernel
theorem dM_init_89 : decode mM_init.2.1 89 = .ok (.aload_n 0, 1) := by decide +kernel
theorem dM_init_90 : decode mM_init.2.1 90 = .ok (.bipush 16, 2) := by decide +kernel
theorem dM_init_92 : decode mM_init.2.1 92 = .ok (.newarray .int, 2) := by decide +kernel
theorem dM_init_94 : decode mM_init.2.1 94 = .ok (.putfield 42, 3) := by decide +kernel
theorem dM_init_97 : decode mM_init.2.1 97 = .ok (.aload_n 0, 1) := by decide +kernel
theorem dM_init_98 : decode mM_init.2.1 98 = .ok (.sipush 8320, 3) := by decide +kernel
theorem dM_init_101 : decode mM_init.2.1 101 = .ok (.newarray .long, 2) := by decide +kernel
theorem dM_init_103 : decode mM_init.2.1 103 = .ok (.putfield 45, 3) := by decide +kernel
theorem dM_init_106 : decode mM_init.2.1 106 = .ok (.iconst 0, 1) := by decide +kernel
theorem dM_init_107 : decode mM_init.2.1 107 = .ok (.istore_n 1, 1) := by decide +kernel
theorem dM_init_108 : decode mM_init.2.1 108 = .ok (.iload_n 1, 1) := by decide +kernel
theorem dM_init_109 : decode mM_init.2.1 109 = .ok (.bipush 16, 2) := by decide +kernel
theorem dM_init_111 : decode mM_init.2.1 111 = .ok (.if_icmp .ge 16, 3) := by decide +kernel
theorem dM_init_114 : decode mM_init.2.1 114 = .ok (.aload_n 0, 1) := by decide +kernel
theorem dM_init_115 : decode mM_init.2.1 115 = .ok (.getfield 36, 3) := by decide +kernel
theorem dM_init_118 : decode mM_init.2.1 118 = .ok (.iload_n 1, 1) := by decide +kernel
theorem dM_init_119 : decode mM_init.2.1 119 = .ok (.iconst 1, 1) := by decide +kernel
theorem dM_init_120 : decode mM_init.2.1 120 = .ok (.iastore, 1) := by decide +kernel
theorem dM_init_121 : decode mM_init.2.1 121 = .ok (.iinc 1 1, 3) := by decide +kernel
theorem dM_init_124 : decode mM_init.2.1 124 = .ok (.goto (-16), 3) := by decide +kernel
theorem dM_init_127 : decode mM_init.2.1 127 = .ok (.return_, 1) := by decide +kernel
theorem dM_thrown_0 : decode mM_thrown.2.1 0 = .ok (.aload_n 0, 1) := by decide +kernel
theorem dM_thrown_1 : decode mM_thrown.2.1 1 = .ok (.getfield 48, 3) := by decide +kernel
theorem dM_thrown_4 : decode mM_thrown.2.1 4 = .ok (.ireturn, 1) := by decide +kernel
theorem dM_fail_0 : decode mM_fail.2.1 0 = .ok (.aload_n 0, 1) := by decide +kernel
theorem dM_fail_1 : decode mM_fail.2.1 1 = .ok (.iload_n 1, 1) := by decide +kernel
theorem dM_fail_2 : decode mM_fail.2.1 2 = .ok (.putfield 48, 3) := by decide +kernel
theorem dM_fail_5 : decode mM_fail.2.1 5 = .ok (.iconst 0, 1) := by decide +kernel
theorem dM_fail_6 : decode mM_fail.2.1 6 = .ok (.ireturn, 1) := by decide +kernel
theorem dM_no_0 : decode mM_no.2.1 0 = .ok (.aload_n 0, 1) := by decide +kernel
theorem dM_no_1 : decode mM_no.2.1 1 = .ok (.iload_n 1, 1) := by decide +kernel
theorem dM_no_2 : decode mM_no.2.1 2 = .ok (.ifCond .lt 18, 3) := by decide +kernel
theorem dM_no_5 : decode mM_no.2.1 5 = .ok (.iload_n 1, 1) := by decide +kernel
theorem dM_no_6 : decode mM_no.2.1 6 = .ok (.bipush 16, 2) := by decide +kernel
theorem dM_no_8 : decode mM_no.2.1 8 = .ok (.if_icmp .ge 12, 3) := by decide +kernel
theorem dM_no_11 : decode mM_no.2.1 11 = .ok (.aload_n 0, 1) := by decide +kernel
theorem dM_no_12 : decode mM_no.2.1 12 = .ok (.getfield 9, 3) := by decide +kernel
theorem dM_no_15 : decode mM_no.2.1 15 = .ok (.iload_n 1, 1) := by decide +kernel
theorem dM_no_16 : decode mM_no.2.1 16 = .ok (.baload, 1) := by decide +kernel
theorem dM_no_17 : decode mM_no.2.1 17 = .ok (.ifCond .ne 7, 3) := by decide +kernel
theorem dM_no_20 : decode mM_no.2.1 20 = .ok (.iconst 1, 1) := by decide +kernel
theorem dM_no_21 : decode mM_no.2.1 21 = .ok (.goto 4, 3) := by decide +kernel
theorem dM_no_24 : decode mM_no.2.1 24 = .ok (.iconst 0, 1) := by decide +kernel
theorem dM_no_25 : decode mM_no.2.1 25 = .ok (.putfield 48, 3) := by decide +kernel
theorem dM_no_28 : decode mM_no.2.1 28 = .ok (.aload_n 0, 1) := by decide +kernel
theorem dM_no_29 : decode mM_no.2.1 29 = .ok (.getfield 48, 3) := by decide +kernel
theorem dM_no_32 : decode mM_no.2.1 32 = .ok (.ifCond .le 7, 3) := by decide +kernel
theorem dM_no_35 : decode mM_no.2.1 35 = .ok (.iconst 1, 1) := by decide +kernel
theorem dM_no_36 : decode mM_no.2.1 36 = .ok (.goto 4, 3) := by decide +kernel
theorem dM_no_39 : decode mM_no.2.1 39 = .ok (.iconst 0, 1) := by decide +kernel
theorem dM_no_40 : decode mM_no.2.1 40 = .ok (.ireturn, 1) := by decide +kernel
theorem dM_none_0 : decode mM_none.2.1 0 = .ok (.aload_n 0, 1) := by decide +kernel
theorem dM_none_1 : decode mM_none.2.1 1 = .ok (.iload_n 1, 1) := by decide +kernel
theorem dM_none_2 : decode mM_none.2.1 2 = .ok (.invokevirtual 52, 3) := by decide +kernel
theorem dM_none_5 : decode mM_none.2.1 5 = .ok (.ifCond .ne 18, 3) := by decide +kernel
theorem dM_none_8 : decode mM_none.2.1 8 = .ok (.iload_n 2, 1) := by decide +kernel
theorem dM_none_9 : decode mM_none.2.1 9 = .ok (.ifCond .lt 9, 3) := by decide +kernel
theorem dM_none_12 : decode mM_none.2.1 12 = .ok (.iload_n 2, 1) := by decide +kernel
theorem dM_none_13 : decode mM_none.2.1 13 = .ok (.bipush 16, 2) := by decide +kernel
theorem dM_none_15 : decode mM_none.2.1 15 = .ok (.if_icmp .lt 8, 3) := by decide +kernel
theorem dM_none_18 : decode mM_none.2.1 18 = .ok (.aload_n 0, 1) := by decide +kernel
theorem dM_none_19 : decode mM_none.2.1 19 = .ok (.iconst 1, 1) := by decide +kernel
theorem dM_none_20 : decode mM_none.2.1 20 = .ok (.putfield 48, 3) := by decide +kernel
theorem dM_none_23 : decode mM_none.2.1 23 = .ok (.aload_n 0, 1) := by decide +kernel
theorem dM_none_24 : decode mM_none.2.1 24 = .ok (.getfield 48, 3) := by decide +kernel
theorem dM_none_27 : decode mM_none.2.1 27 = .ok (.ifCond .le 7, 3) := by decide +kernel
theorem dM_none_30 : decode mM_none.2.1 30 = .ok (.iconst 1, 1) := by decide +kernel
theorem dM_none_31 : decode mM_none.2.1 31 = .ok (.goto 4, 3) := by decide +kernel
theorem dM_none_34 : decode mM_none.2.1 34 = .ok (.iconst 0, 1) := by decide +kernel
theorem dM_none_35 : decode mM_none.2.1 35 = .ok (.ireturn, 1) := by decide +kernel
theorem dM_now_0 : decode mM_now.2.1 0 = .ok (.aload_n 0, 1) := by decide +kernel
theorem dM_now_1 : decode mM_now.2.1 1 = .ok (.getfield 45, 3) := by decide +kernel
theorem dM_now_4 : decode mM_now.2.1 4 = .ok (.sipush 520, 3) := by decide +kernel
theorem dM_now_7 : decode mM_now.2.1 7 = .ok (.iload_n 1, 1) := by decide +kernel
theorem dM_now_8 : decode mM_now.2.1 8 = .ok (.imul, 1) := by decide +kernel
theorem dM_now_9 : decode mM_now.2.1 9 = .ok (.aload_n 0, 1) := by decide +kernel
theorem dM_now_10 : decode mM_now.2.1 10 = .ok (.getfield 36, 3) := by decide +kernel
theorem dM_now_13 : decode mM_now.2.1 13 = .ok (.iload_n 1, 1) := by decide +kernel
theorem dM_now_14 : decode mM_now.2.1 14 = .ok (.iaload, 1) := by decide +kernel
theorem dM_now_15 : decode mM_now.2.1 15 = .ok (.iadd, 1) := by decide +kernel
theorem dM_now_16 : decode mM_now.2.1 16 = .ok (.iconst 1, 1) := by decide +kernel
theorem dM_now_17 : decode mM_now.2.1 17 = .ok (.isub, 1) := by decide +kernel
theorem dM_now_18 : decode mM_now.2.1 18 = .ok (.laload, 1) := by decide +kernel
theorem dM_now_19 : decode mM_now.2.1 19 = .ok (.lreturn, 1) := by decide +kernel
theorem dM_layerOf_0 : decode mM_layerOf.2.1 0 = .ok (.aload_n 0, 1) := by decide +kernel
theorem dM_layerOf_1 : decode mM_layerOf.2.1 1 = .ok (.getfield 26, 3) := by decide +kernel
theorem dM_layerOf_4 : decode mM_layerOf.2.1 4 = .ok (.iload_n 1, 1) := by decide +kernel
theorem dM_layerOf_5 : decode mM_layerOf.2.1 5 = .ok (.iaload, 1) := by decide +kernel
theorem dM_layerOf_6 : decode mM_layerOf.2.1 6 = .ok (.iconst 1, 1) := by decide +kernel
theorem dM_layerOf_7 : decode mM_layerOf.2.1 7 = .ok (.isub, 1) := by decide +kernel
theorem dM_layerOf_8 : decode mM_layerOf.2.1 8 = .ok (.istore_n 3, 1) := by decide +kernel
theorem dM_layerOf_9 : decode mM_layerOf.2.1 9 = .ok (.iload_n 3, 1) := by decide +kernel
theorem dM_layerOf_10 : decode mM_layerOf.2.1 10 = .ok (.ifCond .lt 30, 3) := by decide +kernel
theorem dM_layerOf_13 : decode mM_layerOf.2.1 13 = .ok (.aload_n 0, 1) := by decide +kernel
theorem dM_layerOf_14 : decode mM_layerOf.2.1 14 = .ok (.getfield 16, 3) := by decide +kernel
theorem dM_layerOf_17 : decode mM_layerOf.2.1 17 = .ok (.bipush 8, 2) := by decide +kernel
theorem dM_layerOf_19 : decode mM_layerOf.2.1 19 = .ok (.iload_n 1, 1) := by decide +kernel
theorem dM_layerOf_20 : decode mM_layerOf.2.1 20 = .ok (.imul, 1) := by decide +kernel
theorem dM_layerOf_21 : decode mM_layerOf.2.1 21 = .ok (.iload_n 3, 1) := by decide +kernel
theorem dM_layerOf_22 : decode mM_layerOf.2.1 22 = .ok (.iadd, 1) := by decide +kernel
theorem dM_layerOf_23 : decode mM_layerOf.2.1 23 = .ok (.bipush 16, 2) := by decide +kernel
theorem dM_layerOf_25 : decode mM_layerOf.2.1 25 = .ok (.imul, 1) := by decide +kernel
theorem dM_layerOf_26 : decode mM_layerOf.2.1 26 = .ok (.iload_n 2, 1) := by decide +kernel
theorem dM_layerOf_27 : decode mM_layerOf.2.1 27 = .ok (.iadd, 1) := by decide +kernel
theorem dM_layerOf_28 : decode mM_layerOf.2.1 28 = .ok (.baload, 1) := by decide +kernel
theorem dM_layerOf_29 : decode mM_layerOf.2.1 29 = .ok (.ifCond .eq 5, 3) := by decide +kernel
theorem dM_layerOf_32 : decode mM_layerOf.2.1 32 = .ok (.iload_n 3, 1) := by decide +kernel
theorem dM_layerOf_33 : decode mM_layerOf.2.1 33 = .ok (.ireturn, 1) := by decide +kernel
theorem dM_layerOf_34 : decode mM_layerOf.2.1 34 = .ok (.iinc 3 (-1), 3) := by decide +kernel
theorem dM_layerOf_37 : decode mM_layerOf.2.1 37 = .ok (.goto (-28), 3) := by decide +kernel
theorem dM_layerOf_40 : decode mM_layerOf.2.1 40 = .ok (.iconst (-1), 1) := by decide +kernel
theorem dM_layerOf_41 : decode mM_layerOf.2.1 41 = .ok (.ireturn, 1) := by decide +kernel
theorem dM_reading_0 : decode mM_reading.2.1 0 = .ok (.aload_n 0, 1) := by decide +kernel
theorem dM_reading_1 : decode mM_reading.2.1 1 = .ok (.iload_n 1, 1) := by decide +kernel
theorem dM_reading_2 : decode mM_reading.2.1 2 = .ok (.iload_n 2, 1) := by decide +kernel
theorem dM_reading_3 : decode mM_reading.2.1 3 = .ok (.invokevirtual 56, 3) := by decide +kernel
theorem dM_reading_6 : decode mM_reading.2.1 6 = .ok (.istore_n 3, 1) := by decide +kernel
theorem dM_reading_7 : decode mM_reading.2.1 7 = .ok (.iload_n 3, 1) := by decide +kernel
theorem dM_reading_8 : decode mM_reading.2.1 8 = .ok (.iconst (-1), 1) := by decide +kernel
theorem dM_reading_9 : decode mM_reading.2.1 9 = .ok (.if_icmp .ne 17, 3) := by decide +kernel
theorem dM_reading_12 : decode mM_reading.2.1 12 = .ok (.aload_n 0, 1) := by decide +kernel
theorem dM_reading_13 : decode mM_reading.2.1 13 = .ok (.getfield 29, 3) := by decide +kernel
theorem dM_reading_16 : decode mM_reading.2.1 16 = .ok (.bipush 16, 2) := by decide +kernel
theorem dM_reading_18 : decode mM_reading.2.1 18 = .ok (.iload_n 1, 1) := by decide +kernel
theorem dM_reading_19 : decode mM_reading.2.1 19 = .ok (.imul, 1) := by decide +kernel
theorem dM_reading_20 : decode mM_reading.2.1 20 = .ok (.iload_n 2, 1) := by decide +kernel
theorem dM_reading_21 : decode mM_reading.2.1 21 = .ok (.iadd, 1) := by decide +kernel
theorem dM_reading_22 : decode mM_reading.2.1 22 = .ok (.laload, 1) := by decide +kernel
theorem dM_reading_23 : decode mM_reading.2.1 23 = .ok (.goto 19, 3) := by decide +kernel
theorem dM_reading_26 : decode mM_reading.2.1 26 = .ok (.aload_n 0, 1) := by decide +kernel
theorem dM_reading_27 : decode mM_reading.2.1 27 = .ok (.getfield 33, 3) := by decide +kernel
theorem dM_reading_30 : decode mM_reading.2.1 30 = .ok (.bipush 8, 2) := by decide +kernel
theorem dM_reading_32 : decode mM_reading.2.1 32 = .ok (.iload_n 1, 1) := by decide +kernel
theorem dM_reading_33 : decode mM_reading.2.1 33 = .ok (.imul, 1) := by decide +kernel
theorem dM_reading_34 : decode mM_reading.2.1 34 = .ok (.iload_n 3, 1) := by decide +kernel
theorem dM_reading_35 : decode mM_reading.2.1 35 = .ok (.iadd, 1) := by decide +kernel
theorem dM_reading_36 : decode mM_reading.2.1 36 = .ok (.bipush 16, 2) := by decide +kernel
theorem dM_reading_38 : decode mM_reading.2.1 38 = .ok (.imul, 1) := by decide +kernel
theorem dM_reading_39 : decode mM_reading.2.1 39 = .ok (.iload_n 2, 1) := by decide +kernel
theorem dM_reading_40 : decode mM_reading.2.1 40 = .ok (.iadd, 1) := by decide +kernel
theorem dM_reading_41 : decode mM_reading.2.1 41 = .ok (.laload, 1) := by decide +kernel
theorem dM_reading_42 : decode mM_reading.2.1 42 = .ok (.lreturn, 1) := by decide +kernel
theorem dM_isSpoiled_0 : decode mM_isSpoiled.2.1 0 = .ok (.aload_n 0, 1) := by decide +kernel
theorem dM_isSpoiled_1 : decode mM_isSpoiled.2.1 1 = .ok (.getfield 42, 3) := by decide +kernel
theorem dM_isSpoiled_4 : decode mM_isSpoiled.2.1 4 = .ok (.iload_n 2, 1) := by decide +kernel
theorem dM_isSpoiled_5 : decode mM_isSpoiled.2.1 5 = .ok (.iaload, 1) := by decide +kernel
theorem dM_isSpoiled_6 : decode mM_isSpoiled.2.1 6 = .ok (.aload_n 0, 1) := by decide +kernel
theorem dM_isSpoiled_7 : decode mM_isSpoiled.2.1 7 = .ok (.getfield 19, 3) := by decide +kernel
theorem dM_isSpoiled_10 : decode mM_isSpoiled.2.1 10 = .ok (.iload_n 1, 1) := by decide +kernel
theorem dM_isSpoiled_11 : decode mM_isSpoiled.2.1 11 = .ok (.iaload, 1) := by decide +kernel
theorem dM_isSpoiled_12 : decode mM_isSpoiled.2.1 12 = .ok (.if_icmp .le 41, 3) := by decide +kernel
theorem dM_isSpoiled_15 : decode mM_isSpoiled.2.1 15 = .ok (.aload_n 0, 1) := by decide +kernel
theorem dM_isSpoiled_16 : decode mM_isSpoiled.2.1 16 = .ok (.iload_n 1, 1) := by decide +kernel
theorem dM_isSpoiled_17 : decode mM_isSpoiled.2.1 17 = .ok (.iload_n 2, 1) := by decide +kernel
theorem dM_isSpoiled_18 : decode mM_isSpoiled.2.1 18 = .ok (.invokevirtual 56, 3) := by decide +kernel
theorem dM_isSpoiled_21 : decode mM_isSpoiled.2.1 21 = .ok (.iconst (-1), 1) := by decide +kernel
theorem dM_isSpoiled_22 : decode mM_isSpoiled.2.1 22 = .ok (.if_icmp .ne 27, 3) := by decide +kernel
theorem dM_isSpoiled_25 : decode mM_isSpoiled.2.1 25 = .ok (.aload_n 0, 1) := by decide +kernel
theorem dM_isSpoiled_26 : decode mM_isSpoiled.2.1 26 = .ok (.getfield 23, 3) := by decide +kernel
theorem dM_isSpoiled_29 : decode mM_isSpoiled.2.1 29 = .ok (.iload_n 1, 1) := by decide +kernel
theorem dM_isSpoiled_30 : decode mM_isSpoiled.2.1 30 = .ok (.iaload, 1) := by decide +kernel
theorem dM_isSpoiled_31 : decode mM_isSpoiled.2.1 31 = .ok (.iconst 1, 1) := by decide +kernel
theorem dM_isSpoiled_32 : decode mM_isSpoiled.2.1 32 = .ok (.if_icmp .ne 21, 3) := by decide +kernel
theorem dM_isSpoiled_35 : decode mM_isSpoiled.2.1 35 = .ok (.aload_n 0, 1) := by decide +kernel
theorem dM_isSpoiled_36 : decode mM_isSpoiled.2.1 36 = .ok (.getfield 13, 3) := by decide +kernel
theorem dM_isSpoiled_39 : decode mM_isSpoiled.2.1 39 = .ok (.bipush 16, 2) := by decide +kernel
theorem dM_isSpoiled_41 : decode mM_isSpoiled.2.1 41 = .ok (.iload_n 1, 1) := by decide +kernel
theorem dM_isSpoiled_42 : decode mM_isSpoiled.2.1 42 = .ok (.imul, 1) := by decide +kernel
theorem dM_isSpoiled_43 : decode mM_isSpoiled.2.1 43 = .ok (.iload_n 2, 1) := by decide +kernel
theorem dM_isSpoiled_44 : decode mM_isSpoiled.2.1 44 = .ok (.iadd, 1) := by decide +kernel
theorem dM_isSpoiled_45 : decode mM_isSpoiled.2.1 45 = .ok (.baload, 1) := by decide +kernel
theorem dM_isSpoiled_46 : decode mM_isSpoiled.2.1 46 = .ok (.ifCond .eq 7, 3) := by decide +kernel
theorem dM_isSpoiled_49 : decode mM_isSpoiled.2.1 49 = .ok (.iconst 1, 1) := by decide +kernel
theorem dM_isSpoiled_50 : decode mM_isSpoiled.2.1 50 = .ok (.goto 4, 3) := by decide +kernel
theorem dM_isSpoiled_53 : decode mM_isSpoiled.2.1 53 = .ok (.iconst 0, 1) := by decide +kernel
theorem dM_isSpoiled_54 : decode mM_isSpoiled.2.1 54 = .ok (.ireturn, 1) := by decide +kernel
theorem dM_written_0 : decode mM_written.2.1 0 = .ok (.iconst 0, 1) := by decide +kernel
theorem dM_written_1 : decode mM_written.2.1 1 = .ok (.istore_n 2, 1) := by decide +kernel
theorem dM_written_2 : decode mM_written.2.1 2 = .ok (.iconst 0, 1) := by decide +kernel
theorem dM_written_3 : decode mM_written.2.1 3 = .ok (.istore_n 3, 1) := by decide +kernel
theorem dM_written_4 : decode mM_written.2.1 4 = .ok (.iload_n 3, 1) := by decide +kernel
theorem dM_written_5 : decode mM_written.2.1 5 = .ok (.bipush 16, 2) := by decide +kernel
theorem dM_written_7 : decode mM_written.2.1 7 = .ok (.if_icmp .ge 22, 3) := by decide +kernel
theorem dM_written_10 : decode mM_written.2.1 10 = .ok (.aload_n 0, 1) := by decide +kernel
theorem dM_written_11 : decode mM_written.2.1 11 = .ok (.iload_n 1, 1) := by decide +kernel
theorem dM_written_12 : decode mM_written.2.1 12 = .ok (.iload_n 3, 1) := by decide +kernel
theorem dM_written_13 : decode mM_written.2.1 13 = .ok (.invokevirtual 56, 3) := by decide +kernel
theorem dM_written_16 : decode mM_written.2.1 16 = .ok (.iconst (-1), 1) := by decide +kernel
theorem dM_written_17 : decode mM_written.2.1 17 = .ok (.if_icmp .eq 6, 3) := by decide +kernel
theorem dM_written_20 : decode mM_written.2.1 20 = .ok (.iinc 2 1, 3) := by decide +kernel
theorem dM_written_23 : decode mM_written.2.1 23 = .ok (.iinc 3 1, 3) := by decide +kernel
theorem dM_written_26 : decode mM_written.2.1 26 = .ok (.goto (-22), 3) := by decide +kernel
theorem dM_written_29 : decode mM_written.2.1 29 = .ok (.iload_n 2, 1) := by decide +kernel
theorem dM_written_30 : decode mM_written.2.1 30 = .ok (.ireturn, 1) := by decide +kernel
theorem dM_spoils_0 : decode mM_spoils.2.1 0 = .ok (.iconst 0, 1) := by decide +kernel
theorem dM_spoils_1 : decode mM_spoils.2.1 1 = .ok (.istore_n 2, 1) := by decide +kernel
theorem dM_spoils_2 : decode mM_spoils.2.1 2 = .ok (.iconst 0, 1) := by decide +kernel
theorem dM_spoils_3 : decode mM_spoils.2.1 3 = .ok (.istore_n 3, 1) := by decide +kernel
theorem dM_spoils_4 : decode mM_spoils.2.1 4 = .ok (.iload_n 3, 1) := by decide +kernel
theorem dM_spoils_5 : decode mM_spoils.2.1 5 = .ok (.bipush 16, 2) := by decide +kernel
theorem dM_spoils_7 : decode mM_spoils.2.1 7 = .ok (.if_icmp .ge 21, 3) := by decide +kernel
theorem dM_spoils_10 : decode mM_spoils.2.1 10 = .ok (.aload_n 0, 1) := by decide +kernel
theorem dM_spoils_11 : decode mM_spoils.2.1 11 = .ok (.iload_n 1, 1) := by decide +kernel
theorem dM_spoils_12 : decode mM_spoils.2.1 12 = .ok (.iload_n 3, 1) := by decide +kernel
theorem dM_spoils_13 : decode mM_spoils.2.1 13 = .ok (.invokevirtual 60, 3) := by decide +kernel
theorem dM_spoils_16 : decode mM_spoils.2.1 16 = .ok (.ifCond .eq 6, 3) := by decide +kernel
theorem dM_spoils_19 : decode mM_spoils.2.1 19 = .ok (.iinc 2 1, 3) := by decide +kernel
theorem dM_spoils_22 : decode mM_spoils.2.1 22 = .ok (.iinc 3 1, 3) := by decide +kernel
theorem dM_spoils_25 : decode mM_spoils.2.1 25 = .ok (.goto (-21), 3) := by decide +kernel
theorem dM_spoils_28 : decode mM_spoils.2.1 28 = .ok (.iload_n 2, 1) := by decide +kernel
theorem dM_spoils_29 : decode mM_spoils.2.1 29 = .ok (.ireturn, 1) := by decide +kernel
theorem dM_all_0 : decode mM_all.2.1 0 = .ok (.iconst 0, 1) := by decide +kernel
theorem dM_all_1 : decode mM_all.2.1 1 = .ok (.istore_n 1, 1) := by decide +kernel
theorem dM_all_2 : decode mM_all.2.1 2 = .ok (.iconst 0, 1) := by decide +kernel
theorem dM_all_3 : decode mM_all.2.1 3 = .ok (.istore_n 2, 1) := by decide +kernel
theorem dM_all_4 : decode mM_all.2.1 4 = .ok (.iload_n 2, 1) := by decide +kernel
theorem dM_all_5 : decode mM_all.2.1 5 = .ok (.bipush 16, 2) := by decide +kernel
theorem dM_all_7 : decode mM_all.2.1 7 = .ok (.if_icmp .ge 18, 3) := by decide +kernel
theorem dM_all_10 : decode mM_all.2.1 10 = .ok (.iload_n 1, 1) := by decide +kernel
theorem dM_all_11 : decode mM_all.2.1 11 = .ok (.aload_n 0, 1) := by decide +kernel
theorem dM_all_12 : decode mM_all.2.1 12 = .ok (.getfield 36, 3) := by decide +kernel
theorem dM_all_15 : decode mM_all.2.1 15 = .ok (.iload_n 2, 1) := by decide +kernel
theorem dM_all_16 : decode mM_all.2.1 16 = .ok (.iaload, 1) := by decide +kernel
theorem dM_all_17 : decode mM_all.2.1 17 = .ok (.iadd, 1) := by decide +kernel
theorem dM_all_18 : decode mM_all.2.1 18 = .ok (.istore_n 1, 1) := by decide +kernel
theorem dM_all_19 : decode mM_all.2.1 19 = .ok (.iinc 2 1, 3) := by decide +kernel
theorem dM_all_22 : decode mM_all.2.1 22 = .ok (.goto (-18), 3) := by decide +kernel
theorem dM_all_25 : decode mM_all.2.1 25 = .ok (.iload_n 1, 1) := by decide +kernel
theorem dM_all_26 : decode mM_all.2.1 26 = .ok (.ireturn, 1) := by decide +kernel
theorem dM_floor_0 : decode mM_floor.2.1 0 = .ok (.aload_n 0, 1) := by decide +kernel
theorem dM_floor_1 : decode mM_floor.2.1 1 = .ok (.getfield 64, 3) := by decide +kernel
theorem dM_floor_4 : decode mM_floor.2.1 4 = .ok (.istore_n 1, 1) := by decide +kernel
theorem dM_floor_5 : decode mM_floor.2.1 5 = .ok (.iconst 0, 1) := by decide +kernel
theorem dM_floor_6 : decode mM_floor.2.1 6 = .ok (.istore_n 2, 1) := by decide +kernel
theorem dM_floor_7 : decode mM_floor.2.1 7 = .ok (.iload_n 2, 1) := by decide +kernel
theorem dM_floor_8 : decode mM_floor.2.1 8 = .ok (.bipush 16, 2) := by decide +kernel
theorem dM_floor_10 : decode mM_floor.2.1 10 = .ok (.if_icmp .ge 29, 3) := by decide +kernel
theorem dM_floor_13 : decode mM_floor.2.1 13 = .ok (.aload_n 0, 1) := by decide +kernel
theorem dM_floor_14 : decode mM_floor.2.1 14 = .ok (.getfield 9, 3) := by decide +kernel
theorem dM_floor_17 : decode mM_floor.2.1 17 = .ok (.iload_n 2, 1) := by decide +kernel
theorem dM_floor_18 : decode mM_floor.2.1 18 = .ok (.baload, 1) := by decide +kernel
theorem dM_floor_19 : decode mM_floor.2.1 19 = .ok (.ifCond .eq 14, 3) := by decide +kernel
theorem dM_floor_22 : decode mM_floor.2.1 22 = .ok (.iload_n 1, 1) := by decide +kernel
theorem dM_floor_23 : decode mM_floor.2.1 23 = .ok (.aload_n 0, 1) := by decide +kernel
theorem dM_floor_24 : decode mM_floor.2.1 24 = .ok (.getfield 19, 3) := by decide +kernel
theorem dM_floor_27 : decode mM_floor.2.1 27 = .ok (.iload_n 2, 1) := by decide +kernel
theorem dM_floor_28 : decode mM_floor.2.1 28 = .ok (.iaload, 1) := by decide +kernel
theorem dM_floor_29 : decode mM_floor.2.1 29 = .ok (.invokestatic 67, 3) := by decide +kernel
theorem dM_floor_32 : decode mM_floor.2.1 32 = .ok (.istore_n 1, 1) := by decide +kernel
theorem dM_floor_33 : decode mM_floor.2.1 33 = .ok (.iinc 2 1, 3) := by decide +kernel
theorem dM_floor_36 : decode mM_floor.2.1 36 = .ok (.goto (-29), 3) := by decide +kernel
theorem dM_floor_39 : decode mM_floor.2.1 39 = .ok (.iload_n 1, 1) := by decide +kernel
theorem dM_floor_40 : decode mM_floor.2.1 40 = .ok (.ireturn, 1) := by decide +kernel
theorem dM_clear_0 : decode mM_clear.2.1 0 = .ok (.iconst 0, 1) := by decide +kernel
theorem dM_clear_1 : decode mM_clear.2.1 1 = .ok (.istore_n 3, 1) := by decide +kernel
theorem dM_clear_2 : decode mM_clear.2.1 2 = .ok (.iload_n 3, 1) := by decide +kernel
theorem dM_clear_3 : decode mM_clear.2.1 3 = .ok (.bipush 16, 2) := by decide +kernel
theorem dM_clear_5 : decode mM_clear.2.1 5 = .ok (.if_icmp .ge 26, 3) := by decide +kernel
theorem dM_clear_8 : decode mM_clear.2.1 8 = .ok (.aload_n 0, 1) := by decide +kernel
theorem dM_clear_9 : decode mM_clear.2.1 9 = .ok (.getfield 16, 3) := by decide +kernel
theorem dM_clear_12 : decode mM_clear.2.1 12 = .ok (.bipush 8, 2) := by decide +kernel
theorem dM_clear_14 : decode mM_clear.2.1 14 = .ok (.iload_n 1, 1) := by decide +kernel
theorem dM_clear_15 : decode mM_clear.2.1 15 = .ok (.imul, 1) := by decide +kernel
theorem dM_clear_16 : decode mM_clear.2.1 16 = .ok (.iload_n 2, 1) := by decide +kernel
theorem dM_clear_17 : decode mM_clear.2.1 17 = .ok (.iadd, 1) := by decide +kernel
theorem dM_clear_18 : decode mM_clear.2.1 18 = .ok (.bipush 16, 2) := by decide +kernel
theorem dM_clear_20 : decode mM_clear.2.1 20 = .ok (.imul, 1) := by decide +kernel
theorem dM_clear_21 : decode mM_clear.2.1 21 = .ok (.iload_n 3, 1) := by decide +kernel
theorem dM_clear_22 : decode mM_clear.2.1 22 = .ok (.iadd, 1) := by decide +kernel
theorem dM_clear_23 : decode mM_clear.2.1 23 = .ok (.iconst 0, 1) := by decide +kernel
theorem dM_clear_24 : decode mM_clear.2.1 24 = .ok (.bastore, 1) := by decide +kernel
theorem dM_clear_25 : decode mM_clear.2.1 25 = .ok (.iinc 3 1, 3) := by decide +kernel
theorem dM_clear_28 : decode mM_clear.2.1 28 = .ok (.goto (-26), 3) := by decide +kernel
theorem dM_clear_31 : decode mM_clear.2.1 31 = .ok (.return_, 1) := by decide +kernel
theorem dM_begin_0 : decode mM_begin.2.1 0 = .ok (.aload_n 0, 1) := by decide +kernel
theorem dM_begin_1 : decode mM_begin.2.1 1 = .ok (.iconst 0, 1) := by decide +kernel
theorem dM_begin_2 : decode mM_begin.2.1 2 = .ok (.putfield 48, 3) := by decide +kernel
theorem dM_begin_5 : decode mM_begin.2.1 5 = .ok (.iload_n 1, 1) := by decide +kernel
theorem dM_begin_6 : decode mM_begin.2.1 6 = .ok (.ifCond .lt 8, 3) := by decide +kernel
theorem dM_begin_9 : decode mM_begin.2.1 9 = .ok (.iload_n 1, 1) := by decide +kernel
theorem dM_begin_10 : decode mM_begin.2.1 10 = .ok (.iconst 1, 1) := by decide +kernel
theorem dM_begin_11 : decode mM_begin.2.1 11 = .ok (.if_icmp .le 9, 3) := by decide +kernel
theorem dM_begin_14 : decode mM_begin.2.1 14 = .ok (.aload_n 0, 1) := by decide +kernel
theorem dM_begin_15 : decode mM_begin.2.1 15 = .ok (.iconst 1, 1) := by decide +kernel
theorem dM_begin_16 : decode mM_begin.2.1 16 = .ok (.invokevirtual 72, 3) := by decide +kernel
theorem dM_begin_19 : decode mM_begin.2.1 19 = .ok (.ireturn, 1) := by decide +kernel
theorem dM_begin_20 : decode mM_begin.2.1 20 = .ok (.iconst 0, 1) := by decide +kernel
theorem dM_begin_21 : decode mM_begin.2.1 21 = .ok (.istore_n 2, 1) := by decide +kernel
theorem dM_begin_22 : decode mM_begin.2.1 22 = .ok (.iload_n 2, 1) := by decide +kernel
theorem dM_begin_23 : decode mM_begin.2.1 23 = .ok (.bipush 16, 2) := by decide +kernel
theorem dM_begin_25 : decode mM_begin.2.1 25 = .ok (.if_icmp .ge 18, 3) := by decide +kernel
theorem dM_begin_28 : decode mM_begin.2.1 28 = .ok (.aload_n 0, 1) := by decide +kernel
theorem dM_begin_29 : decode mM_begin.2.1 29 = .ok (.getfield 9, 3) := by decide +kernel
theorem dM_begin_32 : decode mM_begin.2.1 32 = .ok (.iload_n 2, 1) := by decide +kernel
theorem dM_begin_33 : decode mM_begin.2.1 33 = .ok (.baload, 1) := by decide +kernel
theorem dM_begin_34 : decode mM_begin.2.1 34 = .ok (.ifCond .eq 9, 3) := by decide +kernel
theorem dM_begin_37 : decode mM_begin.2.1 37 = .ok (.iinc 2 1, 3) := by decide +kernel
theorem dM_begin_40 : decode mM_begin.2.1 40 = .ok (.goto (-18), 3) := by decide +kernel
theorem dM_begin_43 : decode mM_begin.2.1 43 = .ok (.iload_n 2, 1) := by decide +kernel
theorem dM_begin_44 : decode mM_begin.2.1 44 = .ok (.bipush 16, 2) := by decide +kernel
theorem dM_begin_46 : decode mM_begin.2.1 46 = .ok (.if_icmp .ne 9, 3) := by decide +kernel
theorem dM_begin_49 : decode mM_begin.2.1 49 = .ok (.aload_n 0, 1) := by decide +kernel
theorem dM_begin_50 : decode mM_begin.2.1 50 = .ok (.iconst 2, 1) := by decide +kernel
theorem dM_begin_51 : decode mM_begin.2.1 51 = .ok (.invokevirtual 72, 3) := by decide +kernel
theorem dM_begin_54 : decode mM_begin.2.1 54 = .ok (.ireturn, 1) := by decide +kernel
theorem dM_begin_55 : decode mM_begin.2.1 55 = .ok (.aload_n 0, 1) := by decide +kernel
theorem dM_begin_56 : decode mM_begin.2.1 56 = .ok (.getfield 9, 3) := by decide +kernel
theorem dM_begin_59 : decode mM_begin.2.1 59 = .ok (.iload_n 2, 1) := by decide +kernel
theorem dM_begin_60 : decode mM_begin.2.1 60 = .ok (.iconst 1, 1) := by decide +kernel
theorem dM_begin_61 : decode mM_begin.2.1 61 = .ok (.bastore, 1) := by decide +kernel
theorem dM_begin_62 : decode mM_begin.2.1 62 = .ok (.aload_n 0, 1) := by decide +kernel
theorem dM_begin_63 : decode mM_begin.2.1 63 = .ok (.getfield 19, 3) := by decide +kernel
theorem dM_begin_66 : decode mM_begin.2.1 66 = .ok (.iload_n 2, 1) := by decide +kernel
theorem dM_begin_67 : decode mM_begin.2.1 67 = .ok (.aload_n 0, 1) := by decide +kernel
theorem dM_begin_68 : decode mM_begin.2.1 68 = .ok (.getfield 64, 3) := by decide +kernel
theorem dM_begin_71 : decode mM_begin.2.1 71 = .ok (.iastore, 1) := by decide +kernel
theorem dM_begin_72 : decode mM_begin.2.1 72 = .ok (.aload_n 0, 1) := by decide +kernel
theorem dM_begin_73 : decode mM_begin.2.1 73 = .ok (.getfield 23, 3) := by decide +kernel
theorem dM_begin_76 : decode mM_begin.2.1 76 = .ok (.iload_n 2, 1) := by decide +kernel
theorem dM_begin_77 : decode mM_begin.2.1 77 = .ok (.iload_n 1, 1) := by decide +kernel
theorem dM_begin_78 : decode mM_begin.2.1 78 = .ok (.iastore, 1) := by decide +kernel
theorem dM_begin_79 : decode mM_begin.2.1 79 = .ok (.aload_n 0, 1) := by decide +kernel
theorem dM_begin_80 : decode mM_begin.2.1 80 = .ok (.getfield 26, 3) := by decide +kernel
theorem dM_begin_83 : decode mM_begin.2.1 83 = .ok (.iload_n 2, 1) := by decide +kernel
theorem dM_begin_84 : decode mM_begin.2.1 84 = .ok (.iconst 1, 1) := by decide +kernel
theorem dM_begin_85 : decode mM_begin.2.1 85 = .ok (.iastore, 1) := by decide +kernel
theorem dM_begin_86 : decode mM_begin.2.1 86 = .ok (.aload_n 0, 1) := by decide +kernel
theorem dM_begin_87 : decode mM_begin.2.1 87 = .ok (.iload_n 2, 1) := by decide +kernel
theorem dM_begin_88 : decode mM_begin.2.1 88 = .ok (.iconst 0, 1) := by decide +kernel
theorem dM_begin_89 : decode mM_begin.2.1 89 = .ok (.invokevirtual 76, 3) := by decide +kernel
theorem dM_begin_92 : decode mM_begin.2.1 92 = .ok (.iconst 0, 1) := by decide +kernel
theorem dM_begin_93 : decode mM_begin.2.1 93 = .ok (.istore_n 3, 1) := by decide +kernel
theorem dM_begin_94 : decode mM_begin.2.1 94 = .ok (.iload_n 3, 1) := by decide +kernel
theorem dM_begin_95 : decode mM_begin.2.1 95 = .ok (.bipush 16, 2) := by decide +kernel
theorem dM_begin_97 : decode mM_begin.2.1 97 = .ok (.if_icmp .ge 37, 3) := by decide +kernel
theorem dM_begin_100 : decode mM_begin.2.1 100 = .ok (.aload_n 0, 1) := by decide +kernel
theorem dM_begin_101 : decode mM_begin.2.1 101 = .ok (.getfield 13, 3) := by decide +kernel
theorem dM_begin_104 : decode mM_begin.2.1 104 = .ok (.bipush 16, 2) := by decide +kernel
theorem dM_begin_106 : decode mM_begin.2.1 106 = .ok (.iload_n 2, 1) := by decide +kernel
theorem dM_begin_107 : decode mM_begin.2.1 107 = .ok (.imul, 1) := by decide +kernel
theorem dM_begin_108 : decode mM_begin.2.1 108 = .ok (.iload_n 3, 1) := by decide +kernel
theorem dM_begin_109 : decode mM_begin.2.1 109 = .ok (.iadd, 1) := by decide +kernel
theorem dM_begin_110 : decode mM_begin.2.1 110 = .ok (.iconst 0, 1) := by decide +kernel
theorem dM_begin_111 : decode mM_begin.2.1 111 = .ok (.bastore, 1) := by decide +kernel
theorem dM_begin_112 : decode mM_begin.2.1 112 = .ok (.aload_n 0, 1) := by decide +kernel
theorem dM_begin_113 : decode mM_begin.2.1 113 = .ok (.getfield 29, 3) := by decide +kernel
theorem dM_begin_116 : decode mM_begin.2.1 116 = .ok (.bipush 16, 2) := by decide +kernel
theorem dM_begin_118 : decode mM_begin.2.1 118 = .ok (.iload_n 2, 1) := by decide +kernel
theorem dM_begin_119 : decode mM_begin.2.1 119 = .ok (.imul, 1) := by decide +kernel
theorem dM_begin_120 : decode mM_begin.2.1 120 = .ok (.iload_n 3, 1) := by decide +kernel
theorem dM_begin_121 : decode mM_begin.2.1 121 = .ok (.iadd, 1) := by decide +kernel
theorem dM_begin_122 : decode mM_begin.2.1 122 = .ok (.aload_n 0, 1) := by decide +kernel
theorem dM_begin_123 : decode mM_begin.2.1 123 = .ok (.iload_n 3, 1) := by decide +kernel
theorem dM_begin_124 : decode mM_begin.2.1 124 = .ok (.invokevirtual 80, 3) := by decide +kernel
theorem dM_begin_127 : decode mM_begin.2.1 127 = .ok (.lastore, 1) := by decide +kernel
theorem dM_begin_128 : decode mM_begin.2.1 128 = .ok (.iinc 3 1, 3) := by decide +kernel
theorem dM_begin_131 : decode mM_begin.2.1 131 = .ok (.goto (-37), 3) := by decide +kernel
theorem dM_begin_134 : decode mM_begin.2.1 134 = .ok (.iload_n 2, 1) := by decide +kernel

theorem dJ_bitCount_0 : decode mJ_bitCount.2.1 0 = .ok (.iload_n 0, 1) := by decide +kernel
theorem dJ_bitCount_1 : decode mJ_bitCount.2.1 1 = .ok (.iload_n 0, 1) := by decide +kernel
theorem dJ_bitCount_2 : decode mJ_bitCount.2.1 2 = .ok (.iconst 1, 1) := by decide +kernel
theorem dJ_bitCount_3 : decode mJ_bitCount.2.1 3 = .ok (.iushr, 1) := by decide +kernel
theorem dJ_bitCount_4 : decode mJ_bitCount.2.1 4 = .ok (.ldc_w 265, 3) := by decide +kernel
theorem dJ_bitCount_7 : decode mJ_bitCount.2.1 7 = .ok (.iand, 1) := by decide +kernel
theorem dJ_bitCount_8 : decode mJ_bitCount.2.1 8 = .ok (.isub, 1) := by decide +kernel
theorem dJ_bitCount_9 : decode mJ_bitCount.2.1 9 = .ok (.istore_n 0, 1) := by decide +kernel
theorem dJ_bitCount_10 : decode mJ_bitCount.2.1 10 = .ok (.iload_n 0, 1) := by decide +kernel
theorem dJ_bitCount_11 : decode mJ_bitCount.2.1 11 = .ok (.ldc_w 266, 3) := by decide +kernel
theorem dJ_bitCount_14 : decode mJ_bitCount.2.1 14 = .ok (.iand, 1) := by decide +kernel
theorem dJ_bitCount_15 : decode mJ_bitCount.2.1 15 = .ok (.iload_n 0, 1) := by decide +kernel
theorem dJ_bitCount_16 : decode mJ_bitCount.2.1 16 = .ok (.iconst 2, 1) := by decide +kernel
theorem dJ_bitCount_17 : decode mJ_bitCount.2.1 17 = .ok (.iushr, 1) := by decide +kernel
theorem dJ_bitCount_18 : decode mJ_bitCount.2.1 18 = .ok (.ldc_w 266, 3) := by decide +kernel
theorem dJ_bitCount_21 : decode mJ_bitCount.2.1 21 = .ok (.iand, 1) := by decide +kernel
theorem dJ_bitCount_22 : decode mJ_bitCount.2.1 22 = .ok (.iadd, 1) := by decide +kernel
theorem dJ_bitCount_23 : decode mJ_bitCount.2.1 23 = .ok (.istore_n 0, 1) := by decide +kernel
theorem dJ_bitCount_24 : decode mJ_bitCount.2.1 24 = .ok (.iload_n 0, 1) := by decide +kernel
theorem dJ_bitCount_25 : decode mJ_bitCount.2.1 25 = .ok (.iload_n 0, 1) := by decide +kernel
theorem dJ_bitCount_26 : decode mJ_bitCount.2.1 26 = .ok (.iconst 4, 1) := by decide +kernel
theorem dJ_bitCount_27 : decode mJ_bitCount.2.1 27 = .ok (.iushr, 1) := by decide +kernel
theorem dJ_bitCount_28 : decode mJ_bitCount.2.1 28 = .ok (.iadd, 1) := by decide +kernel
theorem dJ_bitCount_29 : decode mJ_bitCount.2.1 29 = .ok (.ldc_w 267, 3) := by decide +kernel
theorem dJ_bitCount_32 : decode mJ_bitCount.2.1 32 = .ok (.iand, 1) := by decide +kernel
theorem dJ_bitCount_33 : decode mJ_bitCount.2.1 33 = .ok (.istore_n 0, 1) := by decide +kernel
theorem dJ_bitCount_34 : decode mJ_bitCount.2.1 34 = .ok (.iload_n 0, 1) := by decide +kernel
theorem dJ_bitCount_35 : decode mJ_bitCount.2.1 35 = .ok (.iload_n 0, 1) := by decide +kernel
theorem dJ_bitCount_36 : decode mJ_bitCount.2.1 36 = .ok (.bipush 8, 2) := by decide +kernel
theorem dJ_bitCount_38 : decode mJ_bitCount.2.1 38 = .ok (.iushr, 1) := by decide +kernel
theorem dJ_bitCount_39 : decode mJ_bitCount.2.1 39 = .ok (.iadd, 1) := by decide +kernel
theorem dJ_bitCount_40 : decode mJ_bitCount.2.1 40 = .ok (.istore_n 0, 1) := by decide +kernel
theorem dJ_bitCount_41 : decode mJ_bitCount.2.1 41 = .ok (.iload_n 0, 1) := by decide +kernel
theorem dJ_bitCount_42 : decode mJ_bitCount.2.1 42 = .ok (.iload_n 0, 1) := by decide +kernel
theorem dJ_bitCount_43 : decode mJ_bitCount.2.1 43 = .ok (.bipush 16, 2) := by decide +kernel
theorem dJ_bitCount_45 : decode mJ_bitCount.2.1 45 = .ok (.iushr, 1) := by decide +kernel
theorem dJ_bitCount_46 : decode mJ_bitCount.2.1 46 = .ok (.iadd, 1) := by decide +kernel
theorem dJ_bitCount_47 : decode mJ_bitCount.2.1 47 = .ok (.istore_n 0, 1) := by decide +kernel
theorem dJ_bitCount_48 : decode mJ_bitCount.2.1 48 = .ok (.iload_n 0, 1) := by decide +kernel
theorem dJ_bitCount_49 : decode mJ_bitCount.2.1 49 = .ok (.bipush 63, 2) := by decide +kernel
theorem dJ_bitCount_51 : decode mJ_bitCount.2.1 51 = .ok (.iand, 1) := by decide +kernel
theorem dJ_bitCount_52 : decode mJ_bitCount.2.1 52 = .ok (.ireturn, 1) := by decide +kernel
theorem dJ_min_0 : decode mJ_min.2.1 0 = .ok (.iload_n 0, 1) := by decide +kernel
theorem dJ_min_1 : decode mJ_min.2.1 1 = .ok (.iload_n 1, 1) := by decide +kernel
theorem dJ_min_2 : decode mJ_min.2.1 2 = .ok (.if_icmp .gt 7, 3) := by decide +kernel
theorem dJ_min_5 : decode mJ_min.2.1 5 = .ok (.iload_n 0, 1) := by decide +kernel
theorem dJ_min_6 : decode mJ_min.2.1 6 = .ok (.goto 4, 3) := by decide +kernel
theorem dJ_min_9 : decode mJ_min.2.1 9 = .ok (.iload_n 1, 1) := by decide +kernel
theorem dJ_min_10 : decode mJ_min.2.1 10 = .ok (.ireturn, 1) := by decide +kernel

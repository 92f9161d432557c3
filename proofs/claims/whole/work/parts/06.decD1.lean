theorem dD_reading_12 : decode mD_reading.2.1 12 = .ok (.iload_n 2, 1) := by decide +kernel
theorem dD_reading_13 : decode mD_reading.2.1 13 = .ok (.invokevirtual 144, 3) := by decide +kernel
theorem dD_reading_16 : decode mD_reading.2.1 16 = .ok (.lreturn, 1) := by decide +kernel
theorem dD_reading_17 : decode mD_reading.2.1 17 = .ok (.aload_n 0, 1) := by decide +kernel
theorem dD_reading_18 : decode mD_reading.2.1 18 = .ok (.getfield 19, 3) := by decide +kernel
theorem dD_reading_21 : decode mD_reading.2.1 21 = .ok (.iload_n 2, 1) := by decide +kernel
theorem dD_reading_22 : decode mD_reading.2.1 22 = .ok (.aload_n 1, 1) := by decide +kernel
theorem dD_reading_23 : decode mD_reading.2.1 23 = .ok (.invokevirtual 119, 3) := by decide +kernel
theorem dD_reading_26 : decode mD_reading.2.1 26 = .ok (.invokevirtual 109, 3) := by decide +kernel
theorem dD_reading_29 : decode mD_reading.2.1 29 = .ok (.lreturn, 1) := by decide +kernel
theorem dD_spoiledCells_0 : decode mD_spoiledCells.2.1 0 = .ok (.aload_n 1, 1) := by decide +kernel
theorem dD_spoiledCells_1 : decode mD_spoiledCells.2.1 1 = .ok (.invokevirtual 99, 3) := by decide +kernel
theorem dD_spoiledCells_4 : decode mD_spoiledCells.2.1 4 = .ok (.aload_n 0, 1) := by decide +kernel
theorem dD_spoiledCells_5 : decode mD_spoiledCells.2.1 5 = .ok (.getfield 19, 3) := by decide +kernel
theorem dD_spoiledCells_8 : decode mD_spoiledCells.2.1 8 = .ok (.aload_n 1, 1) := by decide +kernel
theorem dD_spoiledCells_9 : decode mD_spoiledCells.2.1 9 = .ok (.invokevirtual 119, 3) := by decide +kernel
theorem dD_spoiledCells_12 : decode mD_spoiledCells.2.1 12 = .ok (.invokevirtual 147, 3) := by decide +kernel
theorem dD_spoiledCells_15 : decode mD_spoiledCells.2.1 15 = .ok (.iand, 1) := by decide +kernel
theorem dD_spoiledCells_16 : decode mD_spoiledCells.2.1 16 = .ok (.ireturn, 1) := by decide +kernel
theorem dD_keepVersions_0 : decode mD_keepVersions.2.1 0 = .ok (.iconst 0, 1) := by decide +kernel
theorem dD_keepVersions_1 : decode mD_keepVersions.2.1 1 = .ok (.istore_n 3, 1) := by decide +kernel
theorem dD_keepVersions_2 : decode mD_keepVersions.2.1 2 = .ok (.iload_n 3, 1) := by decide +kernel
theorem dD_keepVersions_3 : decode mD_keepVersions.2.1 3 = .ok (.bipush 16, 2) := by decide +kernel
theorem dD_keepVersions_5 : decode mD_keepVersions.2.1 5 = .ok (.if_icmp .ge 35, 3) := by decide +kernel
theorem dD_keepVersions_8 : decode mD_keepVersions.2.1 8 = .ok (.iload_n 2, 1) := by decide +kernel
theorem dD_keepVersions_9 : decode mD_keepVersions.2.1 9 = .ok (.iconst 1, 1) := by decide +kernel
theorem dD_keepVersions_10 : decode mD_keepVersions.2.1 10 = .ok (.iload_n 3, 1) := by decide +kernel
theorem dD_keepVersions_11 : decode mD_keepVersions.2.1 11 = .ok (.ishl, 1) := by decide +kernel
theorem dD_keepVersions_12 : decode mD_keepVersions.2.1 12 = .ok (.iand, 1) := by decide +kernel
theorem dD_keepVersions_13 : decode mD_keepVersions.2.1 13 = .ok (.ifCond .eq 21, 3) := by decide +kernel
theorem dD_keepVersions_16 : decode mD_keepVersions.2.1 16 = .ok (.aload_n 0, 1) := by decide +kernel
theorem dD_keepVersions_17 : decode mD_keepVersions.2.1 17 = .ok (.getfield 19, 3) := by decide +kernel
theorem dD_keepVersions_20 : decode mD_keepVersions.2.1 20 = .ok (.iload_n 3, 1) := by decide +kernel
theorem dD_keepVersions_21 : decode mD_keepVersions.2.1 21 = .ok (.aload_n 0, 1) := by decide +kernel
theorem dD_keepVersions_22 : decode mD_keepVersions.2.1 22 = .ok (.getfield 23, 3) := by decide +kernel
theorem dD_keepVersions_25 : decode mD_keepVersions.2.1 25 = .ok (.aload_n 0, 1) := by decide +kernel
theorem dD_keepVersions_26 : decode mD_keepVersions.2.1 26 = .ok (.aload_n 1, 1) := by decide +kernel
theorem dD_keepVersions_27 : decode mD_keepVersions.2.1 27 = .ok (.iload_n 3, 1) := by decide +kernel
theorem dD_keepVersions_28 : decode mD_keepVersions.2.1 28 = .ok (.invokevirtual 56, 3) := by decide +kernel
theorem dD_keepVersions_31 : decode mD_keepVersions.2.1 31 = .ok (.invokevirtual 150, 3) := by decide +kernel
theorem dD_keepVersions_34 : decode mD_keepVersions.2.1 34 = .ok (.iinc 3 1, 3) := by decide +kernel
theorem dD_keepVersions_37 : decode mD_keepVersions.2.1 37 = .ok (.goto (-35), 3) := by decide +kernel
theorem dD_keepVersions_40 : decode mD_keepVersions.2.1 40 = .ok (.return_, 1) := by decide +kernel

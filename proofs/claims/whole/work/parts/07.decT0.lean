theorem dT_init_0 : decode mT_init.2.1 0 = .ok (.aload_n 0, 1) := by decide +kernel
theorem dT_init_1 : decode mT_init.2.1 1 = .ok (.invokespecial 3, 3) := by decide +kernel
theorem dT_init_4 : decode mT_init.2.1 4 = .ok (.aload_n 0, 1) := by decide +kernel
theorem dT_init_5 : decode mT_init.2.1 5 = .ok (.iconst 0, 1) := by decide +kernel
theorem dT_init_6 : decode mT_init.2.1 6 = .ok (.putfield 9, 3) := by decide +kernel
theorem dT_init_9 : decode mT_init.2.1 9 = .ok (.aload_n 0, 1) := by decide +kernel
theorem dT_init_10 : decode mT_init.2.1 10 = .ok (.iconst 1, 1) := by decide +kernel
theorem dT_init_11 : decode mT_init.2.1 11 = .ok (.putfield 15, 3) := by decide +kernel
theorem dT_init_14 : decode mT_init.2.1 14 = .ok (.aload_n 0, 1) := by decide +kernel
theorem dT_init_15 : decode mT_init.2.1 15 = .ok (.bipush 8, 2) := by decide +kernel
theorem dT_init_17 : decode mT_init.2.1 17 = .ok (.newarray .int, 2) := by decide +kernel
theorem dT_init_19 : decode mT_init.2.1 19 = .ok (.putfield 19, 3) := by decide +kernel
theorem dT_init_22 : decode mT_init.2.1 22 = .ok (.aload_n 0, 1) := by decide +kernel
theorem dT_init_23 : decode mT_init.2.1 23 = .ok (.bipush 8, 2) := by decide +kernel
theorem dT_init_25 : decode mT_init.2.1 25 = .ok (.bipush 16, 2) := by decide +kernel
theorem dT_init_27 : decode mT_init.2.1 27 = .ok (.multianewarray 23 2, 4) := by decide +kernel
theorem dT_init_31 : decode mT_init.2.1 31 = .ok (.putfield 25, 3) := by decide +kernel
theorem dT_init_34 : decode mT_init.2.1 34 = .ok (.return_, 1) := by decide +kernel
theorem dT_open_0 : decode mT_open.2.1 0 = .ok (.aload_n 0, 1) := by decide +kernel
theorem dT_open_1 : decode mT_open.2.1 1 = .ok (.iconst 1, 1) := by decide +kernel
theorem dT_open_2 : decode mT_open.2.1 2 = .ok (.putfield 9, 3) := by decide +kernel
theorem dT_open_5 : decode mT_open.2.1 5 = .ok (.aload_n 0, 1) := by decide +kernel
theorem dT_open_6 : decode mT_open.2.1 6 = .ok (.iload_n 1, 1) := by decide +kernel
theorem dT_open_7 : decode mT_open.2.1 7 = .ok (.putfield 28, 3) := by decide +kernel
theorem dT_open_10 : decode mT_open.2.1 10 = .ok (.aload_n 0, 1) := by decide +kernel
theorem dT_open_11 : decode mT_open.2.1 11 = .ok (.iload_n 2, 1) := by decide +kernel
theorem dT_open_12 : decode mT_open.2.1 12 = .ok (.putfield 31, 3) := by decide +kernel
theorem dT_open_15 : decode mT_open.2.1 15 = .ok (.aload_n 0, 1) := by decide +kernel
theorem dT_open_16 : decode mT_open.2.1 16 = .ok (.iconst 1, 1) := by decide +kernel
theorem dT_open_17 : decode mT_open.2.1 17 = .ok (.putfield 15, 3) := by decide +kernel
theorem dT_open_20 : decode mT_open.2.1 20 = .ok (.aload_n 0, 1) := by decide +kernel
theorem dT_open_21 : decode mT_open.2.1 21 = .ok (.iconst 0, 1) := by decide +kernel
theorem dT_open_22 : decode mT_open.2.1 22 = .ok (.putfield 34, 3) := by decide +kernel
theorem dT_open_25 : decode mT_open.2.1 25 = .ok (.aload_n 0, 1) := by decide +kernel
theorem dT_open_26 : decode mT_open.2.1 26 = .ok (.getfield 19, 3) := by decide +kernel
theorem dT_open_29 : decode mT_open.2.1 29 = .ok (.iconst 0, 1) := by decide +kernel
theorem dT_open_30 : decode mT_open.2.1 30 = .ok (.iconst 0, 1) := by decide +kernel
theorem dT_open_31 : decode mT_open.2.1 31 = .ok (.iastore, 1) := by decide +kernel
theorem dT_open_32 : decode mT_open.2.1 32 = .ok (.return_, 1) := by decide +kernel
theorem dT_close_0 : decode mT_close.2.1 0 = .ok (.aload_n 0, 1) := by decide +kernel
theorem dT_close_1 : decode mT_close.2.1 1 = .ok (.iconst 0, 1) := by decide +kernel
theorem dT_close_2 : decode mT_close.2.1 2 = .ok (.putfield 9, 3) := by decide +kernel
theorem dT_close_5 : decode mT_close.2.1 5 = .ok (.return_, 1) := by decide +kernel
theorem dT_isOpen_0 : decode mT_isOpen.2.1 0 = .ok (.aload_n 0, 1) := by decide +kernel
theorem dT_isOpen_1 : decode mT_isOpen.2.1 1 = .ok (.getfield 9, 3) := by decide +kernel
theorem dT_isOpen_4 : decode mT_isOpen.2.1 4 = .ok (.ireturn, 1) := by decide +kernel
theorem dT_start_0 : decode mT_start.2.1 0 = .ok (.aload_n 0, 1) := by decide +kernel
theorem dT_start_1 : decode mT_start.2.1 1 = .ok (.getfield 28, 3) := by decide +kernel
theorem dT_start_4 : decode mT_start.2.1 4 = .ok (.ireturn, 1) := by decide +kernel
theorem dT_kind_0 : decode mT_kind.2.1 0 = .ok (.aload_n 0, 1) := by decide +kernel
theorem dT_kind_1 : decode mT_kind.2.1 1 = .ok (.getfield 31, 3) := by decide +kernel
theorem dT_kind_4 : decode mT_kind.2.1 4 = .ok (.ireturn, 1) := by decide +kernel
theorem dT_layers_0 : decode mT_layers.2.1 0 = .ok (.aload_n 0, 1) := by decide +kernel
theorem dT_layers_1 : decode mT_layers.2.1 1 = .ok (.getfield 15, 3) := by decide +kernel
theorem dT_layers_4 : decode mT_layers.2.1 4 = .ok (.ireturn, 1) := by decide +kernel
theorem dT_seen_0 : decode mT_seen.2.1 0 = .ok (.aload_n 0, 1) := by decide +kernel
theorem dT_seen_1 : decode mT_seen.2.1 1 = .ok (.getfield 34, 3) := by decide +kernel
theorem dT_seen_4 : decode mT_seen.2.1 4 = .ok (.ireturn, 1) := by decide +kernel
theorem dT_see_0 : decode mT_see.2.1 0 = .ok (.aload_n 0, 1) := by decide +kernel
theorem dT_see_1 : decode mT_see.2.1 1 = .ok (.dup, 1) := by decide +kernel
theorem dT_see_2 : decode mT_see.2.1 2 = .ok (.getfield 34, 3) := by decide +kernel
theorem dT_see_5 : decode mT_see.2.1 5 = .ok (.iconst 1, 1) := by decide +kernel
theorem dT_see_6 : decode mT_see.2.1 6 = .ok (.iload_n 1, 1) := by decide +kernel
theorem dT_see_7 : decode mT_see.2.1 7 = .ok (.ishl, 1) := by decide +kernel
theorem dT_see_8 : decode mT_see.2.1 8 = .ok (.ior, 1) := by decide +kernel
theorem dT_see_9 : decode mT_see.2.1 9 = .ok (.putfield 34, 3) := by decide +kernel
theorem dT_see_12 : decode mT_see.2.1 12 = .ok (.return_, 1) := by decide +kernel
theorem dT_written_0 : decode mT_written.2.1 0 = .ok (.iconst 0, 1) := by decide +kernel
theorem dT_written_1 : decode mT_written.2.1 1 = .ok (.istore_n 1, 1) := by decide +kernel
theorem dT_written_2 : decode mT_written.2.1 2 = .ok (.iconst 0, 1) := by decide +kernel
theorem dT_written_3 : decode mT_written.2.1 3 = .ok (.istore_n 2, 1) := by decide +kernel
theorem dT_written_4 : decode mT_written.2.1 4 = .ok (.iload_n 2, 1) := by decide +kernel
theorem dT_written_5 : decode mT_written.2.1 5 = .ok (.aload_n 0, 1) := by decide +kernel
theorem dT_written_6 : decode mT_written.2.1 6 = .ok (.getfield 15, 3) := by decide +kernel
theorem dT_written_9 : decode mT_written.2.1 9 = .ok (.if_icmp .ge 18, 3) := by decide +kernel
theorem dT_written_12 : decode mT_written.2.1 12 = .ok (.iload_n 1, 1) := by decide +kernel
theorem dT_written_13 : decode mT_written.2.1 13 = .ok (.aload_n 0, 1) := by decide +kernel
theorem dT_written_14 : decode mT_written.2.1 14 = .ok (.getfield 19, 3) := by decide +kernel
theorem dT_written_17 : decode mT_written.2.1 17 = .ok (.iload_n 2, 1) := by decide +kernel
theorem dT_written_18 : decode mT_written.2.1 18 = .ok (.iaload, 1) := by decide +kernel
theorem dT_written_19 : decode mT_written.2.1 19 = .ok (.ior, 1) := by decide +kernel
theorem dT_written_20 : decode mT_written.2.1 20 = .ok (.istore_n 1, 1) := by decide +kernel
theorem dT_written_21 : decode mT_written.2.1 21 = .ok (.iinc 2 1, 3) := by decide +kernel
theorem dT_written_24 : decode mT_written.2.1 24 = .ok (.goto (-20), 3) := by decide +kernel
theorem dT_written_27 : decode mT_written.2.1 27 = .ok (.iload_n 1, 1) := by decide +kernel
theorem dT_written_28 : decode mT_written.2.1 28 = .ok (.ireturn, 1) := by decide +kernel
theorem dT_heeded_0 : decode mT_heeded.2.1 0 = .ok (.aload_n 0, 1) := by decide +kernel
theorem dT_heeded_1 : decode mT_heeded.2.1 1 = .ok (.getfield 31, 3) := by decide +kernel
theorem dT_heeded_4 : decode mT_heeded.2.1 4 = .ok (.iconst 1, 1) := by decide +kernel
theorem dT_heeded_5 : decode mT_heeded.2.1 5 = .ok (.if_icmp .ne 15, 3) := by decide +kernel
theorem dT_heeded_8 : decode mT_heeded.2.1 8 = .ok (.aload_n 0, 1) := by decide +kernel
theorem dT_heeded_9 : decode mT_heeded.2.1 9 = .ok (.invokevirtual 37, 3) := by decide +kernel
theorem dT_heeded_12 : decode mT_heeded.2.1 12 = .ok (.aload_n 0, 1) := by decide +kernel
theorem dT_heeded_13 : decode mT_heeded.2.1 13 = .ok (.getfield 34, 3) := by decide +kernel
theorem dT_heeded_16 : decode mT_heeded.2.1 16 = .ok (.ior, 1) := by decide +kernel
theorem dT_heeded_17 : decode mT_heeded.2.1 17 = .ok (.goto 7, 3) := by decide +kernel
theorem dT_heeded_20 : decode mT_heeded.2.1 20 = .ok (.aload_n 0, 1) := by decide +kernel
theorem dT_heeded_21 : decode mT_heeded.2.1 21 = .ok (.invokevirtual 37, 3) := by decide +kernel
theorem dT_heeded_24 : decode mT_heeded.2.1 24 = .ok (.ireturn, 1) := by decide +kernel
theorem dT_layerThatWrote_0 : decode mT_layerThatWrote.2.1 0 = .ok (.aload_n 0, 1) := by decide +kernel
theorem dT_layerThatWrote_1 : decode mT_layerThatWrote.2.1 1 = .ok (.getfield 15, 3) := by decide +kernel
theorem dT_layerThatWrote_4 : decode mT_layerThatWrote.2.1 4 = .ok (.iconst 1, 1) := by decide +kernel
theorem dT_layerThatWrote_5 : decode mT_layerThatWrote.2.1 5 = .ok (.isub, 1) := by decide +kernel
theorem dT_layerThatWrote_6 : decode mT_layerThatWrote.2.1 6 = .ok (.istore_n 2, 1) := by decide +kernel
theorem dT_layerThatWrote_7 : decode mT_layerThatWrote.2.1 7 = .ok (.iload_n 2, 1) := by decide +kernel
theorem dT_layerThatWrote_8 : decode mT_layerThatWrote.2.1 8 = .ok (.ifCond .lt 22, 3) := by decide +kernel
theorem dT_layerThatWrote_11 : decode mT_layerThatWrote.2.1 11 = .ok (.aload_n 0, 1) := by decide +kernel
theorem dT_layerThatWrote_12 : decode mT_layerThatWrote.2.1 12 = .ok (.getfield 19, 3) := by decide +kernel
theorem dT_layerThatWrote_15 : decode mT_layerThatWrote.2.1 15 = .ok (.iload_n 2, 1) := by decide +kernel
theorem dT_layerThatWrote_16 : decode mT_layerThatWrote.2.1 16 = .ok (.iaload, 1) := by decide +kernel
theorem dT_layerThatWrote_17 : decode mT_layerThatWrote.2.1 17 = .ok (.iconst 1, 1) := by decide +kernel
theorem dT_layerThatWrote_18 : decode mT_layerThatWrote.2.1 18 = .ok (.iload_n 1, 1) := by decide +kernel
theorem dT_layerThatWrote_19 : decode mT_layerThatWrote.2.1 19 = .ok (.ishl, 1) := by decide +kernel
theorem dT_layerThatWrote_20 : decode mT_layerThatWrote.2.1 20 = .ok (.iand, 1) := by decide +kernel
theorem dT_layerThatWrote_21 : decode mT_layerThatWrote.2.1 21 = .ok (.ifCond .ne 9, 3) := by decide +kernel
theorem dT_layerThatWrote_24 : decode mT_layerThatWrote.2.1 24 = .ok (.iinc 2 (-1), 3) := by decide +kernel
theorem dT_layerThatWrote_27 : decode mT_layerThatWrote.2.1 27 = .ok (.goto (-20), 3) := by decide +kernel
theorem dT_layerThatWrote_30 : decode mT_layerThatWrote.2.1 30 = .ok (.iload_n 2, 1) := by decide +kernel
theorem dT_layerThatWrote_31 : decode mT_layerThatWrote.2.1 31 = .ok (.ireturn, 1) := by decide +kernel
theorem dT_valueIn_0 : decode mT_valueIn.2.1 0 = .ok (.aload_n 0, 1) := by decide +kernel
theorem dT_valueIn_1 : decode mT_valueIn.2.1 1 = .ok (.getfield 25, 3) := by decide +kernel
theorem dT_valueIn_4 : decode mT_valueIn.2.1 4 = .ok (.iload_n 1, 1) := by decide +kernel
theorem dT_valueIn_5 : decode mT_valueIn.2.1 5 = .ok (.aaload, 1) := by decide +kernel
theorem dT_valueIn_6 : decode mT_valueIn.2.1 6 = .ok (.iload_n 2, 1) := by decide +kernel
theorem dT_valueIn_7 : decode mT_valueIn.2.1 7 = .ok (.laload, 1) := by decide +kernel
theorem dT_valueIn_8 : decode mT_valueIn.2.1 8 = .ok (.lreturn, 1) := by decide +kernel
theorem dT_put_0 : decode mT_put.2.1 0 = .ok (.aload_n 0, 1) := by decide +kernel
theorem dT_put_1 : decode mT_put.2.1 1 = .ok (.aload_n 0, 1) := by decide +kernel
theorem dT_put_2 : decode mT_put.2.1 2 = .ok (.getfield 15, 3) := by decide +kernel
theorem dT_put_5 : decode mT_put.2.1 5 = .ok (.iconst 1, 1) := by decide +kernel
theorem dT_put_6 : decode mT_put.2.1 6 = .ok (.isub, 1) := by decide +kernel
theorem dT_put_7 : decode mT_put.2.1 7 = .ok (.iload_n 1, 1) := by decide +kernel
theorem dT_put_8 : decode mT_put.2.1 8 = .ok (.lload_n 2, 1) := by decide +kernel
theorem dT_put_9 : decode mT_put.2.1 9 = .ok (.invokevirtual 41, 3) := by decide +kernel
theorem dT_put_12 : decode mT_put.2.1 12 = .ok (.return_, 1) := by decide +kernel
theorem dT_addLayer_0 : decode mT_addLayer.2.1 0 = .ok (.aload_n 0, 1) := by decide +kernel
theorem dT_addLayer_1 : decode mT_addLayer.2.1 1 = .ok (.getfield 15, 3) := by decide +kernel
theorem dT_addLayer_4 : decode mT_addLayer.2.1 4 = .ok (.bipush 8, 2) := by decide +kernel
theorem dT_addLayer_6 : decode mT_addLayer.2.1 6 = .ok (.if_icmp .ge 23, 3) := by decide +kernel
theorem dT_addLayer_9 : decode mT_addLayer.2.1 9 = .ok (.aload_n 0, 1) := by decide +kernel
theorem dT_addLayer_10 : decode mT_addLayer.2.1 10 = .ok (.getfield 19, 3) := by decide +kernel
theorem dT_addLayer_13 : decode mT_addLayer.2.1 13 = .ok (.aload_n 0, 1) := by decide +kernel
theorem dT_addLayer_14 : decode mT_addLayer.2.1 14 = .ok (.getfield 15, 3) := by decide +kernel
theorem dT_addLayer_17 : decode mT_addLayer.2.1 17 = .ok (.iconst 0, 1) := by decide +kernel
theorem dT_addLayer_18 : decode mT_addLayer.2.1 18 = .ok (.iastore, 1) := by decide +kernel
theorem dT_addLayer_19 : decode mT_addLayer.2.1 19 = .ok (.aload_n 0, 1) := by decide +kernel
theorem dT_addLayer_20 : decode mT_addLayer.2.1 20 = .ok (.dup, 1) := by decide +kernel
theorem dT_addLayer_21 : decode mT_addLayer.2.1 21 = .ok (.getfield 15, 3) := by decide +kernel
theorem dT_addLayer_24 : decode mT_addLayer.2.1 24 = .ok (.iconst 1, 1) := by decide +kernel
theorem dT_addLayer_25 : decode mT_addLayer.2.1 25 = .ok (.iadd, 1) := by decide +kernel
theorem dT_addLayer_26 : decode mT_addLayer.2.1 26 = .ok (.putfield 15, 3) := by decide +kernel
theorem dT_addLayer_29 : decode mT_addLayer.2.1 29 = .ok (.return_, 1) := by decide +kernel
theorem dT_removeLayer_0 : decode mT_removeLayer.2.1 0 = .ok (.aload_n 0, 1) := by decide +kernel
theorem dT_removeLayer_1 : decode mT_removeLayer.2.1 1 = .ok (.getfield 15, 3) := by decide +kernel
theorem dT_removeLayer_4 : decode mT_removeLayer.2.1 4 = .ok (.iconst 1, 1) := by decide +kernel
theorem dT_removeLayer_5 : decode mT_removeLayer.2.1 5 = .ok (.if_icmp .le 13, 3) := by decide +kernel
theorem dT_removeLayer_8 : decode mT_removeLayer.2.1 8 = .ok (.aload_n 0, 1) := by decide +kernel
theorem dT_removeLayer_9 : decode mT_removeLayer.2.1 9 = .ok (.dup, 1) := by decide +kernel
theorem dT_removeLayer_10 : decode mT_removeLayer.2.1 10 = .ok (.getfield 15, 3) := by decide +kernel
theorem dT_removeLayer_13 : decode mT_removeLayer.2.1 13 = .ok (.iconst 1, 1) := by decide +kernel
theorem dT_removeLayer_14 : decode mT_removeLayer.2.1 14 = .ok (.isub, 1) := by decide +kernel
theorem dT_removeLayer_15 : decode mT_removeLayer.2.1 15 = .ok (.putfield 15, 3) := by decide +kernel
theorem dT_removeLayer_18 : decode mT_removeLayer.2.1 18 = .ok (.return_, 1) := by decide +kernel
theorem dT_copyHighestLayerDown_0 : decode mT_copyHighestLayerDown.2.1 0 = .ok (.aload_n 0, 1) := by decide +kernel
theorem dT_copyHighestLayerDown_1 : decode mT_copyHighestLayerDown.2.1 1 = .ok (.getfield 15, 3) := by decide +kernel
theorem dT_copyHighestLayerDown_4 : decode mT_copyHighestLayerDown.2.1 4 = .ok (.iconst 1, 1) := by decide +kernel
theorem dT_copyHighestLayerDown_5 : decode mT_copyHighestLayerDown.2.1 5 = .ok (.isub, 1) := by decide +kernel
theorem dT_copyHighestLayerDown_6 : decode mT_copyHighestLayerDown.2.1 6 = .ok (.istore_n 1, 1) := by decide +kernel
theorem dT_copyHighestLayerDown_7 : decode mT_copyHighestLayerDown.2.1 7 = .ok (.iconst 0, 1) := by decide +kernel
theorem dT_copyHighestLayerDown_8 : decode mT_copyHighestLayerDown.2.1 8 = .ok (.istore_n 2, 1) := by decide +kernel
theorem dT_copyHighestLayerDown_9 : decode mT_copyHighestLayerDown.2.1 9 = .ok (.iload_n 1, 1) := by decide +kernel
theorem dT_copyHighestLayerDown_10 : decode mT_copyHighestLayerDown.2.1 10 = .ok (.ifCond .le 44, 3) := by decide +kernel
theorem dT_copyHighestLayerDown_13 : decode mT_copyHighestLayerDown.2.1 13 = .ok (.iload_n 2, 1) := by decide +kernel
theorem dT_copyHighestLayerDown_14 : decode mT_copyHighestLayerDown.2.1 14 = .ok (.bipush 16, 2) := by decide +kernel
theorem dT_copyHighestLayerDown_16 : decode mT_copyHighestLayerDown.2.1 16 = .ok (.if_icmp .ge 38, 3) := by decide +kernel
theorem dT_copyHighestLayerDown_19 : decode mT_copyHighestLayerDown.2.1 19 = .ok (.aload_n 0, 1) := by decide +kernel
theorem dT_copyHighestLayerDown_20 : decode mT_copyHighestLayerDown.2.1 20 = .ok (.getfield 19, 3) := by decide +kernel
theorem dT_copyHighestLayerDown_23 : decode mT_copyHighestLayerDown.2.1 23 = .ok (.iload_n 1, 1) := by decide +kernel
theorem dT_copyHighestLayerDown_24 : decode mT_copyHighestLayerDown.2.1 24 = .ok (.iaload, 1) := by decide +kernel
theorem dT_copyHighestLayerDown_25 : decode mT_copyHighestLayerDown.2.1 25 = .ok (.iconst 1, 1) := by decide +kernel
theorem dT_copyHighestLayerDown_26 : decode mT_copyHighestLayerDown.2.1 26 = .ok (.iload_n 2, 1) := by decide +kernel
theorem dT_copyHighestLayerDown_27 : decode mT_copyHighestLayerDown.2.1 27 = .ok (.ishl, 1) := by decide +kernel
theorem dT_copyHighestLayerDown_28 : decode mT_copyHighestLayerDown.2.1 28 = .ok (.iand, 1) := by decide +kernel
theorem dT_copyHighestLayerDown_29 : decode mT_copyHighestLayerDown.2.1 29 = .ok (.ifCond .eq 19, 3) := by decide +kernel
theorem dT_copyHighestLayerDown_32 : decode mT_copyHighestLayerDown.2.1 32 = .ok (.aload_n 0, 1) := by decide +kernel
theorem dT_copyHighestLayerDown_33 : decode mT_copyHighestLayerDown.2.1 33 = .ok (.iload_n 1, 1) := by decide +kernel
theorem dT_copyHighestLayerDown_34 : decode mT_copyHighestLayerDown.2.1 34 = .ok (.iconst 1, 1) := by decide +kernel
theorem dT_copyHighestLayerDown_35 : decode mT_copyHighestLayerDown.2.1 35 = .ok (.isub, 1) := by decide +kernel
theorem dT_copyHighestLayerDown_36 : decode mT_copyHighestLayerDown.2.1 36 = .ok (.iload_n 2, 1) := by decide +kernel
theorem dT_copyHighestLayerDown_37 : decode mT_copyHighestLayerDown.2.1 37 = .ok (.aload_n 0, 1) := by decide +kernel
theorem dT_copyHighestLayerDown_38 : decode mT_copyHighestLayerDown.2.1 38 = .ok (.getfield 25, 3) := by decide +kernel
theorem dT_copyHighestLayerDown_41 : decode mT_copyHighestLayerDown.2.1 41 = .ok (.iload_n 1, 1) := by decide +kernel
theorem dT_copyHighestLayerDown_42 : decode mT_copyHighestLayerDown.2.1 42 = .ok (.aaload, 1) := by decide +kernel
theorem dT_copyHighestLayerDown_43 : decode mT_copyHighestLayerDown.2.1 43 = .ok (.iload_n 2, 1) := by decide +kernel
theorem dT_copyHighestLayerDown_44 : decode mT_copyHighestLayerDown.2.1 44 = .ok (.laload, 1) := by decide +kernel
theorem dT_copyHighestLayerDown_45 : decode mT_copyHighestLayerDown.2.1 45 = .ok (.invokevirtual 41, 3) := by decide +kernel
theorem dT_copyHighestLayerDown_48 : decode mT_copyHighestLayerDown.2.1 48 = .ok (.iinc 2 1, 3) := by decide +kernel
theorem dT_copyHighestLayerDown_51 : decode mT_copyHighestLayerDown.2.1 51 = .ok (.goto (-42), 3) := by decide +kernel
theorem dT_copyHighestLayerDown_54 : decode mT_copyHighestLayerDown.2.1 54 = .ok (.return_, 1) := by decide +kernel
theorem dT_putIn_0 : decode mT_putIn.2.1 0 = .ok (.aload_n 0, 1) := by decide +kernel
theorem dT_putIn_1 : decode mT_putIn.2.1 1 = .ok (.getfield 19, 3) := by decide +kernel
theorem dT_putIn_4 : decode mT_putIn.2.1 4 = .ok (.iload_n 1, 1) := by decide +kernel
theorem dT_putIn_5 : decode mT_putIn.2.1 5 = .ok (.dup2, 1) := by decide +kernel
theorem dT_putIn_6 : decode mT_putIn.2.1 6 = .ok (.iaload, 1) := by decide +kernel
theorem dT_putIn_7 : decode mT_putIn.2.1 7 = .ok (.iconst 1, 1) := by decide +kernel
theorem dT_putIn_8 : decode mT_putIn.2.1 8 = .ok (.iload_n 2, 1) := by decide +kernel
theorem dT_putIn_9 : decode mT_putIn.2.1 9 = .ok (.ishl, 1) := by decide +kernel
theorem dT_putIn_10 : decode mT_putIn.2.1 10 = .ok (.ior, 1) := by decide +kernel
theorem dT_putIn_11 : decode mT_putIn.2.1 11 = .ok (.iastore, 1) := by decide +kernel
theorem dT_putIn_12 : decode mT_putIn.2.1 12 = .ok (.aload_n 0, 1) := by decide +kernel
theorem dT_putIn_13 : decode mT_putIn.2.1 13 = .ok (.getfield 25, 3) := by decide +kernel
theorem dT_putIn_16 : decode mT_putIn.2.1 16 = .ok (.iload_n 1, 1) := by decide +kernel
theorem dT_putIn_17 : decode mT_putIn.2.1 17 = .ok (.aaload, 1) := by decide +kernel
theorem dT_putIn_18 : decode mT_putIn.2.1 18 = .ok (.iload_n 2, 1) := by decide +kernel
theorem dT_putIn_19 : decode mT_putIn.2.1 19 = .ok (.lload_n 3, 1) := by decide +kernel
theorem dT_putIn_20 : decode mT_putIn.2.1 20 = .ok (.lastore, 1) := by decide +kernel
theorem dT_putIn_21 : decode mT_putIn.2.1 21 = .ok (.return_, 1) := by decide +kernel

theorem dL_changed_8 : decode cL_changed 8 = .ok (.i2l, 1) := by decide +kernel
theorem dL_changed_9 : decode cL_changed 9 = .ok (.lastore, 1) := by decide +kernel
theorem dL_changed_10 : decode cL_changed 10 = .ok (.goto 11, 3) := by decide +kernel
theorem dL_changed_13 : decode cL_changed 13 = .ok (.astore 4, 2) := by decide +kernel
theorem dL_changed_15 : decode cL_changed 15 = .ok (.iconst 1, 1) := by decide +kernel
theorem dL_changed_16 : decode cL_changed 16 = .ok (.ireturn, 1) := by decide +kernel
theorem dL_changed_17 : decode cL_changed 17 = .ok (.astore 4, 2) := by decide +kernel
theorem dL_changed_19 : decode cL_changed 19 = .ok (.iconst 2, 1) := by decide +kernel
theorem dL_changed_20 : decode cL_changed 20 = .ok (.ireturn, 1) := by decide +kernel
theorem dL_changed_21 : decode cL_changed 21 = .ok (.iconst 0, 1) := by decide +kernel
theorem dL_changed_22 : decode cL_changed 22 = .ok (.ireturn, 1) := by decide +kernel
theorem dL_route_0 : decode cL_route 0 = .ok (.aload 4, 2) := by decide +kernel
theorem dL_route_2 : decode cL_route 2 = .ok (.iconst 0, 1) := by decide +kernel
theorem dL_route_3 : decode cL_route 3 = .ok (.aload_n 0, 1) := by decide +kernel
theorem dL_route_4 : decode cL_route 4 = .ok (.iload_n 1, 1) := by decide +kernel
theorem dL_route_5 : decode cL_route 5 = .ok (.iload_n 2, 1) := by decide +kernel
theorem dL_route_6 : decode cL_route 6 = .ok (.iload_n 3, 1) := by decide +kernel
theorem dL_route_7 : decode cL_route 7 = .ok (.invokevirtual 74, 3) := by decide +kernel
theorem dL_route_10 : decode cL_route 10 = .ok (.i2l, 1) := by decide +kernel
theorem dL_route_11 : decode cL_route 11 = .ok (.lastore, 1) := by decide +kernel
theorem dL_route_12 : decode cL_route 12 = .ok (.goto 11, 3) := by decide +kernel
theorem dL_route_15 : decode cL_route 15 = .ok (.astore 5, 2) := by decide +kernel
theorem dL_route_17 : decode cL_route 17 = .ok (.iconst 1, 1) := by decide +kernel
theorem dL_route_18 : decode cL_route 18 = .ok (.ireturn, 1) := by decide +kernel
theorem dL_route_19 : decode cL_route 19 = .ok (.astore 5, 2) := by decide +kernel
theorem dL_route_21 : decode cL_route 21 = .ok (.iconst 2, 1) := by decide +kernel
theorem dL_route_22 : decode cL_route 22 = .ok (.ireturn, 1) := by decide +kernel
theorem dL_route_23 : decode cL_route 23 = .ok (.iconst 0, 1) := by decide +kernel
theorem dL_route_24 : decode cL_route 24 = .ok (.ireturn, 1) := by decide +kernel
theorem dL_tile_0 : decode cL_tile 0 = .ok (.aload 5, 2) := by decide +kernel
theorem dL_tile_2 : decode cL_tile 2 = .ok (.iconst 0, 1) := by decide +kernel
theorem dL_tile_3 : decode cL_tile 3 = .ok (.aload_n 0, 1) := by decide +kernel
theorem dL_tile_4 : decode cL_tile 4 = .ok (.iload_n 1, 1) := by decide +kernel
theorem dL_tile_5 : decode cL_tile 5 = .ok (.iload_n 2, 1) := by decide +kernel
theorem dL_tile_6 : decode cL_tile 6 = .ok (.iload_n 3, 1) := by decide +kernel
theorem dL_tile_7 : decode cL_tile 7 = .ok (.iload 4, 2) := by decide +kernel
theorem dL_tile_9 : decode cL_tile 9 = .ok (.invokevirtual 78, 3) := by decide +kernel
theorem dL_tile_12 : decode cL_tile 12 = .ok (.i2l, 1) := by decide +kernel
theorem dL_tile_13 : decode cL_tile 13 = .ok (.lastore, 1) := by decide +kernel
theorem dL_tile_14 : decode cL_tile 14 = .ok (.goto 7, 3) := by decide +kernel
theorem dL_tile_17 : decode cL_tile 17 = .ok (.astore 6, 2) := by decide +kernel
theorem dL_tile_19 : decode cL_tile 19 = .ok (.iconst 1, 1) := by decide +kernel
theorem dL_tile_20 : decode cL_tile 20 = .ok (.ireturn, 1) := by decide +kernel
theorem dL_tile_21 : decode cL_tile 21 = .ok (.iconst 0, 1) := by decide +kernel
theorem dL_tile_22 : decode cL_tile 22 = .ok (.ireturn, 1) := by decide +kernel
theorem dL_isKept_0 : decode cL_isKept 0 = .ok (.aload 5, 2) := by decide +kernel
theorem dL_isKept_2 : decode cL_isKept 2 = .ok (.iconst 0, 1) := by decide +kernel
theorem dL_isKept_3 : decode cL_isKept 3 = .ok (.aload_n 0, 1) := by decide +kernel
theorem dL_isKept_4 : decode cL_isKept 4 = .ok (.iload_n 1, 1) := by decide +kernel
theorem dL_isKept_5 : decode cL_isKept 5 = .ok (.iload_n 2, 1) := by decide +kernel
theorem dL_isKept_6 : decode cL_isKept 6 = .ok (.iload_n 3, 1) := by decide +kernel
theorem dL_isKept_7 : decode cL_isKept 7 = .ok (.iload 4, 2) := by decide +kernel
theorem dL_isKept_9 : decode cL_isKept 9 = .ok (.invokevirtual 82, 3) := by decide +kernel
theorem dL_isKept_12 : decode cL_isKept 12 = .ok (.ifCond .eq 7, 3) := by decide +kernel
theorem dL_isKept_15 : decode cL_isKept 15 = .ok (.lconst 1, 1) := by decide +kernel
theorem dL_isKept_16 : decode cL_isKept 16 = .ok (.goto 4, 3) := by decide +kernel
theorem dL_isKept_19 : decode cL_isKept 19 = .ok (.lconst 0, 1) := by decide +kernel
theorem dL_isKept_20 : decode cL_isKept 20 = .ok (.lastore, 1) := by decide +kernel
theorem dL_isKept_21 : decode cL_isKept 21 = .ok (.goto 7, 3) := by decide +kernel
theorem dL_isKept_24 : decode cL_isKept 24 = .ok (.astore 6, 2) := by decide +kernel
theorem dL_isKept_26 : decode cL_isKept 26 = .ok (.iconst 1, 1) := by decide +kernel
theorem dL_isKept_27 : decode cL_isKept 27 = .ok (.ireturn, 1) := by decide +kernel
theorem dL_isKept_28 : decode cL_isKept 28 = .ok (.iconst 0, 1) := by decide +kernel
theorem dL_isKept_29 : decode cL_isKept 29 = .ok (.ireturn, 1) := by decide +kernel
theorem dL_leaves_0 : decode cL_leaves 0 = .ok (.aload_n 2, 1) := by decide +kernel
theorem dL_leaves_1 : decode cL_leaves 1 = .ok (.iconst 0, 1) := by decide +kernel
theorem dL_leaves_2 : decode cL_leaves 2 = .ok (.aload_n 0, 1) := by decide +kernel
theorem dL_leaves_3 : decode cL_leaves 3 = .ok (.iload_n 1, 1) := by decide +kernel
theorem dL_leaves_4 : decode cL_leaves 4 = .ok (.invokevirtual 86, 3) := by decide +kernel
theorem dL_leaves_7 : decode cL_leaves 7 = .ok (.i2l, 1) := by decide +kernel
theorem dL_leaves_8 : decode cL_leaves 8 = .ok (.lastore, 1) := by decide +kernel
theorem dL_leaves_9 : decode cL_leaves 9 = .ok (.goto 6, 3) := by decide +kernel
theorem dL_leaves_12 : decode cL_leaves 12 = .ok (.astore_n 3, 1) := by decide +kernel
theorem dL_leaves_13 : decode cL_leaves 13 = .ok (.iconst 1, 1) := by decide +kernel
theorem dL_leaves_14 : decode cL_leaves 14 = .ok (.ireturn, 1) := by decide +kernel
theorem dL_leaves_15 : decode cL_leaves 15 = .ok (.iconst 0, 1) := by decide +kernel
theorem dL_leaves_16 : decode cL_leaves 16 = .ok (.ireturn, 1) := by decide +kernel
theorem dL_border_0 : decode cL_border 0 = .ok (.aload 4, 2) := by decide +kernel
theorem dL_border_2 : decode cL_border 2 = .ok (.iconst 0, 1) := by decide +kernel
theorem dL_border_3 : decode cL_border 3 = .ok (.aload_n 0, 1) := by decide +kernel
theorem dL_border_4 : decode cL_border 4 = .ok (.iload_n 1, 1) := by decide +kernel
theorem dL_border_5 : decode cL_border 5 = .ok (.iload_n 2, 1) := by decide +kernel
theorem dL_border_6 : decode cL_border 6 = .ok (.iload_n 3, 1) := by decide +kernel
theorem dL_border_7 : decode cL_border 7 = .ok (.invokevirtual 89, 3) := by decide +kernel
theorem dL_border_10 : decode cL_border 10 = .ok (.i2l, 1) := by decide +kernel
theorem dL_border_11 : decode cL_border 11 = .ok (.lastore, 1) := by decide +kernel
theorem dL_border_12 : decode cL_border 12 = .ok (.goto 7, 3) := by decide +kernel
theorem dL_border_15 : decode cL_border 15 = .ok (.astore 5, 2) := by decide +kernel
theorem dL_border_17 : decode cL_border 17 = .ok (.iconst 1, 1) := by decide +kernel
theorem dL_border_18 : decode cL_border 18 = .ok (.ireturn, 1) := by decide +kernel
theorem dL_border_19 : decode cL_border 19 = .ok (.iconst 0, 1) := by decide +kernel
theorem dL_border_20 : decode cL_border 20 = .ok (.ireturn, 1) := by decide +kernel
theorem dL_size_0 : decode cL_size 0 = .ok (.aload_n 3, 1) := by decide +kernel
theorem dL_size_1 : decode cL_size 1 = .ok (.iconst 0, 1) := by decide +kernel
theorem dL_size_2 : decode cL_size 2 = .ok (.aload_n 0, 1) := by decide +kernel
theorem dL_size_3 : decode cL_size 3 = .ok (.iload_n 1, 1) := by decide +kernel
theorem dL_size_4 : decode cL_size 4 = .ok (.iload_n 2, 1) := by decide +kernel
theorem dL_size_5 : decode cL_size 5 = .ok (.invokevirtual 92, 3) := by decide +kernel
theorem dL_size_8 : decode cL_size 8 = .ok (.i2l, 1) := by decide +kernel
theorem dL_size_9 : decode cL_size 9 = .ok (.lastore, 1) := by decide +kernel
theorem dL_size_10 : decode cL_size 10 = .ok (.goto 7, 3) := by decide +kernel
theorem dL_size_13 : decode cL_size 13 = .ok (.astore 4, 2) := by decide +kernel
theorem dL_size_15 : decode cL_size 15 = .ok (.iconst 1, 1) := by decide +kernel
theorem dL_size_16 : decode cL_size 16 = .ok (.ireturn, 1) := by decide +kernel
theorem dL_size_17 : decode cL_size 17 = .ok (.iconst 0, 1) := by decide +kernel
theorem dL_size_18 : decode cL_size 18 = .ok (.ireturn, 1) := by decide +kernel
theorem dL_walk_0 : decode cL_walk 0 = .ok (.aload_n 3, 1) := by decide +kernel
theorem dL_walk_1 : decode cL_walk 1 = .ok (.iconst 0, 1) := by decide +kernel
theorem dL_walk_2 : decode cL_walk 2 = .ok (.aload_n 0, 1) := by decide +kernel
theorem dL_walk_3 : decode cL_walk 3 = .ok (.iload_n 1, 1) := by decide +kernel
theorem dL_walk_4 : decode cL_walk 4 = .ok (.iload_n 2, 1) := by decide +kernel
theorem dL_walk_5 : decode cL_walk 5 = .ok (.invokevirtual 95, 3) := by decide +kernel
theorem dL_walk_8 : decode cL_walk 8 = .ok (.i2l, 1) := by decide +kernel
theorem dL_walk_9 : decode cL_walk 9 = .ok (.lastore, 1) := by decide +kernel
theorem dL_walk_10 : decode cL_walk 10 = .ok (.goto 7, 3) := by decide +kernel
theorem dL_walk_13 : decode cL_walk 13 = .ok (.astore 4, 2) := by decide +kernel
theorem dL_walk_15 : decode cL_walk 15 = .ok (.iconst 1, 1) := by decide +kernel
theorem dL_walk_16 : decode cL_walk 16 = .ok (.ireturn, 1) := by decide +kernel
theorem dL_walk_17 : decode cL_walk 17 = .ok (.iconst 0, 1) := by decide +kernel
theorem dL_walk_18 : decode cL_walk 18 = .ok (.ireturn, 1) := by decide +kernel
theorem dL_next_0 : decode cL_next 0 = .ok (.aload_n 1, 1) := by decide +kernel
theorem dL_next_1 : decode cL_next 1 = .ok (.iconst 0, 1) := by decide +kernel
theorem dL_next_2 : decode cL_next 2 = .ok (.aload_n 0, 1) := by decide +kernel
theorem dL_next_3 : decode cL_next 3 = .ok (.invokevirtual 98, 3) := by decide +kernel
theorem dL_next_6 : decode cL_next 6 = .ok (.i2l, 1) := by decide +kernel
theorem dL_next_7 : decode cL_next 7 = .ok (.lastore, 1) := by decide +kernel
theorem dL_next_8 : decode cL_next 8 = .ok (.goto 9, 3) := by decide +kernel
theorem dL_next_11 : decode cL_next 11 = .ok (.astore_n 2, 1) := by decide +kernel
theorem dL_next_12 : decode cL_next 12 = .ok (.iconst 1, 1) := by decide +kernel
theorem dL_next_13 : decode cL_next 13 = .ok (.ireturn, 1) := by decide +kernel
theorem dL_next_14 : decode cL_next 14 = .ok (.astore_n 2, 1) := by decide +kernel
theorem dL_next_15 : decode cL_next 15 = .ok (.iconst 2, 1) := by decide +kernel
theorem dL_next_16 : decode cL_next 16 = .ok (.ireturn, 1) := by decide +kernel
theorem dL_next_17 : decode cL_next 17 = .ok (.iconst 0, 1) := by decide +kernel
theorem dL_next_18 : decode cL_next 18 = .ok (.ireturn, 1) := by decide +kernel
theorem dL_device_0 : decode cL_device 0 = .ok (.aload_n 1, 1) := by decide +kernel
theorem dL_device_1 : decode cL_device 1 = .ok (.iconst 0, 1) := by decide +kernel
theorem dL_device_2 : decode cL_device 2 = .ok (.aload_n 0, 1) := by decide +kernel
theorem dL_device_3 : decode cL_device 3 = .ok (.invokevirtual 101, 3) := by decide +kernel
theorem dL_device_6 : decode cL_device 6 = .ok (.i2l, 1) := by decide +kernel
theorem dL_device_7 : decode cL_device 7 = .ok (.lastore, 1) := by decide +kernel
theorem dL_device_8 : decode cL_device 8 = .ok (.goto 6, 3) := by decide +kernel
theorem dL_device_11 : decode cL_device 11 = .ok (.astore_n 2, 1) := by decide +kernel
theorem dL_device_12 : decode cL_device 12 = .ok (.iconst 1, 1) := by decide +kernel
theorem dL_device_13 : decode cL_device 13 = .ok (.ireturn, 1) := by decide +kernel
theorem dL_device_14 : decode cL_device 14 = .ok (.iconst 0, 1) := by decide +kernel
theorem dL_device_15 : decode cL_device 15 = .ok (.ireturn, 1) := by decide +kernel
theorem dL_note_0 : decode cL_note 0 = .ok (.aload 7, 2) := by decide +kernel
theorem dL_note_2 : decode cL_note 2 = .ok (.iconst 0, 1) := by decide +kernel
theorem dL_note_3 : decode cL_note 3 = .ok (.aload_n 0, 1) := by decide +kernel
theorem dL_note_4 : decode cL_note 4 = .ok (.iload_n 1, 1) := by decide +kernel
theorem dL_note_5 : decode cL_note 5 = .ok (.iload_n 2, 1) := by decide +kernel
theorem dL_note_6 : decode cL_note 6 = .ok (.iload_n 3, 1) := by decide +kernel
theorem dL_note_7 : decode cL_note 7 = .ok (.iload 4, 2) := by decide +kernel
theorem dL_note_9 : decode cL_note 9 = .ok (.iload 5, 2) := by decide +kernel
theorem dL_note_11 : decode cL_note 11 = .ok (.iload 6, 2) := by decide +kernel
theorem dL_note_13 : decode cL_note 13 = .ok (.invokevirtual 104, 3) := by decide +kernel
theorem dL_note_16 : decode cL_note 16 = .ok (.i2l, 1) := by decide +kernel
theorem dL_note_17 : decode cL_note 17 = .ok (.lastore, 1) := by decide +kernel
theorem dL_note_18 : decode cL_note 18 = .ok (.goto 15, 3) := by decide +kernel
theorem dL_note_21 : decode cL_note 21 = .ok (.astore 8, 2) := by decide +kernel
theorem dL_note_23 : decode cL_note 23 = .ok (.iconst 1, 1) := by decide +kernel
theorem dL_note_24 : decode cL_note 24 = .ok (.ireturn, 1) := by decide +kernel
theorem dL_note_25 : decode cL_note 25 = .ok (.astore 8, 2) := by decide +kernel
theorem dL_note_27 : decode cL_note 27 = .ok (.iconst 2, 1) := by decide +kernel
theorem dL_note_28 : decode cL_note 28 = .ok (.ireturn, 1) := by decide +kernel
theorem dL_note_29 : decode cL_note 29 = .ok (.astore 8, 2) := by decide +kernel
theorem dL_note_31 : decode cL_note 31 = .ok (.iconst 3, 1) := by decide +kernel
theorem dL_note_32 : decode cL_note 32 = .ok (.ireturn, 1) := by decide +kernel
theorem dL_note_33 : decode cL_note 33 = .ok (.iconst 0, 1) := by decide +kernel
theorem dL_note_34 : decode cL_note 34 = .ok (.ireturn, 1) := by decide +kernel
theorem dL_home_0 : decode cL_home 0 = .ok (.aload 5, 2) := by decide +kernel
theorem dL_home_2 : decode cL_home 2 = .ok (.iconst 0, 1) := by decide +kernel
theorem dL_home_3 : decode cL_home 3 = .ok (.aload_n 0, 1) := by decide +kernel
theorem dL_home_4 : decode cL_home 4 = .ok (.iload_n 1, 1) := by decide +kernel
theorem dL_home_5 : decode cL_home 5 = .ok (.iload_n 2, 1) := by decide +kernel
theorem dL_home_6 : decode cL_home 6 = .ok (.iload_n 3, 1) := by decide +kernel
theorem dL_home_7 : decode cL_home 7 = .ok (.iload 4, 2) := by decide +kernel
theorem dL_home_9 : decode cL_home 9 = .ok (.invokevirtual 108, 3) := by decide +kernel
theorem dL_home_12 : decode cL_home 12 = .ok (.i2l, 1) := by decide +kernel
theorem dL_home_13 : decode cL_home 13 = .ok (.lastore, 1) := by decide +kernel
theorem dL_home_14 : decode cL_home 14 = .ok (.goto 11, 3) := by decide +kernel
theorem dL_home_17 : decode cL_home 17 = .ok (.astore 6, 2) := by decide +kernel
theorem dL_home_19 : decode cL_home 19 = .ok (.iconst 1, 1) := by decide +kernel
theorem dL_home_20 : decode cL_home 20 = .ok (.ireturn, 1) := by decide +kernel
theorem dL_home_21 : decode cL_home 21 = .ok (.astore 6, 2) := by decide +kernel
theorem dL_home_23 : decode cL_home 23 = .ok (.iconst 2, 1) := by decide +kernel
theorem dL_home_24 : decode cL_home 24 = .ok (.ireturn, 1) := by decide +kernel
theorem dL_home_25 : decode cL_home 25 = .ok (.iconst 0, 1) := by decide +kernel
theorem dL_home_26 : decode cL_home 26 = .ok (.ireturn, 1) := by decide +kernel
theorem dL_ahead_0 : decode cL_ahead 0 = .ok (.aload_n 2, 1) := by decide +kernel
theorem dL_ahead_1 : decode cL_ahead 1 = .ok (.iconst 0, 1) := by decide +kernel
theorem dL_ahead_2 : decode cL_ahead 2 = .ok (.aload_n 0, 1) := by decide +kernel
theorem dL_ahead_3 : decode cL_ahead 3 = .ok (.iload_n 1, 1) := by decide +kernel
theorem dL_ahead_4 : decode cL_ahead 4 = .ok (.invokevirtual 111, 3) := by decide +kernel
theorem dL_ahead_7 : decode cL_ahead 7 = .ok (.i2l, 1) := by decide +kernel
theorem dL_ahead_8 : decode cL_ahead 8 = .ok (.lastore, 1) := by decide +kernel
theorem dL_ahead_9 : decode cL_ahead 9 = .ok (.goto 6, 3) := by decide +kernel
theorem dL_ahead_12 : decode cL_ahead 12 = .ok (.astore_n 3, 1) := by decide +kernel
theorem dL_ahead_13 : decode cL_ahead 13 = .ok (.iconst 1, 1) := by decide +kernel
theorem dL_ahead_14 : decode cL_ahead 14 = .ok (.ireturn, 1) := by decide +kernel
theorem dL_ahead_15 : decode cL_ahead 15 = .ok (.iconst 0, 1) := by decide +kernel
theorem dL_ahead_16 : decode cL_ahead 16 = .ok (.ireturn, 1) := by decide +kernel
theorem dL_fullShare_0 : decode cL_fullShare 0 = .ok (.aload_n 2, 1) := by decide +kernel
theorem dL_fullShare_1 : decode cL_fullShare 1 = .ok (.iconst 0, 1) := by decide +kernel
theorem dL_fullShare_2 : decode cL_fullShare 2 = .ok (.aload_n 0, 1) := by decide +kernel
theorem dL_fullShare_3 : decode cL_fullShare 3 = .ok (.iload_n 1, 1) := by decide +kernel
theorem dL_fullShare_4 : decode cL_fullShare 4 = .ok (.invokevirtual 114, 3) := by decide +kernel
theorem dL_fullShare_7 : decode cL_fullShare 7 = .ok (.f2d, 1) := by decide +kernel
theorem dL_fullShare_8 : decode cL_fullShare 8 = .ok (.dastore, 1) := by decide +kernel
theorem dL_fullShare_9 : decode cL_fullShare 9 = .ok (.goto 6, 3) := by decide +kernel
theorem dL_fullShare_12 : decode cL_fullShare 12 = .ok (.astore_n 3, 1) := by decide +kernel
theorem dL_fullShare_13 : decode cL_fullShare 13 = .ok (.iconst 1, 1) := by decide +kernel
theorem dL_fullShare_14 : decode cL_fullShare 14 = .ok (.ireturn, 1) := by decide +kernel
theorem dL_fullShare_15 : decode cL_fullShare 15 = .ok (.iconst 0, 1) := by decide +kernel
theorem dL_fullShare_16 : decode cL_fullShare 16 = .ok (.ireturn, 1) := by decide +kernel
theorem dL_meanSize_0 : decode cL_meanSize 0 = .ok (.aload_n 2, 1) := by decide +kernel
theorem dL_meanSize_1 : decode cL_meanSize 1 = .ok (.iconst 0, 1) := by decide +kernel
theorem dL_meanSize_2 : decode cL_meanSize 2 = .ok (.aload_n 0, 1) := by decide +kernel
theorem dL_meanSize_3 : decode cL_meanSize 3 = .ok (.iload_n 1, 1) := by decide +kernel
theorem dL_meanSize_4 : decode cL_meanSize 4 = .ok (.invokevirtual 118, 3) := by decide +kernel
theorem dL_meanSize_7 : decode cL_meanSize 7 = .ok (.dastore, 1) := by decide +kernel
theorem dL_meanSize_8 : decode cL_meanSize 8 = .ok (.goto 9, 3) := by decide +kernel
theorem dL_meanSize_11 : decode cL_meanSize 11 = .ok (.astore_n 3, 1) := by decide +kernel
theorem dL_meanSize_12 : decode cL_meanSize 12 = .ok (.iconst 1, 1) := by decide +kernel
theorem dL_meanSize_13 : decode cL_meanSize 13 = .ok (.ireturn, 1) := by decide +kernel
theorem dL_meanSize_14 : decode cL_meanSize 14 = .ok (.astore_n 3, 1) := by decide +kernel
theorem dL_meanSize_15 : decode cL_meanSize 15 = .ok (.iconst 2, 1) := by decide +kernel
theorem dL_meanSize_16 : decode cL_meanSize 16 = .ok (.ireturn, 1) := by decide +kernel
theorem dL_meanSize_17 : decode cL_meanSize 17 = .ok (.iconst 0, 1) := by decide +kernel
theorem dL_meanSize_18 : decode cL_meanSize 18 = .ok (.ireturn, 1) := by decide +kernel
theorem dL_law_0 : decode cL_law 0 = .ok (.new 8, 3) := by decide +kernel
theorem dL_law_3 : decode cL_law 3 = .ok (.dup, 1) := by decide +kernel
theorem dL_law_4 : decode cL_law 4 = .ok (.invokespecial 124, 3) := by decide +kernel
theorem dL_law_7 : decode cL_law 7 = .ok (.astore_n 1, 1) := by decide +kernel
theorem dL_law_8 : decode cL_law 8 = .ok (.new 125, 3) := by decide +kernel
theorem dL_law_11 : decode cL_law 11 = .ok (.dup, 1) := by decide +kernel
theorem dL_law_12 : decode cL_law 12 = .ok (.invokespecial 127, 3) := by decide +kernel
theorem dL_law_15 : decode cL_law 15 = .ok (.astore_n 2, 1) := by decide +kernel
theorem dL_law_16 : decode cL_law 16 = .ok (.iconst 1, 1) := by decide +kernel
theorem dL_law_17 : decode cL_law 17 = .ok (.newarray .long, 2) := by decide +kernel
theorem dL_law_19 : decode cL_law 19 = .ok (.astore_n 3, 1) := by decide +kernel
theorem dL_law_20 : decode cL_law 20 = .ok (.iconst 1, 1) := by decide +kernel
theorem dL_law_21 : decode cL_law 21 = .ok (.newarray .double, 2) := by decide +kernel
theorem dL_law_23 : decode cL_law 23 = .ok (.astore 4, 2) := by decide +kernel
theorem dL_law_25 : decode cL_law 25 = .ok (.iconst 0, 1) := by decide +kernel
theorem dL_law_26 : decode cL_law 26 = .ok (.istore 5, 2) := by decide +kernel
theorem dL_law_28 : decode cL_law 28 = .ok (.iload 5, 2) := by decide +kernel
theorem dL_law_30 : decode cL_law 30 = .ok (.aload_n 0, 1) := by decide +kernel
theorem dL_law_31 : decode cL_law 31 = .ok (.arraylength, 1) := by decide +kernel

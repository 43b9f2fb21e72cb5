theorem dX0_init_0 : decode cX0_init 0 = .ok (.aload_n 0, 1) := by decide +kernel
theorem dX0_init_1 : decode cX0_init 1 = .ok (.invokespecial 3, 3) := by decide +kernel
theorem dX0_init_4 : decode cX0_init 4 = .ok (.aload_n 0, 1) := by decide +kernel
theorem dX0_init_5 : decode cX0_init 5 = .ok (.iconst 0, 1) := by decide +kernel
theorem dX0_init_6 : decode cX0_init 6 = .ok (.putfield 9, 3) := by decide +kernel
theorem dX0_init_9 : decode cX0_init 9 = .ok (.aload_n 0, 1) := by decide +kernel
theorem dX0_init_10 : decode cX0_init 10 = .ok (.sipush 304, 3) := by decide +kernel
theorem dX0_init_13 : decode cX0_init 13 = .ok (.newarray .int, 2) := by decide +kernel
theorem dX0_init_15 : decode cX0_init 15 = .ok (.putfield 15, 3) := by decide +kernel
theorem dX0_init_18 : decode cX0_init 18 = .ok (.aload_n 0, 1) := by decide +kernel
theorem dX0_init_19 : decode cX0_init 19 = .ok (.sipush 304, 3) := by decide +kernel
theorem dX0_init_22 : decode cX0_init 22 = .ok (.newarray .int, 2) := by decide +kernel
theorem dX0_init_24 : decode cX0_init 24 = .ok (.putfield 19, 3) := by decide +kernel
theorem dX0_init_27 : decode cX0_init 27 = .ok (.aload_n 0, 1) := by decide +kernel
theorem dX0_init_28 : decode cX0_init 28 = .ok (.sipush 304, 3) := by decide +kernel
theorem dX0_init_31 : decode cX0_init 31 = .ok (.newarray .int, 2) := by decide +kernel
theorem dX0_init_33 : decode cX0_init 33 = .ok (.putfield 22, 3) := by decide +kernel
theorem dX0_init_36 : decode cX0_init 36 = .ok (.aload_n 0, 1) := by decide +kernel
theorem dX0_init_37 : decode cX0_init 37 = .ok (.sipush 304, 3) := by decide +kernel
theorem dX0_init_40 : decode cX0_init 40 = .ok (.newarray .int, 2) := by decide +kernel
theorem dX0_init_42 : decode cX0_init 42 = .ok (.putfield 25, 3) := by decide +kernel
theorem dX0_init_45 : decode cX0_init 45 = .ok (.return_, 1) := by decide +kernel
theorem dX0_begin_0 : decode cX0_begin 0 = .ok (.aload_n 0, 1) := by decide +kernel
theorem dX0_begin_1 : decode cX0_begin 1 = .ok (.iconst 1, 1) := by decide +kernel
theorem dX0_begin_2 : decode cX0_begin 2 = .ok (.putfield 9, 3) := by decide +kernel
theorem dX0_begin_5 : decode cX0_begin 5 = .ok (.aload_n 1, 1) := by decide +kernel
theorem dX0_begin_6 : decode cX0_begin 6 = .ok (.iconst 0, 1) := by decide +kernel
theorem dX0_begin_7 : decode cX0_begin 7 = .ok (.aload_n 0, 1) := by decide +kernel
theorem dX0_begin_8 : decode cX0_begin 8 = .ok (.getfield 15, 3) := by decide +kernel
theorem dX0_begin_11 : decode cX0_begin 11 = .ok (.iconst 0, 1) := by decide +kernel
theorem dX0_begin_12 : decode cX0_begin 12 = .ok (.sipush 304, 3) := by decide +kernel
theorem dX0_begin_15 : decode cX0_begin 15 = .ok (.invokestatic 28, 3) := by decide +kernel
theorem dX0_begin_18 : decode cX0_begin 18 = .ok (.aload_n 0, 1) := by decide +kernel
theorem dX0_begin_19 : decode cX0_begin 19 = .ok (.getfield 19, 3) := by decide +kernel
theorem dX0_begin_22 : decode cX0_begin 22 = .ok (.iconst (-1), 1) := by decide +kernel
theorem dX0_begin_23 : decode cX0_begin 23 = .ok (.invokestatic 34, 3) := by decide +kernel
theorem dX0_begin_26 : decode cX0_begin 26 = .ok (.aload_n 0, 1) := by decide +kernel
theorem dX0_begin_27 : decode cX0_begin 27 = .ok (.getfield 22, 3) := by decide +kernel
theorem dX0_begin_30 : decode cX0_begin 30 = .ok (.iconst (-1), 1) := by decide +kernel
theorem dX0_begin_31 : decode cX0_begin 31 = .ok (.invokestatic 34, 3) := by decide +kernel
theorem dX0_begin_34 : decode cX0_begin 34 = .ok (.aload_n 0, 1) := by decide +kernel
theorem dX0_begin_35 : decode cX0_begin 35 = .ok (.getfield 25, 3) := by decide +kernel
theorem dX0_begin_38 : decode cX0_begin 38 = .ok (.ldc 40, 2) := by decide +kernel
theorem dX0_begin_40 : decode cX0_begin 40 = .ok (.invokestatic 34, 3) := by decide +kernel
theorem dX0_begin_43 : decode cX0_begin 43 = .ok (.return_, 1) := by decide +kernel
theorem dX0_sight_0 : decode cX0_sight 0 = .ok (.aload_n 0, 1) := by decide +kernel
theorem dX0_sight_1 : decode cX0_sight 1 = .ok (.getfield 19, 3) := by decide +kernel
theorem dX0_sight_4 : decode cX0_sight 4 = .ok (.iload_n 1, 1) := by decide +kernel
theorem dX0_sight_5 : decode cX0_sight 5 = .ok (.iaload, 1) := by decide +kernel
theorem dX0_sight_6 : decode cX0_sight 6 = .ok (.iconst (-1), 1) := by decide +kernel
theorem dX0_sight_7 : decode cX0_sight 7 = .ok (.if_icmp .ne 12, 3) := by decide +kernel
theorem dX0_sight_10 : decode cX0_sight 10 = .ok (.aload_n 0, 1) := by decide +kernel
theorem dX0_sight_11 : decode cX0_sight 11 = .ok (.getfield 15, 3) := by decide +kernel
theorem dX0_sight_14 : decode cX0_sight 14 = .ok (.iload_n 1, 1) := by decide +kernel
theorem dX0_sight_15 : decode cX0_sight 15 = .ok (.iaload, 1) := by decide +kernel
theorem dX0_sight_16 : decode cX0_sight 16 = .ok (.goto 9, 3) := by decide +kernel
theorem dX0_sight_19 : decode cX0_sight 19 = .ok (.aload_n 0, 1) := by decide +kernel
theorem dX0_sight_20 : decode cX0_sight 20 = .ok (.getfield 19, 3) := by decide +kernel
theorem dX0_sight_23 : decode cX0_sight 23 = .ok (.iload_n 1, 1) := by decide +kernel
theorem dX0_sight_24 : decode cX0_sight 24 = .ok (.iaload, 1) := by decide +kernel
theorem dX0_sight_25 : decode cX0_sight 25 = .ok (.ireturn, 1) := by decide +kernel
theorem dX0_put_0 : decode cX0_put 0 = .ok (.iload_n 2, 1) := by decide +kernel
theorem dX0_put_1 : decode cX0_put 1 = .ok (.aload_n 0, 1) := by decide +kernel
theorem dX0_put_2 : decode cX0_put 2 = .ok (.getfield 15, 3) := by decide +kernel
theorem dX0_put_5 : decode cX0_put 5 = .ok (.iload_n 1, 1) := by decide +kernel
theorem dX0_put_6 : decode cX0_put 6 = .ok (.iaload, 1) := by decide +kernel
theorem dX0_put_7 : decode cX0_put 7 = .ok (.if_icmp .ne 11, 3) := by decide +kernel
theorem dX0_put_10 : decode cX0_put 10 = .ok (.aload_n 0, 1) := by decide +kernel
theorem dX0_put_11 : decode cX0_put 11 = .ok (.iload_n 1, 1) := by decide +kernel
theorem dX0_put_12 : decode cX0_put 12 = .ok (.invokevirtual 41, 3) := by decide +kernel
theorem dX0_put_15 : decode cX0_put 15 = .ok (.goto 10, 3) := by decide +kernel
theorem dX0_put_18 : decode cX0_put 18 = .ok (.aload_n 0, 1) := by decide +kernel
theorem dX0_put_19 : decode cX0_put 19 = .ok (.getfield 19, 3) := by decide +kernel
theorem dX0_put_22 : decode cX0_put 22 = .ok (.iload_n 1, 1) := by decide +kernel
theorem dX0_put_23 : decode cX0_put 23 = .ok (.iload_n 2, 1) := by decide +kernel
theorem dX0_put_24 : decode cX0_put 24 = .ok (.iastore, 1) := by decide +kernel
theorem dX0_put_25 : decode cX0_put 25 = .ok (.return_, 1) := by decide +kernel
theorem dX0_takeAway_0 : decode cX0_takeAway 0 = .ok (.aload_n 0, 1) := by decide +kernel
theorem dX0_takeAway_1 : decode cX0_takeAway 1 = .ok (.getfield 19, 3) := by decide +kernel
theorem dX0_takeAway_4 : decode cX0_takeAway 4 = .ok (.iload_n 1, 1) := by decide +kernel
theorem dX0_takeAway_5 : decode cX0_takeAway 5 = .ok (.iconst (-1), 1) := by decide +kernel
theorem dX0_takeAway_6 : decode cX0_takeAway 6 = .ok (.iastore, 1) := by decide +kernel
theorem dX0_takeAway_7 : decode cX0_takeAway 7 = .ok (.aload_n 0, 1) := by decide +kernel
theorem dX0_takeAway_8 : decode cX0_takeAway 8 = .ok (.getfield 22, 3) := by decide +kernel
theorem dX0_takeAway_11 : decode cX0_takeAway 11 = .ok (.iload_n 1, 1) := by decide +kernel
theorem dX0_takeAway_12 : decode cX0_takeAway 12 = .ok (.iconst (-1), 1) := by decide +kernel
theorem dX0_takeAway_13 : decode cX0_takeAway 13 = .ok (.iastore, 1) := by decide +kernel
theorem dX0_takeAway_14 : decode cX0_takeAway 14 = .ok (.return_, 1) := by decide +kernel
theorem dX0_ownCountsOver_0 : decode cX0_ownCountsOver 0 = .ok (.aload_n 0, 1) := by decide +kernel
theorem dX0_ownCountsOver_1 : decode cX0_ownCountsOver 1 = .ok (.getfield 22, 3) := by decide +kernel
theorem dX0_ownCountsOver_4 : decode cX0_ownCountsOver 4 = .ok (.iload_n 1, 1) := by decide +kernel
theorem dX0_ownCountsOver_5 : decode cX0_ownCountsOver 5 = .ok (.iload_n 2, 1) := by decide +kernel
theorem dX0_ownCountsOver_6 : decode cX0_ownCountsOver 6 = .ok (.iastore, 1) := by decide +kernel
theorem dX0_ownCountsOver_7 : decode cX0_ownCountsOver 7 = .ok (.return_, 1) := by decide +kernel
theorem dX0_bring_0 : decode cX0_bring 0 = .ok (.aload_n 0, 1) := by decide +kernel
theorem dX0_bring_1 : decode cX0_bring 1 = .ok (.getfield 25, 3) := by decide +kernel
theorem dX0_bring_4 : decode cX0_bring 4 = .ok (.iload_n 1, 1) := by decide +kernel
theorem dX0_bring_5 : decode cX0_bring 5 = .ok (.iaload, 1) := by decide +kernel
theorem dX0_bring_6 : decode cX0_bring 6 = .ok (.iload_n 3, 1) := by decide +kernel
theorem dX0_bring_7 : decode cX0_bring 7 = .ok (.if_icmp .le 5, 3) := by decide +kernel
theorem dX0_bring_10 : decode cX0_bring 10 = .ok (.iconst 0, 1) := by decide +kernel
theorem dX0_bring_11 : decode cX0_bring 11 = .ok (.ireturn, 1) := by decide +kernel
theorem dX0_bring_12 : decode cX0_bring 12 = .ok (.aload_n 0, 1) := by decide +kernel
theorem dX0_bring_13 : decode cX0_bring 13 = .ok (.getfield 25, 3) := by decide +kernel
theorem dX0_bring_16 : decode cX0_bring 16 = .ok (.iload_n 1, 1) := by decide +kernel
theorem dX0_bring_17 : decode cX0_bring 17 = .ok (.iload_n 3, 1) := by decide +kernel
theorem dX0_bring_18 : decode cX0_bring 18 = .ok (.iastore, 1) := by decide +kernel
theorem dX0_bring_19 : decode cX0_bring 19 = .ok (.aload_n 0, 1) := by decide +kernel
theorem dX0_bring_20 : decode cX0_bring 20 = .ok (.iload_n 1, 1) := by decide +kernel
theorem dX0_bring_21 : decode cX0_bring 21 = .ok (.iload_n 2, 1) := by decide +kernel
theorem dX0_bring_22 : decode cX0_bring 22 = .ok (.invokevirtual 45, 3) := by decide +kernel
theorem dX0_bring_25 : decode cX0_bring 25 = .ok (.iconst 1, 1) := by decide +kernel
theorem dX0_bring_26 : decode cX0_bring 26 = .ok (.ireturn, 1) := by decide +kernel
theorem dX0_editCount_0 : decode cX0_editCount 0 = .ok (.iconst 0, 1) := by decide +kernel
theorem dX0_editCount_1 : decode cX0_editCount 1 = .ok (.istore_n 1, 1) := by decide +kernel
theorem dX0_editCount_2 : decode cX0_editCount 2 = .ok (.iconst 0, 1) := by decide +kernel
theorem dX0_editCount_3 : decode cX0_editCount 3 = .ok (.istore_n 2, 1) := by decide +kernel
theorem dX0_editCount_4 : decode cX0_editCount 4 = .ok (.iload_n 2, 1) := by decide +kernel
theorem dX0_editCount_5 : decode cX0_editCount 5 = .ok (.sipush 304, 3) := by decide +kernel
theorem dX0_editCount_8 : decode cX0_editCount 8 = .ok (.if_icmp .ge 22, 3) := by decide +kernel
theorem dX0_editCount_11 : decode cX0_editCount 11 = .ok (.aload_n 0, 1) := by decide +kernel
theorem dX0_editCount_12 : decode cX0_editCount 12 = .ok (.getfield 19, 3) := by decide +kernel
theorem dX0_editCount_15 : decode cX0_editCount 15 = .ok (.iload_n 2, 1) := by decide +kernel
theorem dX0_editCount_16 : decode cX0_editCount 16 = .ok (.iaload, 1) := by decide +kernel
theorem dX0_editCount_17 : decode cX0_editCount 17 = .ok (.iconst (-1), 1) := by decide +kernel
theorem dX0_editCount_18 : decode cX0_editCount 18 = .ok (.if_icmp .eq 6, 3) := by decide +kernel
theorem dX0_editCount_21 : decode cX0_editCount 21 = .ok (.iinc 1 1, 3) := by decide +kernel
theorem dX0_editCount_24 : decode cX0_editCount 24 = .ok (.iinc 2 1, 3) := by decide +kernel
theorem dX0_editCount_27 : decode cX0_editCount 27 = .ok (.goto (-23), 3) := by decide +kernel
theorem dX0_editCount_30 : decode cX0_editCount 30 = .ok (.iload_n 1, 1) := by decide +kernel
theorem dX0_editCount_31 : decode cX0_editCount 31 = .ok (.ireturn, 1) := by decide +kernel
theorem dX0_isConflict_0 : decode cX0_isConflict 0 = .ok (.aload_n 0, 1) := by decide +kernel
theorem dX0_isConflict_1 : decode cX0_isConflict 1 = .ok (.getfield 19, 3) := by decide +kernel
theorem dX0_isConflict_4 : decode cX0_isConflict 4 = .ok (.iload_n 1, 1) := by decide +kernel
theorem dX0_isConflict_5 : decode cX0_isConflict 5 = .ok (.iaload, 1) := by decide +kernel
theorem dX0_isConflict_6 : decode cX0_isConflict 6 = .ok (.iconst (-1), 1) := by decide +kernel
theorem dX0_isConflict_7 : decode cX0_isConflict 7 = .ok (.if_icmp .eq 37, 3) := by decide +kernel
theorem dX0_isConflict_10 : decode cX0_isConflict 10 = .ok (.iload_n 2, 1) := by decide +kernel
theorem dX0_isConflict_11 : decode cX0_isConflict 11 = .ok (.aload_n 0, 1) := by decide +kernel
theorem dX0_isConflict_12 : decode cX0_isConflict 12 = .ok (.getfield 15, 3) := by decide +kernel
theorem dX0_isConflict_15 : decode cX0_isConflict 15 = .ok (.iload_n 1, 1) := by decide +kernel
theorem dX0_isConflict_16 : decode cX0_isConflict 16 = .ok (.iaload, 1) := by decide +kernel
theorem dX0_isConflict_17 : decode cX0_isConflict 17 = .ok (.if_icmp .eq 27, 3) := by decide +kernel
theorem dX0_isConflict_20 : decode cX0_isConflict 20 = .ok (.iload_n 2, 1) := by decide +kernel
theorem dX0_isConflict_21 : decode cX0_isConflict 21 = .ok (.aload_n 0, 1) := by decide +kernel
theorem dX0_isConflict_22 : decode cX0_isConflict 22 = .ok (.getfield 19, 3) := by decide +kernel
theorem dX0_isConflict_25 : decode cX0_isConflict 25 = .ok (.iload_n 1, 1) := by decide +kernel
theorem dX0_isConflict_26 : decode cX0_isConflict 26 = .ok (.iaload, 1) := by decide +kernel
theorem dX0_isConflict_27 : decode cX0_isConflict 27 = .ok (.if_icmp .eq 17, 3) := by decide +kernel
theorem dX0_isConflict_30 : decode cX0_isConflict 30 = .ok (.iload_n 2, 1) := by decide +kernel
theorem dX0_isConflict_31 : decode cX0_isConflict 31 = .ok (.aload_n 0, 1) := by decide +kernel
theorem dX0_isConflict_32 : decode cX0_isConflict 32 = .ok (.getfield 22, 3) := by decide +kernel
theorem dX0_isConflict_35 : decode cX0_isConflict 35 = .ok (.iload_n 1, 1) := by decide +kernel
theorem dX0_isConflict_36 : decode cX0_isConflict 36 = .ok (.iaload, 1) := by decide +kernel
theorem dX0_isConflict_37 : decode cX0_isConflict 37 = .ok (.if_icmp .eq 7, 3) := by decide +kernel
theorem dX0_isConflict_40 : decode cX0_isConflict 40 = .ok (.iconst 1, 1) := by decide +kernel
theorem dX0_isConflict_41 : decode cX0_isConflict 41 = .ok (.goto 4, 3) := by decide +kernel
theorem dX0_isConflict_44 : decode cX0_isConflict 44 = .ok (.iconst 0, 1) := by decide +kernel
theorem dX0_isConflict_45 : decode cX0_isConflict 45 = .ok (.ireturn, 1) := by decide +kernel
theorem dX0_conflictCount_0 : decode cX0_conflictCount 0 = .ok (.iconst 0, 1) := by decide +kernel
theorem dX0_conflictCount_1 : decode cX0_conflictCount 1 = .ok (.istore_n 2, 1) := by decide +kernel
theorem dX0_conflictCount_2 : decode cX0_conflictCount 2 = .ok (.iconst 0, 1) := by decide +kernel
theorem dX0_conflictCount_3 : decode cX0_conflictCount 3 = .ok (.istore_n 3, 1) := by decide +kernel
theorem dX0_conflictCount_4 : decode cX0_conflictCount 4 = .ok (.iload_n 3, 1) := by decide +kernel
theorem dX0_conflictCount_5 : decode cX0_conflictCount 5 = .ok (.sipush 304, 3) := by decide +kernel
theorem dX0_conflictCount_8 : decode cX0_conflictCount 8 = .ok (.if_icmp .ge 23, 3) := by decide +kernel
theorem dX0_conflictCount_11 : decode cX0_conflictCount 11 = .ok (.aload_n 0, 1) := by decide +kernel
theorem dX0_conflictCount_12 : decode cX0_conflictCount 12 = .ok (.iload_n 3, 1) := by decide +kernel
theorem dX0_conflictCount_13 : decode cX0_conflictCount 13 = .ok (.aload_n 1, 1) := by decide +kernel
theorem dX0_conflictCount_14 : decode cX0_conflictCount 14 = .ok (.iload_n 3, 1) := by decide +kernel
theorem dX0_conflictCount_15 : decode cX0_conflictCount 15 = .ok (.iaload, 1) := by decide +kernel
theorem dX0_conflictCount_16 : decode cX0_conflictCount 16 = .ok (.invokevirtual 49, 3) := by decide +kernel
theorem dX0_conflictCount_19 : decode cX0_conflictCount 19 = .ok (.ifCond .eq 6, 3) := by decide +kernel
theorem dX0_conflictCount_22 : decode cX0_conflictCount 22 = .ok (.iinc 2 1, 3) := by decide +kernel
theorem dX0_conflictCount_25 : decode cX0_conflictCount 25 = .ok (.iinc 3 1, 3) := by decide +kernel
theorem dX0_conflictCount_28 : decode cX0_conflictCount 28 = .ok (.goto (-24), 3) := by decide +kernel
theorem dX0_conflictCount_31 : decode cX0_conflictCount 31 = .ok (.iload_n 2, 1) := by decide +kernel
theorem dX0_conflictCount_32 : decode cX0_conflictCount 32 = .ok (.ireturn, 1) := by decide +kernel
theorem dX0_conflictAt_0 : decode cX0_conflictAt 0 = .ok (.iconst 0, 1) := by decide +kernel
theorem dX0_conflictAt_1 : decode cX0_conflictAt 1 = .ok (.istore_n 3, 1) := by decide +kernel
theorem dX0_conflictAt_2 : decode cX0_conflictAt 2 = .ok (.iconst 0, 1) := by decide +kernel
theorem dX0_conflictAt_3 : decode cX0_conflictAt 3 = .ok (.istore 4, 2) := by decide +kernel
theorem dX0_conflictAt_5 : decode cX0_conflictAt 5 = .ok (.iload 4, 2) := by decide +kernel
theorem dX0_conflictAt_7 : decode cX0_conflictAt 7 = .ok (.sipush 304, 3) := by decide +kernel
theorem dX0_conflictAt_10 : decode cX0_conflictAt 10 = .ok (.if_icmp .ge 33, 3) := by decide +kernel
theorem dX0_conflictAt_13 : decode cX0_conflictAt 13 = .ok (.aload_n 0, 1) := by decide +kernel
theorem dX0_conflictAt_14 : decode cX0_conflictAt 14 = .ok (.iload 4, 2) := by decide +kernel
theorem dX0_conflictAt_16 : decode cX0_conflictAt 16 = .ok (.aload_n 2, 1) := by decide +kernel
theorem dX0_conflictAt_17 : decode cX0_conflictAt 17 = .ok (.iload 4, 2) := by decide +kernel
theorem dX0_conflictAt_19 : decode cX0_conflictAt 19 = .ok (.iaload, 1) := by decide +kernel
theorem dX0_conflictAt_20 : decode cX0_conflictAt 20 = .ok (.invokevirtual 49, 3) := by decide +kernel
theorem dX0_conflictAt_23 : decode cX0_conflictAt 23 = .ok (.ifCond .eq 14, 3) := by decide +kernel
theorem dX0_conflictAt_26 : decode cX0_conflictAt 26 = .ok (.iload_n 3, 1) := by decide +kernel
theorem dX0_conflictAt_27 : decode cX0_conflictAt 27 = .ok (.iload_n 1, 1) := by decide +kernel
theorem dX0_conflictAt_28 : decode cX0_conflictAt 28 = .ok (.if_icmp .ne 6, 3) := by decide +kernel
theorem dX0_conflictAt_31 : decode cX0_conflictAt 31 = .ok (.iload 4, 2) := by decide +kernel
theorem dX0_conflictAt_33 : decode cX0_conflictAt 33 = .ok (.ireturn, 1) := by decide +kernel
theorem dX0_conflictAt_34 : decode cX0_conflictAt 34 = .ok (.iinc 3 1, 3) := by decide +kernel
theorem dX0_conflictAt_37 : decode cX0_conflictAt 37 = .ok (.iinc 4 1, 3) := by decide +kernel
theorem dX0_conflictAt_40 : decode cX0_conflictAt 40 = .ok (.goto (-35), 3) := by decide +kernel
theorem dX0_conflictAt_43 : decode cX0_conflictAt 43 = .ok (.iconst (-1), 1) := by decide +kernel
theorem dX0_conflictAt_44 : decode cX0_conflictAt 44 = .ok (.ireturn, 1) := by decide +kernel
theorem dX0_writeOver_0 : decode cX0_writeOver 0 = .ok (.iconst 0, 1) := by decide +kernel
theorem dX0_writeOver_1 : decode cX0_writeOver 1 = .ok (.istore_n 3, 1) := by decide +kernel
theorem dX0_writeOver_2 : decode cX0_writeOver 2 = .ok (.iload_n 3, 1) := by decide +kernel
theorem dX0_writeOver_3 : decode cX0_writeOver 3 = .ok (.sipush 304, 3) := by decide +kernel
theorem dX0_writeOver_6 : decode cX0_writeOver 6 = .ok (.if_icmp .ge 34, 3) := by decide +kernel
theorem dX0_writeOver_9 : decode cX0_writeOver 9 = .ok (.aload_n 2, 1) := by decide +kernel
theorem dX0_writeOver_10 : decode cX0_writeOver 10 = .ok (.iload_n 3, 1) := by decide +kernel
theorem dX0_writeOver_11 : decode cX0_writeOver 11 = .ok (.aload_n 0, 1) := by decide +kernel
theorem dX0_writeOver_12 : decode cX0_writeOver 12 = .ok (.getfield 19, 3) := by decide +kernel
theorem dX0_writeOver_15 : decode cX0_writeOver 15 = .ok (.iload_n 3, 1) := by decide +kernel
theorem dX0_writeOver_16 : decode cX0_writeOver 16 = .ok (.iaload, 1) := by decide +kernel
theorem dX0_writeOver_17 : decode cX0_writeOver 17 = .ok (.iconst (-1), 1) := by decide +kernel
theorem dX0_writeOver_18 : decode cX0_writeOver 18 = .ok (.if_icmp .ne 9, 3) := by decide +kernel
theorem dX0_writeOver_21 : decode cX0_writeOver 21 = .ok (.aload_n 1, 1) := by decide +kernel
theorem dX0_writeOver_22 : decode cX0_writeOver 22 = .ok (.iload_n 3, 1) := by decide +kernel
theorem dX0_writeOver_23 : decode cX0_writeOver 23 = .ok (.iaload, 1) := by decide +kernel
theorem dX0_writeOver_24 : decode cX0_writeOver 24 = .ok (.goto 9, 3) := by decide +kernel
theorem dX0_writeOver_27 : decode cX0_writeOver 27 = .ok (.aload_n 0, 1) := by decide +kernel
theorem dX0_writeOver_28 : decode cX0_writeOver 28 = .ok (.getfield 19, 3) := by decide +kernel
theorem dX0_writeOver_31 : decode cX0_writeOver 31 = .ok (.iload_n 3, 1) := by decide +kernel
theorem dX0_writeOver_32 : decode cX0_writeOver 32 = .ok (.iaload, 1) := by decide +kernel
theorem dX0_writeOver_33 : decode cX0_writeOver 33 = .ok (.iastore, 1) := by decide +kernel
theorem dX0_writeOver_34 : decode cX0_writeOver 34 = .ok (.iinc 3 1, 3) := by decide +kernel
theorem dX0_writeOver_37 : decode cX0_writeOver 37 = .ok (.goto (-35), 3) := by decide +kernel
theorem dX0_writeOver_40 : decode cX0_writeOver 40 = .ok (.return_, 1) := by decide +kernel
theorem dX0_hasIdleEdit_0 : decode cX0_hasIdleEdit 0 = .ok (.iconst 0, 1) := by decide +kernel
theorem dX0_hasIdleEdit_1 : decode cX0_hasIdleEdit 1 = .ok (.istore_n 1, 1) := by decide +kernel
theorem dX0_hasIdleEdit_2 : decode cX0_hasIdleEdit 2 = .ok (.iload_n 1, 1) := by decide +kernel
theorem dX0_hasIdleEdit_3 : decode cX0_hasIdleEdit 3 = .ok (.sipush 304, 3) := by decide +kernel
theorem dX0_hasIdleEdit_6 : decode cX0_hasIdleEdit 6 = .ok (.if_icmp .ge 36, 3) := by decide +kernel
theorem dX0_hasIdleEdit_9 : decode cX0_hasIdleEdit 9 = .ok (.aload_n 0, 1) := by decide +kernel
theorem dX0_hasIdleEdit_10 : decode cX0_hasIdleEdit 10 = .ok (.getfield 19, 3) := by decide +kernel
theorem dX0_hasIdleEdit_13 : decode cX0_hasIdleEdit 13 = .ok (.iload_n 1, 1) := by decide +kernel
theorem dX0_hasIdleEdit_14 : decode cX0_hasIdleEdit 14 = .ok (.iaload, 1) := by decide +kernel
theorem dX0_hasIdleEdit_15 : decode cX0_hasIdleEdit 15 = .ok (.iconst (-1), 1) := by decide +kernel
theorem dX0_hasIdleEdit_16 : decode cX0_hasIdleEdit 16 = .ok (.if_icmp .eq 20, 3) := by decide +kernel
theorem dX0_hasIdleEdit_19 : decode cX0_hasIdleEdit 19 = .ok (.aload_n 0, 1) := by decide +kernel
theorem dX0_hasIdleEdit_20 : decode cX0_hasIdleEdit 20 = .ok (.getfield 19, 3) := by decide +kernel
theorem dX0_hasIdleEdit_23 : decode cX0_hasIdleEdit 23 = .ok (.iload_n 1, 1) := by decide +kernel
theorem dX0_hasIdleEdit_24 : decode cX0_hasIdleEdit 24 = .ok (.iaload, 1) := by decide +kernel
theorem dX0_hasIdleEdit_25 : decode cX0_hasIdleEdit 25 = .ok (.aload_n 0, 1) := by decide +kernel
theorem dX0_hasIdleEdit_26 : decode cX0_hasIdleEdit 26 = .ok (.getfield 15, 3) := by decide +kernel
theorem dX0_hasIdleEdit_29 : decode cX0_hasIdleEdit 29 = .ok (.iload_n 1, 1) := by decide +kernel
theorem dX0_hasIdleEdit_30 : decode cX0_hasIdleEdit 30 = .ok (.iaload, 1) := by decide +kernel
theorem dX0_hasIdleEdit_31 : decode cX0_hasIdleEdit 31 = .ok (.if_icmp .ne 5, 3) := by decide +kernel
theorem dX0_hasIdleEdit_34 : decode cX0_hasIdleEdit 34 = .ok (.iconst 1, 1) := by decide +kernel
theorem dX0_hasIdleEdit_35 : decode cX0_hasIdleEdit 35 = .ok (.ireturn, 1) := by decide +kernel
theorem dX0_hasIdleEdit_36 : decode cX0_hasIdleEdit 36 = .ok (.iinc 1 1, 3) := by decide +kernel
theorem dX0_hasIdleEdit_39 : decode cX0_hasIdleEdit 39 = .ok (.goto (-37), 3) := by decide +kernel
theorem dX0_hasIdleEdit_42 : decode cX0_hasIdleEdit 42 = .ok (.iconst 0, 1) := by decide +kernel
theorem dX0_hasIdleEdit_43 : decode cX0_hasIdleEdit 43 = .ok (.ireturn, 1) := by decide +kernel
theorem dX1_init_0 : decode cX1_init 0 = .ok (.aload_n 0, 1) := by decide +kernel
theorem dX1_init_1 : decode cX1_init 1 = .ok (.invokespecial 3, 3) := by decide +kernel
theorem dX1_init_4 : decode cX1_init 4 = .ok (.aload_n 0, 1) := by decide +kernel
theorem dX1_init_5 : decode cX1_init 5 = .ok (.iconst 0, 1) := by decide +kernel
theorem dX1_init_6 : decode cX1_init 6 = .ok (.putfield 9, 3) := by decide +kernel
theorem dX1_init_9 : decode cX1_init 9 = .ok (.aload_n 0, 1) := by decide +kernel
theorem dX1_init_10 : decode cX1_init 10 = .ok (.iconst 0, 1) := by decide +kernel
theorem dX1_init_11 : decode cX1_init 11 = .ok (.putfield 15, 3) := by decide +kernel
theorem dX1_init_14 : decode cX1_init 14 = .ok (.aload_n 0, 1) := by decide +kernel
theorem dX1_init_15 : decode cX1_init 15 = .ok (.bipush 20, 2) := by decide +kernel
theorem dX1_init_17 : decode cX1_init 17 = .ok (.newarray .int, 2) := by decide +kernel
theorem dX1_init_19 : decode cX1_init 19 = .ok (.putfield 18, 3) := by decide +kernel
theorem dX1_init_22 : decode cX1_init 22 = .ok (.aload_n 0, 1) := by decide +kernel
theorem dX1_init_23 : decode cX1_init 23 = .ok (.bipush 20, 2) := by decide +kernel
theorem dX1_init_25 : decode cX1_init 25 = .ok (.newarray .int, 2) := by decide +kernel
theorem dX1_init_27 : decode cX1_init 27 = .ok (.putfield 22, 3) := by decide +kernel
theorem dX1_init_30 : decode cX1_init 30 = .ok (.aload_n 0, 1) := by decide +kernel
theorem dX1_init_31 : decode cX1_init 31 = .ok (.bipush 20, 2) := by decide +kernel
theorem dX1_init_33 : decode cX1_init 33 = .ok (.newarray .int, 2) := by decide +kernel
theorem dX1_init_35 : decode cX1_init 35 = .ok (.putfield 25, 3) := by decide +kernel
theorem dX1_init_38 : decode cX1_init 38 = .ok (.return_, 1) := by decide +kernel
theorem dX1_isFull_0 : decode cX1_isFull 0 = .ok (.aload_n 0, 1) := by decide +kernel
theorem dX1_isFull_1 : decode cX1_isFull 1 = .ok (.getfield 9, 3) := by decide +kernel
theorem dX1_isFull_4 : decode cX1_isFull 4 = .ok (.bipush 20, 2) := by decide +kernel
theorem dX1_isFull_6 : decode cX1_isFull 6 = .ok (.if_icmp .lt 7, 3) := by decide +kernel
theorem dX1_isFull_9 : decode cX1_isFull 9 = .ok (.iconst 1, 1) := by decide +kernel
theorem dX1_isFull_10 : decode cX1_isFull 10 = .ok (.goto 4, 3) := by decide +kernel
theorem dX1_isFull_13 : decode cX1_isFull 13 = .ok (.iconst 0, 1) := by decide +kernel
theorem dX1_isFull_14 : decode cX1_isFull 14 = .ok (.ireturn, 1) := by decide +kernel
theorem dX1_add_0 : decode cX1_add 0 = .ok (.aload_n 0, 1) := by decide +kernel
theorem dX1_add_1 : decode cX1_add 1 = .ok (.getfield 9, 3) := by decide +kernel
theorem dX1_add_4 : decode cX1_add 4 = .ok (.ifCond .lt 10, 3) := by decide +kernel
theorem dX1_add_7 : decode cX1_add 7 = .ok (.aload_n 0, 1) := by decide +kernel
theorem dX1_add_8 : decode cX1_add 8 = .ok (.invokevirtual 28, 3) := by decide +kernel
theorem dX1_add_11 : decode cX1_add 11 = .ok (.ifCond .eq 4, 3) := by decide +kernel
theorem dX1_add_14 : decode cX1_add 14 = .ok (.return_, 1) := by decide +kernel
theorem dX1_add_15 : decode cX1_add 15 = .ok (.aload_n 0, 1) := by decide +kernel
theorem dX1_add_16 : decode cX1_add 16 = .ok (.getfield 9, 3) := by decide +kernel
theorem dX1_add_19 : decode cX1_add 19 = .ok (.istore 4, 2) := by decide +kernel
theorem dX1_add_21 : decode cX1_add 21 = .ok (.iload 4, 2) := by decide +kernel
theorem dX1_add_23 : decode cX1_add 23 = .ok (.ifCond .le 70, 3) := by decide +kernel
theorem dX1_add_26 : decode cX1_add 26 = .ok (.aload_n 0, 1) := by decide +kernel
theorem dX1_add_27 : decode cX1_add 27 = .ok (.getfield 18, 3) := by decide +kernel
theorem dX1_add_30 : decode cX1_add 30 = .ok (.iload 4, 2) := by decide +kernel
theorem dX1_add_32 : decode cX1_add 32 = .ok (.iconst 1, 1) := by decide +kernel
theorem dX1_add_33 : decode cX1_add 33 = .ok (.isub, 1) := by decide +kernel
theorem dX1_add_34 : decode cX1_add 34 = .ok (.iaload, 1) := by decide +kernel
theorem dX1_add_35 : decode cX1_add 35 = .ok (.iload_n 1, 1) := by decide +kernel
theorem dX1_add_36 : decode cX1_add 36 = .ok (.if_icmp .le 57, 3) := by decide +kernel
theorem dX1_add_39 : decode cX1_add 39 = .ok (.aload_n 0, 1) := by decide +kernel
theorem dX1_add_40 : decode cX1_add 40 = .ok (.getfield 18, 3) := by decide +kernel
theorem dX1_add_43 : decode cX1_add 43 = .ok (.iload 4, 2) := by decide +kernel
theorem dX1_add_45 : decode cX1_add 45 = .ok (.aload_n 0, 1) := by decide +kernel
theorem dX1_add_46 : decode cX1_add 46 = .ok (.getfield 18, 3) := by decide +kernel
theorem dX1_add_49 : decode cX1_add 49 = .ok (.iload 4, 2) := by decide +kernel
theorem dX1_add_51 : decode cX1_add 51 = .ok (.iconst 1, 1) := by decide +kernel
theorem dX1_add_52 : decode cX1_add 52 = .ok (.isub, 1) := by decide +kernel
theorem dX1_add_53 : decode cX1_add 53 = .ok (.iaload, 1) := by decide +kernel
theorem dX1_add_54 : decode cX1_add 54 = .ok (.iastore, 1) := by decide +kernel
theorem dX1_add_55 : decode cX1_add 55 = .ok (.aload_n 0, 1) := by decide +kernel
theorem dX1_add_56 : decode cX1_add 56 = .ok (.getfield 22, 3) := by decide +kernel
theorem dX1_add_59 : decode cX1_add 59 = .ok (.iload 4, 2) := by decide +kernel
theorem dX1_add_61 : decode cX1_add 61 = .ok (.aload_n 0, 1) := by decide +kernel
theorem dX1_add_62 : decode cX1_add 62 = .ok (.getfield 22, 3) := by decide +kernel
theorem dX1_add_65 : decode cX1_add 65 = .ok (.iload 4, 2) := by decide +kernel
theorem dX1_add_67 : decode cX1_add 67 = .ok (.iconst 1, 1) := by decide +kernel
theorem dX1_add_68 : decode cX1_add 68 = .ok (.isub, 1) := by decide +kernel
theorem dX1_add_69 : decode cX1_add 69 = .ok (.iaload, 1) := by decide +kernel
theorem dX1_add_70 : decode cX1_add 70 = .ok (.iastore, 1) := by decide +kernel
theorem dX1_add_71 : decode cX1_add 71 = .ok (.aload_n 0, 1) := by decide +kernel
theorem dX1_add_72 : decode cX1_add 72 = .ok (.getfield 25, 3) := by decide +kernel
theorem dX1_add_75 : decode cX1_add 75 = .ok (.iload 4, 2) := by decide +kernel
theorem dX1_add_77 : decode cX1_add 77 = .ok (.aload_n 0, 1) := by decide +kernel
theorem dX1_add_78 : decode cX1_add 78 = .ok (.getfield 25, 3) := by decide +kernel
theorem dX1_add_81 : decode cX1_add 81 = .ok (.iload 4, 2) := by decide +kernel
theorem dX1_add_83 : decode cX1_add 83 = .ok (.iconst 1, 1) := by decide +kernel
theorem dX1_add_84 : decode cX1_add 84 = .ok (.isub, 1) := by decide +kernel
theorem dX1_add_85 : decode cX1_add 85 = .ok (.iaload, 1) := by decide +kernel
theorem dX1_add_86 : decode cX1_add 86 = .ok (.iastore, 1) := by decide +kernel
theorem dX1_add_87 : decode cX1_add 87 = .ok (.iinc 4 (-1), 3) := by decide +kernel
theorem dX1_add_90 : decode cX1_add 90 = .ok (.goto (-69), 3) := by decide +kernel
theorem dX1_add_93 : decode cX1_add 93 = .ok (.aload_n 0, 1) := by decide +kernel
theorem dX1_add_94 : decode cX1_add 94 = .ok (.getfield 18, 3) := by decide +kernel
theorem dX1_add_97 : decode cX1_add 97 = .ok (.iload 4, 2) := by decide +kernel
theorem dX1_add_99 : decode cX1_add 99 = .ok (.iload_n 1, 1) := by decide +kernel
theorem dX1_add_100 : decode cX1_add 100 = .ok (.iastore, 1) := by decide +kernel
theorem dX1_add_101 : decode cX1_add 101 = .ok (.aload_n 0, 1) := by decide +kernel
theorem dX1_add_102 : decode cX1_add 102 = .ok (.getfield 22, 3) := by decide +kernel
theorem dX1_add_105 : decode cX1_add 105 = .ok (.iload 4, 2) := by decide +kernel
theorem dX1_add_107 : decode cX1_add 107 = .ok (.iload_n 2, 1) := by decide +kernel
theorem dX1_add_108 : decode cX1_add 108 = .ok (.iastore, 1) := by decide +kernel
theorem dX1_add_109 : decode cX1_add 109 = .ok (.aload_n 0, 1) := by decide +kernel
theorem dX1_add_110 : decode cX1_add 110 = .ok (.getfield 25, 3) := by decide +kernel
theorem dX1_add_113 : decode cX1_add 113 = .ok (.iload 4, 2) := by decide +kernel
theorem dX1_add_115 : decode cX1_add 115 = .ok (.iload_n 3, 1) := by decide +kernel
theorem dX1_add_116 : decode cX1_add 116 = .ok (.iastore, 1) := by decide +kernel
theorem dX1_add_117 : decode cX1_add 117 = .ok (.aload_n 0, 1) := by decide +kernel
theorem dX1_add_118 : decode cX1_add 118 = .ok (.dup, 1) := by decide +kernel
theorem dX1_add_119 : decode cX1_add 119 = .ok (.getfield 9, 3) := by decide +kernel
theorem dX1_add_122 : decode cX1_add 122 = .ok (.iconst 1, 1) := by decide +kernel
theorem dX1_add_123 : decode cX1_add 123 = .ok (.iadd, 1) := by decide +kernel
theorem dX1_add_124 : decode cX1_add 124 = .ok (.putfield 9, 3) := by decide +kernel
theorem dX1_add_127 : decode cX1_add 127 = .ok (.return_, 1) := by decide +kernel
theorem dX1_bringTo_0 : decode cX1_bringTo 0 = .ok (.aload_n 0, 1) := by decide +kernel
theorem dX1_bringTo_1 : decode cX1_bringTo 1 = .ok (.iload_n 2, 1) := by decide +kernel
theorem dX1_bringTo_2 : decode cX1_bringTo 2 = .ok (.putfield 15, 3) := by decide +kernel
theorem dX1_bringTo_5 : decode cX1_bringTo 5 = .ok (.iconst 0, 1) := by decide +kernel
theorem dX1_bringTo_6 : decode cX1_bringTo 6 = .ok (.istore_n 3, 1) := by decide +kernel
theorem dX1_bringTo_7 : decode cX1_bringTo 7 = .ok (.iconst 0, 1) := by decide +kernel
theorem dX1_bringTo_8 : decode cX1_bringTo 8 = .ok (.istore 4, 2) := by decide +kernel
theorem dX1_bringTo_10 : decode cX1_bringTo 10 = .ok (.iload 4, 2) := by decide +kernel
theorem dX1_bringTo_12 : decode cX1_bringTo 12 = .ok (.aload_n 0, 1) := by decide +kernel
theorem dX1_bringTo_13 : decode cX1_bringTo 13 = .ok (.getfield 9, 3) := by decide +kernel
theorem dX1_bringTo_16 : decode cX1_bringTo 16 = .ok (.if_icmp .ge 52, 3) := by decide +kernel
theorem dX1_bringTo_19 : decode cX1_bringTo 19 = .ok (.iload 4, 2) := by decide +kernel
theorem dX1_bringTo_21 : decode cX1_bringTo 21 = .ok (.bipush 20, 2) := by decide +kernel
theorem dX1_bringTo_23 : decode cX1_bringTo 23 = .ok (.if_icmp .ge 45, 3) := by decide +kernel
theorem dX1_bringTo_26 : decode cX1_bringTo 26 = .ok (.aload_n 1, 1) := by decide +kernel
theorem dX1_bringTo_27 : decode cX1_bringTo 27 = .ok (.aload_n 0, 1) := by decide +kernel
theorem dX1_bringTo_28 : decode cX1_bringTo 28 = .ok (.getfield 22, 3) := by decide +kernel
theorem dX1_bringTo_31 : decode cX1_bringTo 31 = .ok (.iload 4, 2) := by decide +kernel
theorem dX1_bringTo_33 : decode cX1_bringTo 33 = .ok (.iaload, 1) := by decide +kernel
theorem dX1_bringTo_34 : decode cX1_bringTo 34 = .ok (.aload_n 0, 1) := by decide +kernel
theorem dX1_bringTo_35 : decode cX1_bringTo 35 = .ok (.getfield 25, 3) := by decide +kernel
theorem dX1_bringTo_38 : decode cX1_bringTo 38 = .ok (.iload 4, 2) := by decide +kernel
theorem dX1_bringTo_40 : decode cX1_bringTo 40 = .ok (.iaload, 1) := by decide +kernel
theorem dX1_bringTo_41 : decode cX1_bringTo 41 = .ok (.aload_n 0, 1) := by decide +kernel
theorem dX1_bringTo_42 : decode cX1_bringTo 42 = .ok (.getfield 18, 3) := by decide +kernel
theorem dX1_bringTo_45 : decode cX1_bringTo 45 = .ok (.iload 4, 2) := by decide +kernel
theorem dX1_bringTo_47 : decode cX1_bringTo 47 = .ok (.iaload, 1) := by decide +kernel
theorem dX1_bringTo_48 : decode cX1_bringTo 48 = .ok (.aload_n 0, 1) := by decide +kernel
theorem dX1_bringTo_49 : decode cX1_bringTo 49 = .ok (.getfield 15, 3) := by decide +kernel
theorem dX1_bringTo_52 : decode cX1_bringTo 52 = .ok (.isub, 1) := by decide +kernel
theorem dX1_bringTo_53 : decode cX1_bringTo 53 = .ok (.invokevirtual 32, 3) := by decide +kernel
theorem dX1_bringTo_56 : decode cX1_bringTo 56 = .ok (.ifCond .eq 6, 3) := by decide +kernel
theorem dX1_bringTo_59 : decode cX1_bringTo 59 = .ok (.iinc 3 1, 3) := by decide +kernel
theorem dX1_bringTo_62 : decode cX1_bringTo 62 = .ok (.iinc 4 1, 3) := by decide +kernel
theorem dX1_bringTo_65 : decode cX1_bringTo 65 = .ok (.goto (-55), 3) := by decide +kernel
theorem dX1_bringTo_68 : decode cX1_bringTo 68 = .ok (.aload_n 0, 1) := by decide +kernel
theorem dX1_bringTo_69 : decode cX1_bringTo 69 = .ok (.iconst 0, 1) := by decide +kernel
theorem dX1_bringTo_70 : decode cX1_bringTo 70 = .ok (.putfield 9, 3) := by decide +kernel
theorem dX1_bringTo_73 : decode cX1_bringTo 73 = .ok (.iload_n 3, 1) := by decide +kernel
theorem dX1_bringTo_74 : decode cX1_bringTo 74 = .ok (.ireturn, 1) := by decide +kernel
theorem dX2_areaSpot_0 : decode cX2_areaSpot 0 = .ok (.bipush 64, 2) := by decide +kernel
theorem dX2_areaSpot_2 : decode cX2_areaSpot 2 = .ok (.iload_n 0, 1) := by decide +kernel
theorem dX2_areaSpot_3 : decode cX2_areaSpot 3 = .ok (.imul, 1) := by decide +kernel
theorem dX2_areaSpot_4 : decode cX2_areaSpot 4 = .ok (.iload_n 1, 1) := by decide +kernel
theorem dX2_areaSpot_5 : decode cX2_areaSpot 5 = .ok (.iadd, 1) := by decide +kernel
theorem dX2_areaSpot_6 : decode cX2_areaSpot 6 = .ok (.ireturn, 1) := by decide +kernel
theorem dX2_rightRoad_0 : decode cX2_rightRoad 0 = .ok (.sipush 192, 3) := by decide +kernel
theorem dX2_rightRoad_3 : decode cX2_rightRoad 3 = .ok (.bipush 7, 2) := by decide +kernel
theorem dX2_rightRoad_5 : decode cX2_rightRoad 5 = .ok (.iload_n 1, 1) := by decide +kernel
theorem dX2_rightRoad_6 : decode cX2_rightRoad 6 = .ok (.imul, 1) := by decide +kernel
theorem dX2_rightRoad_7 : decode cX2_rightRoad 7 = .ok (.iadd, 1) := by decide +kernel
theorem dX2_rightRoad_8 : decode cX2_rightRoad 8 = .ok (.iload_n 0, 1) := by decide +kernel
theorem dX2_rightRoad_9 : decode cX2_rightRoad 9 = .ok (.iadd, 1) := by decide +kernel
theorem dX2_rightRoad_10 : decode cX2_rightRoad 10 = .ok (.ireturn, 1) := by decide +kernel
theorem dX2_downRoad_0 : decode cX2_downRoad 0 = .ok (.sipush 248, 3) := by decide +kernel
theorem dX2_downRoad_3 : decode cX2_downRoad 3 = .ok (.bipush 8, 2) := by decide +kernel
theorem dX2_downRoad_5 : decode cX2_downRoad 5 = .ok (.iload_n 1, 1) := by decide +kernel
theorem dX2_downRoad_6 : decode cX2_downRoad 6 = .ok (.imul, 1) := by decide +kernel
theorem dX2_downRoad_7 : decode cX2_downRoad 7 = .ok (.iadd, 1) := by decide +kernel
theorem dX2_downRoad_8 : decode cX2_downRoad 8 = .ok (.iload_n 0, 1) := by decide +kernel
theorem dX2_downRoad_9 : decode cX2_downRoad 9 = .ok (.iadd, 1) := by decide +kernel
theorem dX2_downRoad_10 : decode cX2_downRoad 10 = .ok (.ireturn, 1) := by decide +kernel
theorem dX2_valueIn_0 : decode cX2_valueIn 0 = .ok (.iload_n 1, 1) := by decide +kernel
theorem dX2_valueIn_1 : decode cX2_valueIn 1 = .ok (.ifCond .lt 15, 3) := by decide +kernel
theorem dX2_valueIn_4 : decode cX2_valueIn 4 = .ok (.iload_n 1, 1) := by decide +kernel
theorem dX2_valueIn_5 : decode cX2_valueIn 5 = .ok (.aload_n 0, 1) := by decide +kernel
theorem dX2_valueIn_6 : decode cX2_valueIn 6 = .ok (.arraylength, 1) := by decide +kernel
theorem dX2_valueIn_7 : decode cX2_valueIn 7 = .ok (.if_icmp .ge 9, 3) := by decide +kernel
theorem dX2_valueIn_10 : decode cX2_valueIn 10 = .ok (.aload_n 0, 1) := by decide +kernel
theorem dX2_valueIn_11 : decode cX2_valueIn 11 = .ok (.iload_n 1, 1) := by decide +kernel
theorem dX2_valueIn_12 : decode cX2_valueIn 12 = .ok (.iaload, 1) := by decide +kernel
theorem dX2_valueIn_13 : decode cX2_valueIn 13 = .ok (.goto 4, 3) := by decide +kernel
theorem dX2_valueIn_16 : decode cX2_valueIn 16 = .ok (.iconst 0, 1) := by decide +kernel
theorem dX2_valueIn_17 : decode cX2_valueIn 17 = .ok (.ireturn, 1) := by decide +kernel
theorem dX2_areaAt_0 : decode cX2_areaAt 0 = .ok (.bipush 64, 2) := by decide +kernel
theorem dX2_areaAt_2 : decode cX2_areaAt 2 = .ok (.iload_n 1, 1) := by decide +kernel
theorem dX2_areaAt_3 : decode cX2_areaAt 3 = .ok (.imul, 1) := by decide +kernel
theorem dX2_areaAt_4 : decode cX2_areaAt 4 = .ok (.iload_n 2, 1) := by decide +kernel
theorem dX2_areaAt_5 : decode cX2_areaAt 5 = .ok (.iadd, 1) := by decide +kernel
theorem dX2_areaAt_6 : decode cX2_areaAt 6 = .ok (.istore_n 3, 1) := by decide +kernel
theorem dX2_areaAt_7 : decode cX2_areaAt 7 = .ok (.iload_n 3, 1) := by decide +kernel
theorem dX2_areaAt_8 : decode cX2_areaAt 8 = .ok (.ifCond .lt 15, 3) := by decide +kernel
theorem dX2_areaAt_11 : decode cX2_areaAt 11 = .ok (.iload_n 3, 1) := by decide +kernel
theorem dX2_areaAt_12 : decode cX2_areaAt 12 = .ok (.aload_n 0, 1) := by decide +kernel
theorem dX2_areaAt_13 : decode cX2_areaAt 13 = .ok (.arraylength, 1) := by decide +kernel
theorem dX2_areaAt_14 : decode cX2_areaAt 14 = .ok (.if_icmp .ge 9, 3) := by decide +kernel
theorem dX2_areaAt_17 : decode cX2_areaAt 17 = .ok (.aload_n 0, 1) := by decide +kernel
theorem dX2_areaAt_18 : decode cX2_areaAt 18 = .ok (.iload_n 3, 1) := by decide +kernel
theorem dX2_areaAt_19 : decode cX2_areaAt 19 = .ok (.iaload, 1) := by decide +kernel
theorem dX2_areaAt_20 : decode cX2_areaAt 20 = .ok (.goto 4, 3) := by decide +kernel
theorem dX2_areaAt_23 : decode cX2_areaAt 23 = .ok (.iconst 0, 1) := by decide +kernel
theorem dX2_areaAt_24 : decode cX2_areaAt 24 = .ok (.ireturn, 1) := by decide +kernel
theorem dX2_beside_0 : decode cX2_beside 0 = .ok (.iload_n 0, 1) := by decide +kernel
theorem dX2_beside_1 : decode cX2_beside 1 = .ok (.bipush 8, 2) := by decide +kernel
theorem dX2_beside_3 : decode cX2_beside 3 = .ok (.irem, 1) := by decide +kernel
theorem dX2_beside_4 : decode cX2_beside 4 = .ok (.istore_n 2, 1) := by decide +kernel
theorem dX2_beside_5 : decode cX2_beside 5 = .ok (.iload_n 0, 1) := by decide +kernel
theorem dX2_beside_6 : decode cX2_beside 6 = .ok (.bipush 8, 2) := by decide +kernel
theorem dX2_beside_8 : decode cX2_beside 8 = .ok (.idiv, 1) := by decide +kernel
theorem dX2_beside_9 : decode cX2_beside 9 = .ok (.istore_n 3, 1) := by decide +kernel
theorem dX2_beside_10 : decode cX2_beside 10 = .ok (.iload_n 1, 1) := by decide +kernel
theorem dX2_beside_11 : decode cX2_beside 11 = .ok (.ifCond .ne 17, 3) := by decide +kernel
theorem dX2_beside_14 : decode cX2_beside 14 = .ok (.iload_n 2, 1) := by decide +kernel
theorem dX2_beside_15 : decode cX2_beside 15 = .ok (.bipush 7, 2) := by decide +kernel
theorem dX2_beside_17 : decode cX2_beside 17 = .ok (.if_icmp .ge 9, 3) := by decide +kernel
theorem dX2_beside_20 : decode cX2_beside 20 = .ok (.iload_n 0, 1) := by decide +kernel
theorem dX2_beside_21 : decode cX2_beside 21 = .ok (.iconst 1, 1) := by decide +kernel
theorem dX2_beside_22 : decode cX2_beside 22 = .ok (.iadd, 1) := by decide +kernel
theorem dX2_beside_23 : decode cX2_beside 23 = .ok (.goto 4, 3) := by decide +kernel
theorem dX2_beside_26 : decode cX2_beside 26 = .ok (.iconst (-1), 1) := by decide +kernel
theorem dX2_beside_27 : decode cX2_beside 27 = .ok (.ireturn, 1) := by decide +kernel
theorem dX2_beside_28 : decode cX2_beside 28 = .ok (.iload_n 1, 1) := by decide +kernel
theorem dX2_beside_29 : decode cX2_beside 29 = .ok (.iconst 1, 1) := by decide +kernel
theorem dX2_beside_30 : decode cX2_beside 30 = .ok (.if_icmp .ne 18, 3) := by decide +kernel
theorem dX2_beside_33 : decode cX2_beside 33 = .ok (.iload_n 3, 1) := by decide +kernel
theorem dX2_beside_34 : decode cX2_beside 34 = .ok (.bipush 7, 2) := by decide +kernel
theorem dX2_beside_36 : decode cX2_beside 36 = .ok (.if_icmp .ge 10, 3) := by decide +kernel
theorem dX2_beside_39 : decode cX2_beside 39 = .ok (.iload_n 0, 1) := by decide +kernel
theorem dX2_beside_40 : decode cX2_beside 40 = .ok (.bipush 8, 2) := by decide +kernel
theorem dX2_beside_42 : decode cX2_beside 42 = .ok (.iadd, 1) := by decide +kernel
theorem dX2_beside_43 : decode cX2_beside 43 = .ok (.goto 4, 3) := by decide +kernel
theorem dX2_beside_46 : decode cX2_beside 46 = .ok (.iconst (-1), 1) := by decide +kernel
theorem dX2_beside_47 : decode cX2_beside 47 = .ok (.ireturn, 1) := by decide +kernel
theorem dX2_beside_48 : decode cX2_beside 48 = .ok (.iload_n 1, 1) := by decide +kernel
theorem dX2_beside_49 : decode cX2_beside 49 = .ok (.iconst 2, 1) := by decide +kernel
theorem dX2_beside_50 : decode cX2_beside 50 = .ok (.if_icmp .ne 15, 3) := by decide +kernel
theorem dX2_beside_53 : decode cX2_beside 53 = .ok (.iload_n 2, 1) := by decide +kernel
theorem dX2_beside_54 : decode cX2_beside 54 = .ok (.ifCond .le 9, 3) := by decide +kernel
theorem dX2_beside_57 : decode cX2_beside 57 = .ok (.iload_n 0, 1) := by decide +kernel
theorem dX2_beside_58 : decode cX2_beside 58 = .ok (.iconst 1, 1) := by decide +kernel
theorem dX2_beside_59 : decode cX2_beside 59 = .ok (.isub, 1) := by decide +kernel
theorem dX2_beside_60 : decode cX2_beside 60 = .ok (.goto 4, 3) := by decide +kernel
theorem dX2_beside_63 : decode cX2_beside 63 = .ok (.iconst (-1), 1) := by decide +kernel
theorem dX2_beside_64 : decode cX2_beside 64 = .ok (.ireturn, 1) := by decide +kernel
theorem dX2_beside_65 : decode cX2_beside 65 = .ok (.iload_n 3, 1) := by decide +kernel
theorem dX2_beside_66 : decode cX2_beside 66 = .ok (.ifCond .le 10, 3) := by decide +kernel
theorem dX2_beside_69 : decode cX2_beside 69 = .ok (.iload_n 0, 1) := by decide +kernel
theorem dX2_beside_70 : decode cX2_beside 70 = .ok (.bipush 8, 2) := by decide +kernel
theorem dX2_beside_72 : decode cX2_beside 72 = .ok (.isub, 1) := by decide +kernel
theorem dX2_beside_73 : decode cX2_beside 73 = .ok (.goto 4, 3) := by decide +kernel
theorem dX2_beside_76 : decode cX2_beside 76 = .ok (.iconst (-1), 1) := by decide +kernel
theorem dX2_beside_77 : decode cX2_beside 77 = .ok (.ireturn, 1) := by decide +kernel
theorem dX2_touch_0 : decode cX2_touch 0 = .ok (.iload_n 0, 1) := by decide +kernel
theorem dX2_touch_1 : decode cX2_touch 1 = .ok (.bipush 8, 2) := by decide +kernel
theorem dX2_touch_3 : decode cX2_touch 3 = .ok (.irem, 1) := by decide +kernel
theorem dX2_touch_4 : decode cX2_touch 4 = .ok (.iload_n 1, 1) := by decide +kernel
theorem dX2_touch_5 : decode cX2_touch 5 = .ok (.bipush 8, 2) := by decide +kernel
theorem dX2_touch_7 : decode cX2_touch 7 = .ok (.irem, 1) := by decide +kernel
theorem dX2_touch_8 : decode cX2_touch 8 = .ok (.isub, 1) := by decide +kernel
theorem dX2_touch_9 : decode cX2_touch 9 = .ok (.invokestatic 11, 3) := by decide +kernel
theorem dX2_touch_12 : decode cX2_touch 12 = .ok (.iload_n 0, 1) := by decide +kernel
theorem dX2_touch_13 : decode cX2_touch 13 = .ok (.bipush 8, 2) := by decide +kernel
theorem dX2_touch_15 : decode cX2_touch 15 = .ok (.idiv, 1) := by decide +kernel
theorem dX2_touch_16 : decode cX2_touch 16 = .ok (.iload_n 1, 1) := by decide +kernel
theorem dX2_touch_17 : decode cX2_touch 17 = .ok (.bipush 8, 2) := by decide +kernel
theorem dX2_touch_19 : decode cX2_touch 19 = .ok (.idiv, 1) := by decide +kernel
theorem dX2_touch_20 : decode cX2_touch 20 = .ok (.isub, 1) := by decide +kernel
theorem dX2_touch_21 : decode cX2_touch 21 = .ok (.invokestatic 11, 3) := by decide +kernel
theorem dX2_touch_24 : decode cX2_touch 24 = .ok (.iadd, 1) := by decide +kernel
theorem dX2_touch_25 : decode cX2_touch 25 = .ok (.iconst 1, 1) := by decide +kernel
theorem dX2_touch_26 : decode cX2_touch 26 = .ok (.if_icmp .ne 7, 3) := by decide +kernel
theorem dX2_touch_29 : decode cX2_touch 29 = .ok (.iconst 1, 1) := by decide +kernel
theorem dX2_touch_30 : decode cX2_touch 30 = .ok (.goto 4, 3) := by decide +kernel
theorem dX2_touch_33 : decode cX2_touch 33 = .ok (.iconst 0, 1) := by decide +kernel
theorem dX2_touch_34 : decode cX2_touch 34 = .ok (.ireturn, 1) := by decide +kernel
theorem dX2_isRoadBetween_0 : decode cX2_isRoadBetween 0 = .ok (.iload_n 1, 1) := by decide +kernel
theorem dX2_isRoadBetween_1 : decode cX2_isRoadBetween 1 = .ok (.iload_n 2, 1) := by decide +kernel
theorem dX2_isRoadBetween_2 : decode cX2_isRoadBetween 2 = .ok (.invokestatic 17, 3) := by decide +kernel
theorem dX2_isRoadBetween_5 : decode cX2_isRoadBetween 5 = .ok (.istore_n 3, 1) := by decide +kernel
theorem dX2_isRoadBetween_6 : decode cX2_isRoadBetween 6 = .ok (.iload_n 1, 1) := by decide +kernel
theorem dX2_isRoadBetween_7 : decode cX2_isRoadBetween 7 = .ok (.iload_n 2, 1) := by decide +kernel
theorem dX2_isRoadBetween_8 : decode cX2_isRoadBetween 8 = .ok (.invokestatic 21, 3) := by decide +kernel
theorem dX2_isRoadBetween_11 : decode cX2_isRoadBetween 11 = .ok (.istore 4, 2) := by decide +kernel
theorem dX2_isRoadBetween_13 : decode cX2_isRoadBetween 13 = .ok (.iload_n 3, 1) := by decide +kernel
theorem dX2_isRoadBetween_14 : decode cX2_isRoadBetween 14 = .ok (.bipush 8, 2) := by decide +kernel
theorem dX2_isRoadBetween_16 : decode cX2_isRoadBetween 16 = .ok (.irem, 1) := by decide +kernel
theorem dX2_isRoadBetween_17 : decode cX2_isRoadBetween 17 = .ok (.istore 5, 2) := by decide +kernel
theorem dX2_isRoadBetween_19 : decode cX2_isRoadBetween 19 = .ok (.iload_n 3, 1) := by decide +kernel
theorem dX2_isRoadBetween_20 : decode cX2_isRoadBetween 20 = .ok (.bipush 8, 2) := by decide +kernel
theorem dX2_isRoadBetween_22 : decode cX2_isRoadBetween 22 = .ok (.idiv, 1) := by decide +kernel
theorem dX2_isRoadBetween_23 : decode cX2_isRoadBetween 23 = .ok (.istore 6, 2) := by decide +kernel
theorem dX2_isRoadBetween_25 : decode cX2_isRoadBetween 25 = .ok (.iload 4, 2) := by decide +kernel
theorem dX2_isRoadBetween_27 : decode cX2_isRoadBetween 27 = .ok (.iload_n 3, 1) := by decide +kernel
theorem dX2_isRoadBetween_28 : decode cX2_isRoadBetween 28 = .ok (.bipush 8, 2) := by decide +kernel
theorem dX2_isRoadBetween_30 : decode cX2_isRoadBetween 30 = .ok (.iadd, 1) := by decide +kernel
theorem dX2_isRoadBetween_31 : decode cX2_isRoadBetween 31 = .ok (.if_icmp .ne 24, 3) := by decide +kernel
theorem dX2_isRoadBetween_34 : decode cX2_isRoadBetween 34 = .ok (.aload_n 0, 1) := by decide +kernel
theorem dX2_isRoadBetween_35 : decode cX2_isRoadBetween 35 = .ok (.iload 5, 2) := by decide +kernel
theorem dX2_isRoadBetween_37 : decode cX2_isRoadBetween 37 = .ok (.iload 6, 2) := by decide +kernel
theorem dX2_isRoadBetween_39 : decode cX2_isRoadBetween 39 = .ok (.invokestatic 24, 3) := by decide +kernel
theorem dX2_isRoadBetween_42 : decode cX2_isRoadBetween 42 = .ok (.invokestatic 27, 3) := by decide +kernel
theorem dX2_isRoadBetween_45 : decode cX2_isRoadBetween 45 = .ok (.iconst 1, 1) := by decide +kernel
theorem dX2_isRoadBetween_46 : decode cX2_isRoadBetween 46 = .ok (.if_icmp .ne 7, 3) := by decide +kernel
theorem dX2_isRoadBetween_49 : decode cX2_isRoadBetween 49 = .ok (.iconst 1, 1) := by decide +kernel
theorem dX2_isRoadBetween_50 : decode cX2_isRoadBetween 50 = .ok (.goto 4, 3) := by decide +kernel
theorem dX2_isRoadBetween_53 : decode cX2_isRoadBetween 53 = .ok (.iconst 0, 1) := by decide +kernel
theorem dX2_isRoadBetween_54 : decode cX2_isRoadBetween 54 = .ok (.ireturn, 1) := by decide +kernel
theorem dX2_isRoadBetween_55 : decode cX2_isRoadBetween 55 = .ok (.iload 4, 2) := by decide +kernel
theorem dX2_isRoadBetween_57 : decode cX2_isRoadBetween 57 = .ok (.iload_n 3, 1) := by decide +kernel
theorem dX2_isRoadBetween_58 : decode cX2_isRoadBetween 58 = .ok (.iconst 1, 1) := by decide +kernel
theorem dX2_isRoadBetween_59 : decode cX2_isRoadBetween 59 = .ok (.iadd, 1) := by decide +kernel
theorem dX2_isRoadBetween_60 : decode cX2_isRoadBetween 60 = .ok (.if_icmp .ne 29, 3) := by decide +kernel
theorem dX2_isRoadBetween_63 : decode cX2_isRoadBetween 63 = .ok (.iload 5, 2) := by decide +kernel
theorem dX2_isRoadBetween_65 : decode cX2_isRoadBetween 65 = .ok (.bipush 7, 2) := by decide +kernel
theorem dX2_isRoadBetween_67 : decode cX2_isRoadBetween 67 = .ok (.if_icmp .ge 22, 3) := by decide +kernel
theorem dX2_isRoadBetween_70 : decode cX2_isRoadBetween 70 = .ok (.aload_n 0, 1) := by decide +kernel
theorem dX2_isRoadBetween_71 : decode cX2_isRoadBetween 71 = .ok (.iload 5, 2) := by decide +kernel
theorem dX2_isRoadBetween_73 : decode cX2_isRoadBetween 73 = .ok (.iload 6, 2) := by decide +kernel
theorem dX2_isRoadBetween_75 : decode cX2_isRoadBetween 75 = .ok (.invokestatic 31, 3) := by decide +kernel
theorem dX2_isRoadBetween_78 : decode cX2_isRoadBetween 78 = .ok (.invokestatic 27, 3) := by decide +kernel
theorem dX2_isRoadBetween_81 : decode cX2_isRoadBetween 81 = .ok (.iconst 1, 1) := by decide +kernel
theorem dX2_isRoadBetween_82 : decode cX2_isRoadBetween 82 = .ok (.if_icmp .ne 7, 3) := by decide +kernel
theorem dX2_isRoadBetween_85 : decode cX2_isRoadBetween 85 = .ok (.iconst 1, 1) := by decide +kernel
theorem dX2_isRoadBetween_86 : decode cX2_isRoadBetween 86 = .ok (.goto 4, 3) := by decide +kernel
theorem dX2_isRoadBetween_89 : decode cX2_isRoadBetween 89 = .ok (.iconst 0, 1) := by decide +kernel
theorem dX2_isRoadBetween_90 : decode cX2_isRoadBetween 90 = .ok (.ireturn, 1) := by decide +kernel
theorem dX2_isAtEdge_0 : decode cX2_isAtEdge 0 = .ok (.iload_n 0, 1) := by decide +kernel
theorem dX2_isAtEdge_1 : decode cX2_isAtEdge 1 = .ok (.bipush 8, 2) := by decide +kernel
theorem dX2_isAtEdge_3 : decode cX2_isAtEdge 3 = .ok (.irem, 1) := by decide +kernel
theorem dX2_isAtEdge_4 : decode cX2_isAtEdge 4 = .ok (.istore_n 1, 1) := by decide +kernel
theorem dX2_isAtEdge_5 : decode cX2_isAtEdge 5 = .ok (.iload_n 0, 1) := by decide +kernel
theorem dX2_isAtEdge_6 : decode cX2_isAtEdge 6 = .ok (.bipush 8, 2) := by decide +kernel
theorem dX2_isAtEdge_8 : decode cX2_isAtEdge 8 = .ok (.idiv, 1) := by decide +kernel
theorem dX2_isAtEdge_9 : decode cX2_isAtEdge 9 = .ok (.istore_n 2, 1) := by decide +kernel
theorem dX2_isAtEdge_10 : decode cX2_isAtEdge 10 = .ok (.iload_n 1, 1) := by decide +kernel
theorem dX2_isAtEdge_11 : decode cX2_isAtEdge 11 = .ok (.ifCond .eq 19, 3) := by decide +kernel
theorem dX2_isAtEdge_14 : decode cX2_isAtEdge 14 = .ok (.iload_n 1, 1) := by decide +kernel
theorem dX2_isAtEdge_15 : decode cX2_isAtEdge 15 = .ok (.bipush 7, 2) := by decide +kernel
theorem dX2_isAtEdge_17 : decode cX2_isAtEdge 17 = .ok (.if_icmp .eq 13, 3) := by decide +kernel
theorem dX2_isAtEdge_20 : decode cX2_isAtEdge 20 = .ok (.iload_n 2, 1) := by decide +kernel
theorem dX2_isAtEdge_21 : decode cX2_isAtEdge 21 = .ok (.ifCond .eq 9, 3) := by decide +kernel
theorem dX2_isAtEdge_24 : decode cX2_isAtEdge 24 = .ok (.iload_n 2, 1) := by decide +kernel
theorem dX2_isAtEdge_25 : decode cX2_isAtEdge 25 = .ok (.bipush 7, 2) := by decide +kernel
theorem dX2_isAtEdge_27 : decode cX2_isAtEdge 27 = .ok (.if_icmp .ne 7, 3) := by decide +kernel
theorem dX2_isAtEdge_30 : decode cX2_isAtEdge 30 = .ok (.iconst 1, 1) := by decide +kernel
theorem dX2_isAtEdge_31 : decode cX2_isAtEdge 31 = .ok (.goto 4, 3) := by decide +kernel
theorem dX2_isAtEdge_34 : decode cX2_isAtEdge 34 = .ok (.iconst 0, 1) := by decide +kernel
theorem dX2_isAtEdge_35 : decode cX2_isAtEdge 35 = .ok (.ireturn, 1) := by decide +kernel
theorem dX2_placesOf_0 : decode cX2_placesOf 0 = .ok (.aload_n 0, 1) := by decide +kernel
theorem dX2_placesOf_1 : decode cX2_placesOf 1 = .ok (.iload_n 1, 1) := by decide +kernel
theorem dX2_placesOf_2 : decode cX2_placesOf 2 = .ok (.iload_n 2, 1) := by decide +kernel
theorem dX2_placesOf_3 : decode cX2_placesOf 3 = .ok (.iconst 3, 1) := by decide +kernel
theorem dX2_placesOf_4 : decode cX2_placesOf 4 = .ok (.iconst 0, 1) := by decide +kernel
theorem dX2_placesOf_5 : decode cX2_placesOf 5 = .ok (.iconst 0, 1) := by decide +kernel
theorem dX2_placesOf_6 : decode cX2_placesOf 6 = .ok (.invokestatic 36, 3) := by decide +kernel
theorem dX2_placesOf_9 : decode cX2_placesOf 9 = .ok (.ireturn, 1) := by decide +kernel
theorem dX2_placesIn_0 : decode cX2_placesIn 0 = .ok (.iconst 1, 1) := by decide +kernel
theorem dX2_placesIn_1 : decode cX2_placesIn 1 = .ok (.iload_n 3, 1) := by decide +kernel
theorem dX2_placesIn_2 : decode cX2_placesIn 2 = .ok (.ishl, 1) := by decide +kernel
theorem dX2_placesIn_3 : decode cX2_placesIn 3 = .ok (.istore 6, 2) := by decide +kernel
theorem dX2_placesIn_5 : decode cX2_placesIn 5 = .ok (.iconst 0, 1) := by decide +kernel
theorem dX2_placesIn_6 : decode cX2_placesIn 6 = .ok (.istore 7, 2) := by decide +kernel
theorem dX2_placesIn_8 : decode cX2_placesIn 8 = .ok (.iconst 0, 1) := by decide +kernel
theorem dX2_placesIn_9 : decode cX2_placesIn 9 = .ok (.istore 8, 2) := by decide +kernel
theorem dX2_placesIn_11 : decode cX2_placesIn 11 = .ok (.iload 8, 2) := by decide +kernel
theorem dX2_placesIn_13 : decode cX2_placesIn 13 = .ok (.iload 6, 2) := by decide +kernel
theorem dX2_placesIn_15 : decode cX2_placesIn 15 = .ok (.if_icmp .ge 61, 3) := by decide +kernel
theorem dX2_placesIn_18 : decode cX2_placesIn 18 = .ok (.iconst 0, 1) := by decide +kernel
theorem dX2_placesIn_19 : decode cX2_placesIn 19 = .ok (.istore 9, 2) := by decide +kernel
theorem dX2_placesIn_21 : decode cX2_placesIn 21 = .ok (.iload 9, 2) := by decide +kernel
theorem dX2_placesIn_23 : decode cX2_placesIn 23 = .ok (.iload 6, 2) := by decide +kernel
theorem dX2_placesIn_25 : decode cX2_placesIn 25 = .ok (.if_icmp .ge 45, 3) := by decide +kernel
theorem dX2_placesIn_28 : decode cX2_placesIn 28 = .ok (.bipush 8, 2) := by decide +kernel
theorem dX2_placesIn_30 : decode cX2_placesIn 30 = .ok (.iload 5, 2) := by decide +kernel
theorem dX2_placesIn_32 : decode cX2_placesIn 32 = .ok (.iload 6, 2) := by decide +kernel
theorem dX2_placesIn_34 : decode cX2_placesIn 34 = .ok (.imul, 1) := by decide +kernel
theorem dX2_placesIn_35 : decode cX2_placesIn 35 = .ok (.iload 8, 2) := by decide +kernel
theorem dX2_placesIn_37 : decode cX2_placesIn 37 = .ok (.iadd, 1) := by decide +kernel
theorem dX2_placesIn_38 : decode cX2_placesIn 38 = .ok (.imul, 1) := by decide +kernel
theorem dX2_placesIn_39 : decode cX2_placesIn 39 = .ok (.iload 4, 2) := by decide +kernel
theorem dX2_placesIn_41 : decode cX2_placesIn 41 = .ok (.iload 6, 2) := by decide +kernel
theorem dX2_placesIn_43 : decode cX2_placesIn 43 = .ok (.imul, 1) := by decide +kernel
theorem dX2_placesIn_44 : decode cX2_placesIn 44 = .ok (.iadd, 1) := by decide +kernel
theorem dX2_placesIn_45 : decode cX2_placesIn 45 = .ok (.iload 9, 2) := by decide +kernel
theorem dX2_placesIn_47 : decode cX2_placesIn 47 = .ok (.iadd, 1) := by decide +kernel
theorem dX2_placesIn_48 : decode cX2_placesIn 48 = .ok (.istore 10, 2) := by decide +kernel
theorem dX2_placesIn_50 : decode cX2_placesIn 50 = .ok (.aload_n 0, 1) := by decide +kernel
theorem dX2_placesIn_51 : decode cX2_placesIn 51 = .ok (.iload_n 1, 1) := by decide +kernel
theorem dX2_placesIn_52 : decode cX2_placesIn 52 = .ok (.iload 10, 2) := by decide +kernel
theorem dX2_placesIn_54 : decode cX2_placesIn 54 = .ok (.invokestatic 40, 3) := by decide +kernel
theorem dX2_placesIn_57 : decode cX2_placesIn 57 = .ok (.iload_n 2, 1) := by decide +kernel
theorem dX2_placesIn_58 : decode cX2_placesIn 58 = .ok (.if_icmp .ne 6, 3) := by decide +kernel
theorem dX2_placesIn_61 : decode cX2_placesIn 61 = .ok (.iinc 7 1, 3) := by decide +kernel
theorem dX2_placesIn_64 : decode cX2_placesIn 64 = .ok (.iinc 9 1, 3) := by decide +kernel
theorem dX2_placesIn_67 : decode cX2_placesIn 67 = .ok (.goto (-46), 3) := by decide +kernel
theorem dX2_placesIn_70 : decode cX2_placesIn 70 = .ok (.iinc 8 1, 3) := by decide +kernel
theorem dX2_placesIn_73 : decode cX2_placesIn 73 = .ok (.goto (-62), 3) := by decide +kernel
theorem dX2_placesIn_76 : decode cX2_placesIn 76 = .ok (.iload 7, 2) := by decide +kernel
theorem dX2_placesIn_78 : decode cX2_placesIn 78 = .ok (.ireturn, 1) := by decide +kernel
theorem dX2_firstPlaceOf_0 : decode cX2_firstPlaceOf 0 = .ok (.iconst 0, 1) := by decide +kernel
theorem dX2_firstPlaceOf_1 : decode cX2_firstPlaceOf 1 = .ok (.istore_n 3, 1) := by decide +kernel
theorem dX2_firstPlaceOf_2 : decode cX2_firstPlaceOf 2 = .ok (.iload_n 3, 1) := by decide +kernel
theorem dX2_firstPlaceOf_3 : decode cX2_firstPlaceOf 3 = .ok (.bipush 64, 2) := by decide +kernel
theorem dX2_firstPlaceOf_5 : decode cX2_firstPlaceOf 5 = .ok (.if_icmp .ge 21, 3) := by decide +kernel
theorem dX2_firstPlaceOf_8 : decode cX2_firstPlaceOf 8 = .ok (.aload_n 0, 1) := by decide +kernel
theorem dX2_firstPlaceOf_9 : decode cX2_firstPlaceOf 9 = .ok (.iload_n 1, 1) := by decide +kernel
theorem dX2_firstPlaceOf_10 : decode cX2_firstPlaceOf 10 = .ok (.iload_n 3, 1) := by decide +kernel
theorem dX2_firstPlaceOf_11 : decode cX2_firstPlaceOf 11 = .ok (.invokestatic 40, 3) := by decide +kernel
theorem dX2_firstPlaceOf_14 : decode cX2_firstPlaceOf 14 = .ok (.iload_n 2, 1) := by decide +kernel
theorem dX2_firstPlaceOf_15 : decode cX2_firstPlaceOf 15 = .ok (.if_icmp .ne 5, 3) := by decide +kernel
theorem dX2_firstPlaceOf_18 : decode cX2_firstPlaceOf 18 = .ok (.iload_n 3, 1) := by decide +kernel
theorem dX2_firstPlaceOf_19 : decode cX2_firstPlaceOf 19 = .ok (.ireturn, 1) := by decide +kernel
theorem dX2_firstPlaceOf_20 : decode cX2_firstPlaceOf 20 = .ok (.iinc 3 1, 3) := by decide +kernel
theorem dX2_firstPlaceOf_23 : decode cX2_firstPlaceOf 23 = .ok (.goto (-21), 3) := by decide +kernel
theorem dX2_firstPlaceOf_26 : decode cX2_firstPlaceOf 26 = .ok (.iconst (-1), 1) := by decide +kernel
theorem dX2_firstPlaceOf_27 : decode cX2_firstPlaceOf 27 = .ok (.ireturn, 1) := by decide +kernel
theorem dX2_mixedSquares_0 : decode cX2_mixedSquares 0 = .ok (.bipush 8, 2) := by decide +kernel
theorem dX2_mixedSquares_2 : decode cX2_mixedSquares 2 = .ok (.iload_n 2, 1) := by decide +kernel
theorem dX2_mixedSquares_3 : decode cX2_mixedSquares 3 = .ok (.ishr, 1) := by decide +kernel
theorem dX2_mixedSquares_4 : decode cX2_mixedSquares 4 = .ok (.istore_n 3, 1) := by decide +kernel
theorem dX2_mixedSquares_5 : decode cX2_mixedSquares 5 = .ok (.iconst 1, 1) := by decide +kernel
theorem dX2_mixedSquares_6 : decode cX2_mixedSquares 6 = .ok (.iload_n 2, 1) := by decide +kernel
theorem dX2_mixedSquares_7 : decode cX2_mixedSquares 7 = .ok (.ishl, 1) := by decide +kernel
theorem dX2_mixedSquares_8 : decode cX2_mixedSquares 8 = .ok (.istore 4, 2) := by decide +kernel
theorem dX2_mixedSquares_10 : decode cX2_mixedSquares 10 = .ok (.iconst 0, 1) := by decide +kernel
theorem dX2_mixedSquares_11 : decode cX2_mixedSquares 11 = .ok (.istore 5, 2) := by decide +kernel
theorem dX2_mixedSquares_13 : decode cX2_mixedSquares 13 = .ok (.iconst 0, 1) := by decide +kernel
theorem dX2_mixedSquares_14 : decode cX2_mixedSquares 14 = .ok (.istore 6, 2) := by decide +kernel
theorem dX2_mixedSquares_16 : decode cX2_mixedSquares 16 = .ok (.iload 6, 2) := by decide +kernel
theorem dX2_mixedSquares_18 : decode cX2_mixedSquares 18 = .ok (.iload_n 3, 1) := by decide +kernel
theorem dX2_mixedSquares_19 : decode cX2_mixedSquares 19 = .ok (.if_icmp .ge 68, 3) := by decide +kernel
theorem dX2_mixedSquares_22 : decode cX2_mixedSquares 22 = .ok (.iconst 0, 1) := by decide +kernel
theorem dX2_mixedSquares_23 : decode cX2_mixedSquares 23 = .ok (.istore 7, 2) := by decide +kernel
theorem dX2_mixedSquares_25 : decode cX2_mixedSquares 25 = .ok (.iload 7, 2) := by decide +kernel
theorem dX2_mixedSquares_27 : decode cX2_mixedSquares 27 = .ok (.iload_n 3, 1) := by decide +kernel
theorem dX2_mixedSquares_28 : decode cX2_mixedSquares 28 = .ok (.if_icmp .ge 53, 3) := by decide +kernel
theorem dX2_mixedSquares_31 : decode cX2_mixedSquares 31 = .ok (.aload_n 0, 1) := by decide +kernel
theorem dX2_mixedSquares_32 : decode cX2_mixedSquares 32 = .ok (.iload_n 1, 1) := by decide +kernel
theorem dX2_mixedSquares_33 : decode cX2_mixedSquares 33 = .ok (.bipush 8, 2) := by decide +kernel
theorem dX2_mixedSquares_35 : decode cX2_mixedSquares 35 = .ok (.iload 6, 2) := by decide +kernel
theorem dX2_mixedSquares_37 : decode cX2_mixedSquares 37 = .ok (.imul, 1) := by decide +kernel
theorem dX2_mixedSquares_38 : decode cX2_mixedSquares 38 = .ok (.iload 4, 2) := by decide +kernel
theorem dX2_mixedSquares_40 : decode cX2_mixedSquares 40 = .ok (.imul, 1) := by decide +kernel
theorem dX2_mixedSquares_41 : decode cX2_mixedSquares 41 = .ok (.iload 7, 2) := by decide +kernel
theorem dX2_mixedSquares_43 : decode cX2_mixedSquares 43 = .ok (.iload 4, 2) := by decide +kernel
theorem dX2_mixedSquares_45 : decode cX2_mixedSquares 45 = .ok (.imul, 1) := by decide +kernel
theorem dX2_mixedSquares_46 : decode cX2_mixedSquares 46 = .ok (.iadd, 1) := by decide +kernel
theorem dX2_mixedSquares_47 : decode cX2_mixedSquares 47 = .ok (.invokestatic 40, 3) := by decide +kernel
theorem dX2_mixedSquares_50 : decode cX2_mixedSquares 50 = .ok (.istore 8, 2) := by decide +kernel
theorem dX2_mixedSquares_52 : decode cX2_mixedSquares 52 = .ok (.aload_n 0, 1) := by decide +kernel
theorem dX2_mixedSquares_53 : decode cX2_mixedSquares 53 = .ok (.iload_n 1, 1) := by decide +kernel
theorem dX2_mixedSquares_54 : decode cX2_mixedSquares 54 = .ok (.iload 8, 2) := by decide +kernel
theorem dX2_mixedSquares_56 : decode cX2_mixedSquares 56 = .ok (.iload_n 2, 1) := by decide +kernel
theorem dX2_mixedSquares_57 : decode cX2_mixedSquares 57 = .ok (.iload 7, 2) := by decide +kernel
theorem dX2_mixedSquares_59 : decode cX2_mixedSquares 59 = .ok (.iload 6, 2) := by decide +kernel
theorem dX2_mixedSquares_61 : decode cX2_mixedSquares 61 = .ok (.invokestatic 36, 3) := by decide +kernel
theorem dX2_mixedSquares_64 : decode cX2_mixedSquares 64 = .ok (.iload 4, 2) := by decide +kernel
theorem dX2_mixedSquares_66 : decode cX2_mixedSquares 66 = .ok (.iload 4, 2) := by decide +kernel
theorem dX2_mixedSquares_68 : decode cX2_mixedSquares 68 = .ok (.imul, 1) := by decide +kernel
theorem dX2_mixedSquares_69 : decode cX2_mixedSquares 69 = .ok (.if_icmp .ge 6, 3) := by decide +kernel
theorem dX2_mixedSquares_72 : decode cX2_mixedSquares 72 = .ok (.iinc 5 1, 3) := by decide +kernel
theorem dX2_mixedSquares_75 : decode cX2_mixedSquares 75 = .ok (.iinc 7 1, 3) := by decide +kernel
theorem dX2_mixedSquares_78 : decode cX2_mixedSquares 78 = .ok (.goto (-53), 3) := by decide +kernel
theorem dX2_mixedSquares_81 : decode cX2_mixedSquares 81 = .ok (.iinc 6 1, 3) := by decide +kernel
theorem dX2_mixedSquares_84 : decode cX2_mixedSquares 84 = .ok (.goto (-68), 3) := by decide +kernel
theorem dX2_mixedSquares_87 : decode cX2_mixedSquares 87 = .ok (.iload 5, 2) := by decide +kernel
theorem dX2_mixedSquares_89 : decode cX2_mixedSquares 89 = .ok (.ireturn, 1) := by decide +kernel
theorem dX2_unlikeSpots_0 : decode cX2_unlikeSpots 0 = .ok (.iconst 0, 1) := by decide +kernel
theorem dX2_unlikeSpots_1 : decode cX2_unlikeSpots 1 = .ok (.istore_n 2, 1) := by decide +kernel
theorem dX2_unlikeSpots_2 : decode cX2_unlikeSpots 2 = .ok (.iconst 0, 1) := by decide +kernel
theorem dX2_unlikeSpots_3 : decode cX2_unlikeSpots 3 = .ok (.istore_n 3, 1) := by decide +kernel
theorem dX2_unlikeSpots_4 : decode cX2_unlikeSpots 4 = .ok (.iload_n 3, 1) := by decide +kernel
theorem dX2_unlikeSpots_5 : decode cX2_unlikeSpots 5 = .ok (.sipush 304, 3) := by decide +kernel
theorem dX2_unlikeSpots_8 : decode cX2_unlikeSpots 8 = .ok (.if_icmp .ge 25, 3) := by decide +kernel
theorem dX2_unlikeSpots_11 : decode cX2_unlikeSpots 11 = .ok (.aload_n 0, 1) := by decide +kernel
theorem dX2_unlikeSpots_12 : decode cX2_unlikeSpots 12 = .ok (.iload_n 3, 1) := by decide +kernel
theorem dX2_unlikeSpots_13 : decode cX2_unlikeSpots 13 = .ok (.invokestatic 27, 3) := by decide +kernel
theorem dX2_unlikeSpots_16 : decode cX2_unlikeSpots 16 = .ok (.aload_n 1, 1) := by decide +kernel
theorem dX2_unlikeSpots_17 : decode cX2_unlikeSpots 17 = .ok (.iload_n 3, 1) := by decide +kernel
theorem dX2_unlikeSpots_18 : decode cX2_unlikeSpots 18 = .ok (.invokestatic 27, 3) := by decide +kernel
theorem dX2_unlikeSpots_21 : decode cX2_unlikeSpots 21 = .ok (.if_icmp .eq 6, 3) := by decide +kernel
theorem dX2_unlikeSpots_24 : decode cX2_unlikeSpots 24 = .ok (.iinc 2 1, 3) := by decide +kernel
theorem dX2_unlikeSpots_27 : decode cX2_unlikeSpots 27 = .ok (.iinc 3 1, 3) := by decide +kernel
theorem dX2_unlikeSpots_30 : decode cX2_unlikeSpots 30 = .ok (.goto (-26), 3) := by decide +kernel
theorem dX2_unlikeSpots_33 : decode cX2_unlikeSpots 33 = .ok (.iload_n 2, 1) := by decide +kernel
theorem dX2_unlikeSpots_34 : decode cX2_unlikeSpots 34 = .ok (.ireturn, 1) := by decide +kernel
theorem dX3_init_0 : decode cX3_init 0 = .ok (.aload_n 0, 1) := by decide +kernel
theorem dX3_init_1 : decode cX3_init 1 = .ok (.invokespecial 3, 3) := by decide +kernel
theorem dX3_init_4 : decode cX3_init 4 = .ok (.aload_n 0, 1) := by decide +kernel
theorem dX3_init_5 : decode cX3_init 5 = .ok (.iconst 0, 1) := by decide +kernel
theorem dX3_init_6 : decode cX3_init 6 = .ok (.putfield 9, 3) := by decide +kernel
theorem dX3_init_9 : decode cX3_init 9 = .ok (.aload_n 0, 1) := by decide +kernel
theorem dX3_init_10 : decode cX3_init 10 = .ok (.bipush 41, 2) := by decide +kernel
theorem dX3_init_12 : decode cX3_init 12 = .ok (.anewarray 15, 3) := by decide +kernel
theorem dX3_init_15 : decode cX3_init 15 = .ok (.putfield 17, 3) := by decide +kernel
theorem dX3_init_18 : decode cX3_init 18 = .ok (.aload_n 0, 1) := by decide +kernel
theorem dX3_init_19 : decode cX3_init 19 = .ok (.bipush 40, 2) := by decide +kernel
theorem dX3_init_21 : decode cX3_init 21 = .ok (.newarray .int, 2) := by decide +kernel
theorem dX3_init_23 : decode cX3_init 23 = .ok (.putfield 21, 3) := by decide +kernel
theorem dX3_init_26 : decode cX3_init 26 = .ok (.aload_n 0, 1) := by decide +kernel
theorem dX3_init_27 : decode cX3_init 27 = .ok (.iconst 0, 1) := by decide +kernel
theorem dX3_init_28 : decode cX3_init 28 = .ok (.putfield 25, 3) := by decide +kernel
theorem dX3_init_31 : decode cX3_init 31 = .ok (.return_, 1) := by decide +kernel
theorem dX3_isFull_0 : decode cX3_isFull 0 = .ok (.aload_n 0, 1) := by decide +kernel
theorem dX3_isFull_1 : decode cX3_isFull 1 = .ok (.getfield 9, 3) := by decide +kernel
theorem dX3_isFull_4 : decode cX3_isFull 4 = .ok (.bipush 40, 2) := by decide +kernel
theorem dX3_isFull_6 : decode cX3_isFull 6 = .ok (.if_icmp .lt 7, 3) := by decide +kernel
theorem dX3_isFull_9 : decode cX3_isFull 9 = .ok (.iconst 1, 1) := by decide +kernel
theorem dX3_isFull_10 : decode cX3_isFull 10 = .ok (.goto 4, 3) := by decide +kernel
theorem dX3_isFull_13 : decode cX3_isFull 13 = .ok (.iconst 0, 1) := by decide +kernel
theorem dX3_isFull_14 : decode cX3_isFull 14 = .ok (.ireturn, 1) := by decide +kernel
theorem dX3_add_0 : decode cX3_add 0 = .ok (.aload_n 0, 1) := by decide +kernel
theorem dX3_add_1 : decode cX3_add 1 = .ok (.invokevirtual 28, 3) := by decide +kernel
theorem dX3_add_4 : decode cX3_add 4 = .ok (.ifCond .eq 4, 3) := by decide +kernel
theorem dX3_add_7 : decode cX3_add 7 = .ok (.return_, 1) := by decide +kernel
theorem dX3_add_8 : decode cX3_add 8 = .ok (.aload_n 0, 1) := by decide +kernel
theorem dX3_add_9 : decode cX3_add 9 = .ok (.dup, 1) := by decide +kernel
theorem dX3_add_10 : decode cX3_add 10 = .ok (.getfield 9, 3) := by decide +kernel
theorem dX3_add_13 : decode cX3_add 13 = .ok (.iconst 1, 1) := by decide +kernel
theorem dX3_add_14 : decode cX3_add 14 = .ok (.iadd, 1) := by decide +kernel
theorem dX3_add_15 : decode cX3_add 15 = .ok (.putfield 9, 3) := by decide +kernel
theorem dX3_add_18 : decode cX3_add 18 = .ok (.aload_n 0, 1) := by decide +kernel
theorem dX3_add_19 : decode cX3_add 19 = .ok (.getfield 17, 3) := by decide +kernel
theorem dX3_add_22 : decode cX3_add 22 = .ok (.aload_n 0, 1) := by decide +kernel
theorem dX3_add_23 : decode cX3_add 23 = .ok (.getfield 9, 3) := by decide +kernel
theorem dX3_add_26 : decode cX3_add 26 = .ok (.new 15, 3) := by decide +kernel
theorem dX3_add_29 : decode cX3_add 29 = .ok (.dup, 1) := by decide +kernel
theorem dX3_add_30 : decode cX3_add 30 = .ok (.aload_n 1, 1) := by decide +kernel
theorem dX3_add_31 : decode cX3_add 31 = .ok (.aload_n 2, 1) := by decide +kernel
theorem dX3_add_32 : decode cX3_add 32 = .ok (.invokespecial 32, 3) := by decide +kernel
theorem dX3_add_35 : decode cX3_add 35 = .ok (.aastore, 1) := by decide +kernel
theorem dX3_add_36 : decode cX3_add 36 = .ok (.return_, 1) := by decide +kernel
theorem dX3_rememberMerge_0 : decode cX3_rememberMerge 0 = .ok (.aload_n 0, 1) := by decide +kernel
theorem dX3_rememberMerge_1 : decode cX3_rememberMerge 1 = .ok (.getfield 25, 3) := by decide +kernel
theorem dX3_rememberMerge_4 : decode cX3_rememberMerge 4 = .ok (.bipush 40, 2) := by decide +kernel
theorem dX3_rememberMerge_6 : decode cX3_rememberMerge 6 = .ok (.if_icmp .ge 26, 3) := by decide +kernel
theorem dX3_rememberMerge_9 : decode cX3_rememberMerge 9 = .ok (.aload_n 0, 1) := by decide +kernel
theorem dX3_rememberMerge_10 : decode cX3_rememberMerge 10 = .ok (.getfield 21, 3) := by decide +kernel
theorem dX3_rememberMerge_13 : decode cX3_rememberMerge 13 = .ok (.aload_n 0, 1) := by decide +kernel
theorem dX3_rememberMerge_14 : decode cX3_rememberMerge 14 = .ok (.getfield 25, 3) := by decide +kernel
theorem dX3_rememberMerge_17 : decode cX3_rememberMerge 17 = .ok (.aload_n 0, 1) := by decide +kernel
theorem dX3_rememberMerge_18 : decode cX3_rememberMerge 18 = .ok (.getfield 9, 3) := by decide +kernel
theorem dX3_rememberMerge_21 : decode cX3_rememberMerge 21 = .ok (.iastore, 1) := by decide +kernel
theorem dX3_rememberMerge_22 : decode cX3_rememberMerge 22 = .ok (.aload_n 0, 1) := by decide +kernel
theorem dX3_rememberMerge_23 : decode cX3_rememberMerge 23 = .ok (.dup, 1) := by decide +kernel
theorem dX3_rememberMerge_24 : decode cX3_rememberMerge 24 = .ok (.getfield 25, 3) := by decide +kernel
theorem dX3_rememberMerge_27 : decode cX3_rememberMerge 27 = .ok (.iconst 1, 1) := by decide +kernel
theorem dX3_rememberMerge_28 : decode cX3_rememberMerge 28 = .ok (.iadd, 1) := by decide +kernel
theorem dX3_rememberMerge_29 : decode cX3_rememberMerge 29 = .ok (.putfield 25, 3) := by decide +kernel
theorem dX3_rememberMerge_32 : decode cX3_rememberMerge 32 = .ok (.return_, 1) := by decide +kernel
theorem dX3_forgetMerge_0 : decode cX3_forgetMerge 0 = .ok (.aload_n 0, 1) := by decide +kernel
theorem dX3_forgetMerge_1 : decode cX3_forgetMerge 1 = .ok (.getfield 25, 3) := by decide +kernel
theorem dX3_forgetMerge_4 : decode cX3_forgetMerge 4 = .ok (.ifCond .le 13, 3) := by decide +kernel
theorem dX3_forgetMerge_7 : decode cX3_forgetMerge 7 = .ok (.aload_n 0, 1) := by decide +kernel
theorem dX3_forgetMerge_8 : decode cX3_forgetMerge 8 = .ok (.dup, 1) := by decide +kernel
theorem dX3_forgetMerge_9 : decode cX3_forgetMerge 9 = .ok (.getfield 25, 3) := by decide +kernel
theorem dX3_forgetMerge_12 : decode cX3_forgetMerge 12 = .ok (.iconst 1, 1) := by decide +kernel
theorem dX3_forgetMerge_13 : decode cX3_forgetMerge 13 = .ok (.isub, 1) := by decide +kernel
theorem dX3_forgetMerge_14 : decode cX3_forgetMerge 14 = .ok (.putfield 25, 3) := by decide +kernel
theorem dX3_forgetMerge_17 : decode cX3_forgetMerge 17 = .ok (.return_, 1) := by decide +kernel
theorem dX3_lastMerge_0 : decode cX3_lastMerge 0 = .ok (.aload_n 0, 1) := by decide +kernel
theorem dX3_lastMerge_1 : decode cX3_lastMerge 1 = .ok (.getfield 25, 3) := by decide +kernel
theorem dX3_lastMerge_4 : decode cX3_lastMerge 4 = .ok (.ifCond .le 26, 3) := by decide +kernel
theorem dX3_lastMerge_7 : decode cX3_lastMerge 7 = .ok (.aload_n 0, 1) := by decide +kernel
theorem dX3_lastMerge_8 : decode cX3_lastMerge 8 = .ok (.getfield 25, 3) := by decide +kernel
theorem dX3_lastMerge_11 : decode cX3_lastMerge 11 = .ok (.bipush 40, 2) := by decide +kernel
theorem dX3_lastMerge_13 : decode cX3_lastMerge 13 = .ok (.if_icmp .gt 17, 3) := by decide +kernel
theorem dX3_lastMerge_16 : decode cX3_lastMerge 16 = .ok (.aload_n 0, 1) := by decide +kernel
theorem dX3_lastMerge_17 : decode cX3_lastMerge 17 = .ok (.getfield 21, 3) := by decide +kernel
theorem dX3_lastMerge_20 : decode cX3_lastMerge 20 = .ok (.aload_n 0, 1) := by decide +kernel
theorem dX3_lastMerge_21 : decode cX3_lastMerge 21 = .ok (.getfield 25, 3) := by decide +kernel
theorem dX3_lastMerge_24 : decode cX3_lastMerge 24 = .ok (.iconst 1, 1) := by decide +kernel
theorem dX3_lastMerge_25 : decode cX3_lastMerge 25 = .ok (.isub, 1) := by decide +kernel
theorem dX3_lastMerge_26 : decode cX3_lastMerge 26 = .ok (.iaload, 1) := by decide +kernel
theorem dX3_lastMerge_27 : decode cX3_lastMerge 27 = .ok (.goto 4, 3) := by decide +kernel
theorem dX3_lastMerge_30 : decode cX3_lastMerge 30 = .ok (.iconst (-1), 1) := by decide +kernel
theorem dX3_lastMerge_31 : decode cX3_lastMerge 31 = .ok (.ireturn, 1) := by decide +kernel
theorem dX3_broughtBy_0 : decode cX3_broughtBy 0 = .ok (.iload_n 1, 1) := by decide +kernel
theorem dX3_broughtBy_1 : decode cX3_broughtBy 1 = .ok (.ifCond .lt 9, 3) := by decide +kernel
theorem dX3_broughtBy_4 : decode cX3_broughtBy 4 = .ok (.iload_n 1, 1) := by decide +kernel
theorem dX3_broughtBy_5 : decode cX3_broughtBy 5 = .ok (.bipush 40, 2) := by decide +kernel
theorem dX3_broughtBy_7 : decode cX3_broughtBy 7 = .ok (.if_icmp .le 5, 3) := by decide +kernel
theorem dX3_broughtBy_10 : decode cX3_broughtBy 10 = .ok (.iconst (-1), 1) := by decide +kernel
theorem dX3_broughtBy_11 : decode cX3_broughtBy 11 = .ok (.ireturn, 1) := by decide +kernel
theorem dX3_broughtBy_12 : decode cX3_broughtBy 12 = .ok (.aload_n 0, 1) := by decide +kernel
theorem dX3_broughtBy_13 : decode cX3_broughtBy 13 = .ok (.getfield 17, 3) := by decide +kernel
theorem dX3_broughtBy_16 : decode cX3_broughtBy 16 = .ok (.iload_n 1, 1) := by decide +kernel
theorem dX3_broughtBy_17 : decode cX3_broughtBy 17 = .ok (.aaload, 1) := by decide +kernel
theorem dX3_broughtBy_18 : decode cX3_broughtBy 18 = .ok (.astore_n 3, 1) := by decide +kernel
theorem dX3_broughtBy_19 : decode cX3_broughtBy 19 = .ok (.aload_n 3, 1) := by decide +kernel
theorem dX3_broughtBy_20 : decode cX3_broughtBy 20 = .ok (.ifnonnull 7, 3) := by decide +kernel
theorem dX3_broughtBy_23 : decode cX3_broughtBy 23 = .ok (.iconst (-1), 1) := by decide +kernel
theorem dX3_broughtBy_24 : decode cX3_broughtBy 24 = .ok (.goto 9, 3) := by decide +kernel
theorem dX3_broughtBy_27 : decode cX3_broughtBy 27 = .ok (.aload_n 3, 1) := by decide +kernel
theorem dX3_broughtBy_28 : decode cX3_broughtBy 28 = .ok (.getfield 35, 3) := by decide +kernel
theorem dX3_broughtBy_31 : decode cX3_broughtBy 31 = .ok (.iload_n 2, 1) := by decide +kernel
theorem dX3_broughtBy_32 : decode cX3_broughtBy 32 = .ok (.iaload, 1) := by decide +kernel
theorem dX3_broughtBy_33 : decode cX3_broughtBy 33 = .ok (.ireturn, 1) := by decide +kernel
theorem dX3_valueAt_0 : decode cX3_valueAt 0 = .ok (.iload_n 2, 1) := by decide +kernel
theorem dX3_valueAt_1 : decode cX3_valueAt 1 = .ok (.istore_n 3, 1) := by decide +kernel
theorem dX3_valueAt_2 : decode cX3_valueAt 2 = .ok (.iload_n 3, 1) := by decide +kernel
theorem dX3_valueAt_3 : decode cX3_valueAt 3 = .ok (.ifCond .le 26, 3) := by decide +kernel
theorem dX3_valueAt_6 : decode cX3_valueAt 6 = .ok (.aload_n 0, 1) := by decide +kernel
theorem dX3_valueAt_7 : decode cX3_valueAt 7 = .ok (.iload_n 3, 1) := by decide +kernel
theorem dX3_valueAt_8 : decode cX3_valueAt 8 = .ok (.iload_n 1, 1) := by decide +kernel
theorem dX3_valueAt_9 : decode cX3_valueAt 9 = .ok (.invokevirtual 38, 3) := by decide +kernel
theorem dX3_valueAt_12 : decode cX3_valueAt 12 = .ok (.istore 4, 2) := by decide +kernel
theorem dX3_valueAt_14 : decode cX3_valueAt 14 = .ok (.iload 4, 2) := by decide +kernel
theorem dX3_valueAt_16 : decode cX3_valueAt 16 = .ok (.iconst (-1), 1) := by decide +kernel
theorem dX3_valueAt_17 : decode cX3_valueAt 17 = .ok (.if_icmp .eq 6, 3) := by decide +kernel
theorem dX3_valueAt_20 : decode cX3_valueAt 20 = .ok (.iload 4, 2) := by decide +kernel
theorem dX3_valueAt_22 : decode cX3_valueAt 22 = .ok (.ireturn, 1) := by decide +kernel
theorem dX3_valueAt_23 : decode cX3_valueAt 23 = .ok (.iinc 3 (-1), 3) := by decide +kernel
theorem dX3_valueAt_26 : decode cX3_valueAt 26 = .ok (.goto (-24), 3) := by decide +kernel
theorem dX3_valueAt_29 : decode cX3_valueAt 29 = .ok (.iconst 0, 1) := by decide +kernel
theorem dX3_valueAt_30 : decode cX3_valueAt 30 = .ok (.ireturn, 1) := by decide +kernel
theorem dX3_writeAt_0 : decode cX3_writeAt 0 = .ok (.iconst 0, 1) := by decide +kernel
theorem dX3_writeAt_1 : decode cX3_writeAt 1 = .ok (.istore_n 3, 1) := by decide +kernel
theorem dX3_writeAt_2 : decode cX3_writeAt 2 = .ok (.iload_n 3, 1) := by decide +kernel
theorem dX3_writeAt_3 : decode cX3_writeAt 3 = .ok (.sipush 304, 3) := by decide +kernel
theorem dX3_writeAt_6 : decode cX3_writeAt 6 = .ok (.if_icmp .ge 18, 3) := by decide +kernel
theorem dX3_writeAt_9 : decode cX3_writeAt 9 = .ok (.aload_n 2, 1) := by decide +kernel
theorem dX3_writeAt_10 : decode cX3_writeAt 10 = .ok (.iload_n 3, 1) := by decide +kernel
theorem dX3_writeAt_11 : decode cX3_writeAt 11 = .ok (.aload_n 0, 1) := by decide +kernel
theorem dX3_writeAt_12 : decode cX3_writeAt 12 = .ok (.iload_n 3, 1) := by decide +kernel
theorem dX3_writeAt_13 : decode cX3_writeAt 13 = .ok (.iload_n 1, 1) := by decide +kernel
theorem dX3_writeAt_14 : decode cX3_writeAt 14 = .ok (.invokevirtual 42, 3) := by decide +kernel
theorem dX3_writeAt_17 : decode cX3_writeAt 17 = .ok (.iastore, 1) := by decide +kernel
theorem dX3_writeAt_18 : decode cX3_writeAt 18 = .ok (.iinc 3 1, 3) := by decide +kernel
theorem dX3_writeAt_21 : decode cX3_writeAt 21 = .ok (.goto (-19), 3) := by decide +kernel
theorem dX3_writeAt_24 : decode cX3_writeAt 24 = .ok (.return_, 1) := by decide +kernel
theorem dX3_changeCount_0 : decode cX3_changeCount 0 = .ok (.iconst 0, 1) := by decide +kernel
theorem dX3_changeCount_1 : decode cX3_changeCount 1 = .ok (.istore_n 2, 1) := by decide +kernel
theorem dX3_changeCount_2 : decode cX3_changeCount 2 = .ok (.iconst 1, 1) := by decide +kernel
theorem dX3_changeCount_3 : decode cX3_changeCount 3 = .ok (.istore_n 3, 1) := by decide +kernel
theorem dX3_changeCount_4 : decode cX3_changeCount 4 = .ok (.iload_n 3, 1) := by decide +kernel
theorem dX3_changeCount_5 : decode cX3_changeCount 5 = .ok (.aload_n 0, 1) := by decide +kernel
theorem dX3_changeCount_6 : decode cX3_changeCount 6 = .ok (.getfield 9, 3) := by decide +kernel
theorem dX3_changeCount_9 : decode cX3_changeCount 9 = .ok (.if_icmp .gt 22, 3) := by decide +kernel
theorem dX3_changeCount_12 : decode cX3_changeCount 12 = .ok (.aload_n 0, 1) := by decide +kernel
theorem dX3_changeCount_13 : decode cX3_changeCount 13 = .ok (.iload_n 3, 1) := by decide +kernel
theorem dX3_changeCount_14 : decode cX3_changeCount 14 = .ok (.iload_n 1, 1) := by decide +kernel
theorem dX3_changeCount_15 : decode cX3_changeCount 15 = .ok (.invokevirtual 38, 3) := by decide +kernel
theorem dX3_changeCount_18 : decode cX3_changeCount 18 = .ok (.iconst (-1), 1) := by decide +kernel
theorem dX3_changeCount_19 : decode cX3_changeCount 19 = .ok (.if_icmp .eq 6, 3) := by decide +kernel
theorem dX3_changeCount_22 : decode cX3_changeCount 22 = .ok (.iinc 2 1, 3) := by decide +kernel
theorem dX3_changeCount_25 : decode cX3_changeCount 25 = .ok (.iinc 3 1, 3) := by decide +kernel
theorem dX3_changeCount_28 : decode cX3_changeCount 28 = .ok (.goto (-24), 3) := by decide +kernel
theorem dX3_changeCount_31 : decode cX3_changeCount 31 = .ok (.iload_n 2, 1) := by decide +kernel
theorem dX3_changeCount_32 : decode cX3_changeCount 32 = .ok (.ireturn, 1) := by decide +kernel
theorem dX3_changeAt_0 : decode cX3_changeAt 0 = .ok (.iconst 0, 1) := by decide +kernel
theorem dX3_changeAt_1 : decode cX3_changeAt 1 = .ok (.istore_n 3, 1) := by decide +kernel
theorem dX3_changeAt_2 : decode cX3_changeAt 2 = .ok (.iconst 1, 1) := by decide +kernel
theorem dX3_changeAt_3 : decode cX3_changeAt 3 = .ok (.istore 4, 2) := by decide +kernel
theorem dX3_changeAt_5 : decode cX3_changeAt 5 = .ok (.iload 4, 2) := by decide +kernel
theorem dX3_changeAt_7 : decode cX3_changeAt 7 = .ok (.aload_n 0, 1) := by decide +kernel
theorem dX3_changeAt_8 : decode cX3_changeAt 8 = .ok (.getfield 9, 3) := by decide +kernel
theorem dX3_changeAt_11 : decode cX3_changeAt 11 = .ok (.if_icmp .gt 31, 3) := by decide +kernel
theorem dX3_changeAt_14 : decode cX3_changeAt 14 = .ok (.aload_n 0, 1) := by decide +kernel
theorem dX3_changeAt_15 : decode cX3_changeAt 15 = .ok (.iload 4, 2) := by decide +kernel
theorem dX3_changeAt_17 : decode cX3_changeAt 17 = .ok (.iload_n 1, 1) := by decide +kernel
theorem dX3_changeAt_18 : decode cX3_changeAt 18 = .ok (.invokevirtual 38, 3) := by decide +kernel
theorem dX3_changeAt_21 : decode cX3_changeAt 21 = .ok (.iconst (-1), 1) := by decide +kernel
theorem dX3_changeAt_22 : decode cX3_changeAt 22 = .ok (.if_icmp .eq 14, 3) := by decide +kernel
theorem dX3_changeAt_25 : decode cX3_changeAt 25 = .ok (.iload_n 3, 1) := by decide +kernel
theorem dX3_changeAt_26 : decode cX3_changeAt 26 = .ok (.iload_n 2, 1) := by decide +kernel
theorem dX3_changeAt_27 : decode cX3_changeAt 27 = .ok (.if_icmp .ne 6, 3) := by decide +kernel
theorem dX3_changeAt_30 : decode cX3_changeAt 30 = .ok (.iload 4, 2) := by decide +kernel
theorem dX3_changeAt_32 : decode cX3_changeAt 32 = .ok (.ireturn, 1) := by decide +kernel
theorem dX3_changeAt_33 : decode cX3_changeAt 33 = .ok (.iinc 3 1, 3) := by decide +kernel
theorem dX3_changeAt_36 : decode cX3_changeAt 36 = .ok (.iinc 4 1, 3) := by decide +kernel
theorem dX3_changeAt_39 : decode cX3_changeAt 39 = .ok (.goto (-34), 3) := by decide +kernel
theorem dX3_changeAt_42 : decode cX3_changeAt 42 = .ok (.iconst (-1), 1) := by decide +kernel
theorem dX3_changeAt_43 : decode cX3_changeAt 43 = .ok (.ireturn, 1) := by decide +kernel
theorem dX4_init_0 : decode cX4_init 0 = .ok (.aload_n 0, 1) := by decide +kernel
theorem dX4_init_1 : decode cX4_init 1 = .ok (.invokespecial 3, 3) := by decide +kernel
theorem dX4_init_4 : decode cX4_init 4 = .ok (.aload_n 0, 1) := by decide +kernel
theorem dX4_init_5 : decode cX4_init 5 = .ok (.bipush 64, 2) := by decide +kernel
theorem dX4_init_7 : decode cX4_init 7 = .ok (.newarray .int, 2) := by decide +kernel
theorem dX4_init_9 : decode cX4_init 9 = .ok (.putfield 9, 3) := by decide +kernel
theorem dX4_init_12 : decode cX4_init 12 = .ok (.return_, 1) := by decide +kernel
theorem dX4_holds_0 : decode cX4_holds 0 = .ok (.aload_n 1, 1) := by decide +kernel
theorem dX4_holds_1 : decode cX4_holds 1 = .ok (.getfield 15, 3) := by decide +kernel
theorem dX4_holds_4 : decode cX4_holds 4 = .ok (.bipush 119, 2) := by decide +kernel
theorem dX4_holds_6 : decode cX4_holds 6 = .ok (.if_icmp .ne 12, 3) := by decide +kernel
theorem dX4_holds_9 : decode cX4_holds 9 = .ok (.aload_n 0, 1) := by decide +kernel
theorem dX4_holds_10 : decode cX4_holds 10 = .ok (.aload_n 2, 1) := by decide +kernel
theorem dX4_holds_11 : decode cX4_holds 11 = .ok (.aload_n 1, 1) := by decide +kernel
theorem dX4_holds_12 : decode cX4_holds 12 = .ok (.getfield 21, 3) := by decide +kernel
theorem dX4_holds_15 : decode cX4_holds 15 = .ok (.invokevirtual 25, 3) := by decide +kernel
theorem dX4_holds_18 : decode cX4_holds 18 = .ok (.iconst 0, 1) := by decide +kernel
theorem dX4_holds_19 : decode cX4_holds 19 = .ok (.istore_n 3, 1) := by decide +kernel
theorem dX4_holds_20 : decode cX4_holds 20 = .ok (.iload_n 3, 1) := by decide +kernel
theorem dX4_holds_21 : decode cX4_holds 21 = .ok (.bipush 64, 2) := by decide +kernel
theorem dX4_holds_23 : decode cX4_holds 23 = .ok (.if_icmp .ge 21, 3) := by decide +kernel
theorem dX4_holds_26 : decode cX4_holds 26 = .ok (.aload_n 0, 1) := by decide +kernel
theorem dX4_holds_27 : decode cX4_holds 27 = .ok (.aload_n 1, 1) := by decide +kernel
theorem dX4_holds_28 : decode cX4_holds 28 = .ok (.aload_n 2, 1) := by decide +kernel
theorem dX4_holds_29 : decode cX4_holds 29 = .ok (.iload_n 3, 1) := by decide +kernel
theorem dX4_holds_30 : decode cX4_holds 30 = .ok (.invokevirtual 29, 3) := by decide +kernel
theorem dX4_holds_33 : decode cX4_holds 33 = .ok (.ifCond .eq 5, 3) := by decide +kernel
theorem dX4_holds_36 : decode cX4_holds 36 = .ok (.iconst 0, 1) := by decide +kernel
theorem dX4_holds_37 : decode cX4_holds 37 = .ok (.ireturn, 1) := by decide +kernel
theorem dX4_holds_38 : decode cX4_holds 38 = .ok (.iinc 3 1, 3) := by decide +kernel
theorem dX4_holds_41 : decode cX4_holds 41 = .ok (.goto (-21), 3) := by decide +kernel
theorem dX4_holds_44 : decode cX4_holds 44 = .ok (.iconst 1, 1) := by decide +kernel
theorem dX4_holds_45 : decode cX4_holds 45 = .ok (.ireturn, 1) := by decide +kernel
theorem dX4_isBrokenAt_0 : decode cX4_isBrokenAt 0 = .ok (.iconst 0, 1) := by decide +kernel
theorem dX4_isBrokenAt_1 : decode cX4_isBrokenAt 1 = .ok (.istore 4, 2) := by decide +kernel
theorem dX4_isBrokenAt_3 : decode cX4_isBrokenAt 3 = .ok (.iconst 0, 1) := by decide +kernel
theorem dX4_isBrokenAt_4 : decode cX4_isBrokenAt 4 = .ok (.istore 5, 2) := by decide +kernel
theorem dX4_isBrokenAt_6 : decode cX4_isBrokenAt 6 = .ok (.iload 5, 2) := by decide +kernel
theorem dX4_isBrokenAt_8 : decode cX4_isBrokenAt 8 = .ok (.bipush 64, 2) := by decide +kernel
theorem dX4_isBrokenAt_10 : decode cX4_isBrokenAt 10 = .ok (.if_icmp .ge 24, 3) := by decide +kernel
theorem dX4_isBrokenAt_13 : decode cX4_isBrokenAt 13 = .ok (.aload_n 0, 1) := by decide +kernel
theorem dX4_isBrokenAt_14 : decode cX4_isBrokenAt 14 = .ok (.aload_n 1, 1) := by decide +kernel
theorem dX4_isBrokenAt_15 : decode cX4_isBrokenAt 15 = .ok (.aload_n 2, 1) := by decide +kernel
theorem dX4_isBrokenAt_16 : decode cX4_isBrokenAt 16 = .ok (.iload_n 3, 1) := by decide +kernel
theorem dX4_isBrokenAt_17 : decode cX4_isBrokenAt 17 = .ok (.iload 5, 2) := by decide +kernel
theorem dX4_isBrokenAt_19 : decode cX4_isBrokenAt 19 = .ok (.invokevirtual 33, 3) := by decide +kernel
theorem dX4_isBrokenAt_22 : decode cX4_isBrokenAt 22 = .ok (.ifCond .eq 6, 3) := by decide +kernel
theorem dX4_isBrokenAt_25 : decode cX4_isBrokenAt 25 = .ok (.iinc 4 1, 3) := by decide +kernel
theorem dX4_isBrokenAt_28 : decode cX4_isBrokenAt 28 = .ok (.iinc 5 1, 3) := by decide +kernel
theorem dX4_isBrokenAt_31 : decode cX4_isBrokenAt 31 = .ok (.goto (-25), 3) := by decide +kernel
theorem dX4_isBrokenAt_34 : decode cX4_isBrokenAt 34 = .ok (.aload_n 1, 1) := by decide +kernel
theorem dX4_isBrokenAt_35 : decode cX4_isBrokenAt 35 = .ok (.getfield 15, 3) := by decide +kernel
theorem dX4_isBrokenAt_38 : decode cX4_isBrokenAt 38 = .ok (.bipush 109, 2) := by decide +kernel
theorem dX4_isBrokenAt_40 : decode cX4_isBrokenAt 40 = .ok (.if_icmp .ne 22, 3) := by decide +kernel
theorem dX4_isBrokenAt_43 : decode cX4_isBrokenAt 43 = .ok (.iload_n 3, 1) := by decide +kernel
theorem dX4_isBrokenAt_44 : decode cX4_isBrokenAt 44 = .ok (.invokestatic 37, 3) := by decide +kernel
theorem dX4_isBrokenAt_47 : decode cX4_isBrokenAt 47 = .ok (.ifCond .ne 13, 3) := by decide +kernel
theorem dX4_isBrokenAt_50 : decode cX4_isBrokenAt 50 = .ok (.iload 4, 2) := by decide +kernel
theorem dX4_isBrokenAt_52 : decode cX4_isBrokenAt 52 = .ok (.iconst 1, 1) := by decide +kernel
theorem dX4_isBrokenAt_53 : decode cX4_isBrokenAt 53 = .ok (.if_icmp .ne 7, 3) := by decide +kernel
theorem dX4_isBrokenAt_56 : decode cX4_isBrokenAt 56 = .ok (.iconst 1, 1) := by decide +kernel
theorem dX4_isBrokenAt_57 : decode cX4_isBrokenAt 57 = .ok (.goto 4, 3) := by decide +kernel
theorem dX4_isBrokenAt_60 : decode cX4_isBrokenAt 60 = .ok (.iconst 0, 1) := by decide +kernel
theorem dX4_isBrokenAt_61 : decode cX4_isBrokenAt 61 = .ok (.ireturn, 1) := by decide +kernel
theorem dX4_isBrokenAt_62 : decode cX4_isBrokenAt 62 = .ok (.aload_n 2, 1) := by decide +kernel
theorem dX4_isBrokenAt_63 : decode cX4_isBrokenAt 63 = .ok (.aload_n 1, 1) := by decide +kernel
theorem dX4_isBrokenAt_64 : decode cX4_isBrokenAt 64 = .ok (.getfield 21, 3) := by decide +kernel
theorem dX4_isBrokenAt_67 : decode cX4_isBrokenAt 67 = .ok (.iload_n 3, 1) := by decide +kernel
theorem dX4_isBrokenAt_68 : decode cX4_isBrokenAt 68 = .ok (.invokestatic 43, 3) := by decide +kernel
theorem dX4_isBrokenAt_71 : decode cX4_isBrokenAt 71 = .ok (.ifCond .eq 7, 3) := by decide +kernel
theorem dX4_isBrokenAt_74 : decode cX4_isBrokenAt 74 = .ok (.iconst 1, 1) := by decide +kernel
theorem dX4_isBrokenAt_75 : decode cX4_isBrokenAt 75 = .ok (.goto 4, 3) := by decide +kernel
theorem dX4_isBrokenAt_78 : decode cX4_isBrokenAt 78 = .ok (.iconst 0, 1) := by decide +kernel
theorem dX4_isBrokenAt_79 : decode cX4_isBrokenAt 79 = .ok (.istore 5, 2) := by decide +kernel
theorem dX4_isBrokenAt_81 : decode cX4_isBrokenAt 81 = .ok (.aload_n 1, 1) := by decide +kernel
theorem dX4_isBrokenAt_82 : decode cX4_isBrokenAt 82 = .ok (.getfield 15, 3) := by decide +kernel
theorem dX4_isBrokenAt_85 : decode cX4_isBrokenAt 85 = .ok (.bipush 103, 2) := by decide +kernel
theorem dX4_isBrokenAt_87 : decode cX4_isBrokenAt 87 = .ok (.if_icmp .ne 19, 3) := by decide +kernel
theorem dX4_isBrokenAt_90 : decode cX4_isBrokenAt 90 = .ok (.iload 5, 2) := by decide +kernel
theorem dX4_isBrokenAt_92 : decode cX4_isBrokenAt 92 = .ok (.ifCond .ne 12, 3) := by decide +kernel
theorem dX4_isBrokenAt_95 : decode cX4_isBrokenAt 95 = .ok (.iload 4, 2) := by decide +kernel
theorem dX4_isBrokenAt_97 : decode cX4_isBrokenAt 97 = .ok (.ifCond .ne 7, 3) := by decide +kernel
theorem dX4_isBrokenAt_100 : decode cX4_isBrokenAt 100 = .ok (.iconst 1, 1) := by decide +kernel
theorem dX4_isBrokenAt_101 : decode cX4_isBrokenAt 101 = .ok (.goto 4, 3) := by decide +kernel
theorem dX4_isBrokenAt_104 : decode cX4_isBrokenAt 104 = .ok (.iconst 0, 1) := by decide +kernel
theorem dX4_isBrokenAt_105 : decode cX4_isBrokenAt 105 = .ok (.ireturn, 1) := by decide +kernel
theorem dX4_isBrokenAt_106 : decode cX4_isBrokenAt 106 = .ok (.iload 5, 2) := by decide +kernel
theorem dX4_isBrokenAt_108 : decode cX4_isBrokenAt 108 = .ok (.ifCond .eq 29, 3) := by decide +kernel
theorem dX4_isBrokenAt_111 : decode cX4_isBrokenAt 111 = .ok (.aload_n 1, 1) := by decide +kernel
theorem dX4_isBrokenAt_112 : decode cX4_isBrokenAt 112 = .ok (.getfield 15, 3) := by decide +kernel
theorem dX4_isBrokenAt_115 : decode cX4_isBrokenAt 115 = .ok (.bipush 99, 2) := by decide +kernel
theorem dX4_isBrokenAt_117 : decode cX4_isBrokenAt 117 = .ok (.if_icmp .ne 11, 3) := by decide +kernel
theorem dX4_isBrokenAt_120 : decode cX4_isBrokenAt 120 = .ok (.iload 4, 2) := by decide +kernel
theorem dX4_isBrokenAt_122 : decode cX4_isBrokenAt 122 = .ok (.ifCond .ne 15, 3) := by decide +kernel
theorem dX4_isBrokenAt_125 : decode cX4_isBrokenAt 125 = .ok (.goto 8, 3) := by decide +kernel
theorem dX4_isBrokenAt_128 : decode cX4_isBrokenAt 128 = .ok (.iload 4, 2) := by decide +kernel
theorem dX4_isBrokenAt_130 : decode cX4_isBrokenAt 130 = .ok (.ifCond .le 7, 3) := by decide +kernel
theorem dX4_isBrokenAt_133 : decode cX4_isBrokenAt 133 = .ok (.iconst 1, 1) := by decide +kernel
theorem dX4_isBrokenAt_134 : decode cX4_isBrokenAt 134 = .ok (.goto 4, 3) := by decide +kernel
theorem dX4_isBrokenAt_137 : decode cX4_isBrokenAt 137 = .ok (.iconst 0, 1) := by decide +kernel
theorem dX4_isBrokenAt_138 : decode cX4_isBrokenAt 138 = .ok (.ireturn, 1) := by decide +kernel
theorem dX4_isPartner_0 : decode cX4_isPartner 0 = .ok (.aload_n 1, 1) := by decide +kernel
theorem dX4_isPartner_1 : decode cX4_isPartner 1 = .ok (.getfield 15, 3) := by decide +kernel
theorem dX4_isPartner_4 : decode cX4_isPartner 4 = .ok (.bipush 109, 2) := by decide +kernel
theorem dX4_isPartner_6 : decode cX4_isPartner 6 = .ok (.if_icmp .ne 11, 3) := by decide +kernel
theorem dX4_isPartner_9 : decode cX4_isPartner 9 = .ok (.aload_n 2, 1) := by decide +kernel
theorem dX4_isPartner_10 : decode cX4_isPartner 10 = .ok (.iload_n 3, 1) := by decide +kernel
theorem dX4_isPartner_11 : decode cX4_isPartner 11 = .ok (.iload 4, 2) := by decide +kernel
theorem dX4_isPartner_13 : decode cX4_isPartner 13 = .ok (.invokestatic 47, 3) := by decide +kernel
theorem dX4_isPartner_16 : decode cX4_isPartner 16 = .ok (.ireturn, 1) := by decide +kernel
theorem dX4_isPartner_17 : decode cX4_isPartner 17 = .ok (.aload_n 1, 1) := by decide +kernel
theorem dX4_isPartner_18 : decode cX4_isPartner 18 = .ok (.getfield 15, 3) := by decide +kernel
theorem dX4_isPartner_21 : decode cX4_isPartner 21 = .ok (.bipush 103, 2) := by decide +kernel
theorem dX4_isPartner_23 : decode cX4_isPartner 23 = .ok (.if_icmp .ne 31, 3) := by decide +kernel
theorem dX4_isPartner_26 : decode cX4_isPartner 26 = .ok (.iload_n 3, 1) := by decide +kernel
theorem dX4_isPartner_27 : decode cX4_isPartner 27 = .ok (.iload 4, 2) := by decide +kernel
theorem dX4_isPartner_29 : decode cX4_isPartner 29 = .ok (.invokestatic 51, 3) := by decide +kernel
theorem dX4_isPartner_32 : decode cX4_isPartner 32 = .ok (.ifCond .eq 20, 3) := by decide +kernel
theorem dX4_isPartner_35 : decode cX4_isPartner 35 = .ok (.aload_n 2, 1) := by decide +kernel
theorem dX4_isPartner_36 : decode cX4_isPartner 36 = .ok (.aload_n 1, 1) := by decide +kernel
theorem dX4_isPartner_37 : decode cX4_isPartner 37 = .ok (.getfield 21, 3) := by decide +kernel
theorem dX4_isPartner_40 : decode cX4_isPartner 40 = .ok (.iload 4, 2) := by decide +kernel
theorem dX4_isPartner_42 : decode cX4_isPartner 42 = .ok (.invokestatic 43, 3) := by decide +kernel
theorem dX4_isPartner_45 : decode cX4_isPartner 45 = .ok (.ifCond .ne 7, 3) := by decide +kernel
theorem dX4_isPartner_48 : decode cX4_isPartner 48 = .ok (.iconst 1, 1) := by decide +kernel
theorem dX4_isPartner_49 : decode cX4_isPartner 49 = .ok (.goto 4, 3) := by decide +kernel
theorem dX4_isPartner_52 : decode cX4_isPartner 52 = .ok (.iconst 0, 1) := by decide +kernel
theorem dX4_isPartner_53 : decode cX4_isPartner 53 = .ok (.ireturn, 1) := by decide +kernel
theorem dX4_isPartner_54 : decode cX4_isPartner 54 = .ok (.aload_n 1, 1) := by decide +kernel
theorem dX4_isPartner_55 : decode cX4_isPartner 55 = .ok (.getfield 15, 3) := by decide +kernel
theorem dX4_isPartner_58 : decode cX4_isPartner 58 = .ok (.bipush 119, 2) := by decide +kernel
theorem dX4_isPartner_60 : decode cX4_isPartner 60 = .ok (.if_icmp .ne 39, 3) := by decide +kernel
theorem dX4_isPartner_63 : decode cX4_isPartner 63 = .ok (.aload_n 2, 1) := by decide +kernel
theorem dX4_isPartner_64 : decode cX4_isPartner 64 = .ok (.aload_n 1, 1) := by decide +kernel
theorem dX4_isPartner_65 : decode cX4_isPartner 65 = .ok (.getfield 21, 3) := by decide +kernel
theorem dX4_isPartner_68 : decode cX4_isPartner 68 = .ok (.iload_n 3, 1) := by decide +kernel
theorem dX4_isPartner_69 : decode cX4_isPartner 69 = .ok (.iload 4, 2) := by decide +kernel
theorem dX4_isPartner_71 : decode cX4_isPartner 71 = .ok (.invokestatic 55, 3) := by decide +kernel
theorem dX4_isPartner_74 : decode cX4_isPartner 74 = .ok (.ifCond .eq 23, 3) := by decide +kernel
theorem dX4_isPartner_77 : decode cX4_isPartner 77 = .ok (.aload_n 0, 1) := by decide +kernel
theorem dX4_isPartner_78 : decode cX4_isPartner 78 = .ok (.getfield 9, 3) := by decide +kernel
theorem dX4_isPartner_81 : decode cX4_isPartner 81 = .ok (.iload_n 3, 1) := by decide +kernel
theorem dX4_isPartner_82 : decode cX4_isPartner 82 = .ok (.iaload, 1) := by decide +kernel
theorem dX4_isPartner_83 : decode cX4_isPartner 83 = .ok (.aload_n 0, 1) := by decide +kernel
theorem dX4_isPartner_84 : decode cX4_isPartner 84 = .ok (.getfield 9, 3) := by decide +kernel
theorem dX4_isPartner_87 : decode cX4_isPartner 87 = .ok (.iload 4, 2) := by decide +kernel
theorem dX4_isPartner_89 : decode cX4_isPartner 89 = .ok (.iaload, 1) := by decide +kernel
theorem dX4_isPartner_90 : decode cX4_isPartner 90 = .ok (.if_icmp .eq 7, 3) := by decide +kernel
theorem dX4_isPartner_93 : decode cX4_isPartner 93 = .ok (.iconst 1, 1) := by decide +kernel
theorem dX4_isPartner_94 : decode cX4_isPartner 94 = .ok (.goto 4, 3) := by decide +kernel
theorem dX4_isPartner_97 : decode cX4_isPartner 97 = .ok (.iconst 0, 1) := by decide +kernel
theorem dX4_isPartner_98 : decode cX4_isPartner 98 = .ok (.ireturn, 1) := by decide +kernel
theorem dX4_isPartner_99 : decode cX4_isPartner 99 = .ok (.iload_n 3, 1) := by decide +kernel
theorem dX4_isPartner_100 : decode cX4_isPartner 100 = .ok (.iload 4, 2) := by decide +kernel
theorem dX4_isPartner_102 : decode cX4_isPartner 102 = .ok (.if_icmp .ne 20, 3) := by decide +kernel
theorem dX4_isPartner_105 : decode cX4_isPartner 105 = .ok (.aload_n 2, 1) := by decide +kernel
theorem dX4_isPartner_106 : decode cX4_isPartner 106 = .ok (.aload_n 1, 1) := by decide +kernel
theorem dX4_isPartner_107 : decode cX4_isPartner 107 = .ok (.getfield 59, 3) := by decide +kernel
theorem dX4_isPartner_110 : decode cX4_isPartner 110 = .ok (.iload 4, 2) := by decide +kernel
theorem dX4_isPartner_112 : decode cX4_isPartner 112 = .ok (.invokestatic 43, 3) := by decide +kernel
theorem dX4_isPartner_115 : decode cX4_isPartner 115 = .ok (.ifCond .eq 7, 3) := by decide +kernel
theorem dX4_isPartner_118 : decode cX4_isPartner 118 = .ok (.iconst 1, 1) := by decide +kernel
theorem dX4_isPartner_119 : decode cX4_isPartner 119 = .ok (.goto 4, 3) := by decide +kernel
theorem dX4_isPartner_122 : decode cX4_isPartner 122 = .ok (.iconst 0, 1) := by decide +kernel
theorem dX4_isPartner_123 : decode cX4_isPartner 123 = .ok (.ireturn, 1) := by decide +kernel
theorem dX4_gatherGroups_0 : decode cX4_gatherGroups 0 = .ok (.iconst 0, 1) := by decide +kernel
theorem dX4_gatherGroups_1 : decode cX4_gatherGroups 1 = .ok (.istore_n 3, 1) := by decide +kernel
theorem dX4_gatherGroups_2 : decode cX4_gatherGroups 2 = .ok (.iload_n 3, 1) := by decide +kernel
theorem dX4_gatherGroups_3 : decode cX4_gatherGroups 3 = .ok (.bipush 64, 2) := by decide +kernel
theorem dX4_gatherGroups_5 : decode cX4_gatherGroups 5 = .ok (.if_icmp .ge 16, 3) := by decide +kernel
theorem dX4_gatherGroups_8 : decode cX4_gatherGroups 8 = .ok (.aload_n 0, 1) := by decide +kernel
theorem dX4_gatherGroups_9 : decode cX4_gatherGroups 9 = .ok (.getfield 9, 3) := by decide +kernel
theorem dX4_gatherGroups_12 : decode cX4_gatherGroups 12 = .ok (.iload_n 3, 1) := by decide +kernel
theorem dX4_gatherGroups_13 : decode cX4_gatherGroups 13 = .ok (.iload_n 3, 1) := by decide +kernel
theorem dX4_gatherGroups_14 : decode cX4_gatherGroups 14 = .ok (.iastore, 1) := by decide +kernel
theorem dX4_gatherGroups_15 : decode cX4_gatherGroups 15 = .ok (.iinc 3 1, 3) := by decide +kernel
theorem dX4_gatherGroups_18 : decode cX4_gatherGroups 18 = .ok (.goto (-16), 3) := by decide +kernel
theorem dX4_gatherGroups_21 : decode cX4_gatherGroups 21 = .ok (.iconst 0, 1) := by decide +kernel
theorem dX4_gatherGroups_22 : decode cX4_gatherGroups 22 = .ok (.istore_n 3, 1) := by decide +kernel
theorem dX4_gatherGroups_23 : decode cX4_gatherGroups 23 = .ok (.iload_n 3, 1) := by decide +kernel
theorem dX4_gatherGroups_24 : decode cX4_gatherGroups 24 = .ok (.bipush 64, 2) := by decide +kernel
theorem dX4_gatherGroups_26 : decode cX4_gatherGroups 26 = .ok (.if_icmp .ge 61, 3) := by decide +kernel
theorem dX4_gatherGroups_29 : decode cX4_gatherGroups 29 = .ok (.iconst 0, 1) := by decide +kernel
theorem dX4_gatherGroups_30 : decode cX4_gatherGroups 30 = .ok (.istore 4, 2) := by decide +kernel
theorem dX4_gatherGroups_32 : decode cX4_gatherGroups 32 = .ok (.iload 4, 2) := by decide +kernel
theorem dX4_gatherGroups_34 : decode cX4_gatherGroups 34 = .ok (.iload_n 3, 1) := by decide +kernel
theorem dX4_gatherGroups_35 : decode cX4_gatherGroups 35 = .ok (.if_icmp .ge 46, 3) := by decide +kernel
theorem dX4_gatherGroups_38 : decode cX4_gatherGroups 38 = .ok (.iload_n 3, 1) := by decide +kernel
theorem dX4_gatherGroups_39 : decode cX4_gatherGroups 39 = .ok (.iload 4, 2) := by decide +kernel
theorem dX4_gatherGroups_41 : decode cX4_gatherGroups 41 = .ok (.invokestatic 51, 3) := by decide +kernel
theorem dX4_gatherGroups_44 : decode cX4_gatherGroups 44 = .ok (.ifCond .eq 31, 3) := by decide +kernel
theorem dX4_gatherGroups_47 : decode cX4_gatherGroups 47 = .ok (.aload_n 1, 1) := by decide +kernel
theorem dX4_gatherGroups_48 : decode cX4_gatherGroups 48 = .ok (.iload_n 2, 1) := by decide +kernel
theorem dX4_gatherGroups_49 : decode cX4_gatherGroups 49 = .ok (.iload_n 3, 1) := by decide +kernel
theorem dX4_gatherGroups_50 : decode cX4_gatherGroups 50 = .ok (.iload 4, 2) := by decide +kernel
theorem dX4_gatherGroups_52 : decode cX4_gatherGroups 52 = .ok (.invokestatic 55, 3) := by decide +kernel
theorem dX4_gatherGroups_55 : decode cX4_gatherGroups 55 = .ok (.ifCond .eq 20, 3) := by decide +kernel
theorem dX4_gatherGroups_58 : decode cX4_gatherGroups 58 = .ok (.aload_n 0, 1) := by decide +kernel
theorem dX4_gatherGroups_59 : decode cX4_gatherGroups 59 = .ok (.aload_n 0, 1) := by decide +kernel
theorem dX4_gatherGroups_60 : decode cX4_gatherGroups 60 = .ok (.getfield 9, 3) := by decide +kernel
theorem dX4_gatherGroups_63 : decode cX4_gatherGroups 63 = .ok (.iload_n 3, 1) := by decide +kernel
theorem dX4_gatherGroups_64 : decode cX4_gatherGroups 64 = .ok (.iaload, 1) := by decide +kernel
theorem dX4_gatherGroups_65 : decode cX4_gatherGroups 65 = .ok (.aload_n 0, 1) := by decide +kernel
theorem dX4_gatherGroups_66 : decode cX4_gatherGroups 66 = .ok (.getfield 9, 3) := by decide +kernel
theorem dX4_gatherGroups_69 : decode cX4_gatherGroups 69 = .ok (.iload 4, 2) := by decide +kernel
theorem dX4_gatherGroups_71 : decode cX4_gatherGroups 71 = .ok (.iaload, 1) := by decide +kernel
theorem dX4_gatherGroups_72 : decode cX4_gatherGroups 72 = .ok (.invokevirtual 62, 3) := by decide +kernel
theorem dX4_gatherGroups_75 : decode cX4_gatherGroups 75 = .ok (.iinc 4 1, 3) := by decide +kernel
theorem dX4_gatherGroups_78 : decode cX4_gatherGroups 78 = .ok (.goto (-46), 3) := by decide +kernel
theorem dX4_gatherGroups_81 : decode cX4_gatherGroups 81 = .ok (.iinc 3 1, 3) := by decide +kernel
theorem dX4_gatherGroups_84 : decode cX4_gatherGroups 84 = .ok (.goto (-61), 3) := by decide +kernel
theorem dX4_gatherGroups_87 : decode cX4_gatherGroups 87 = .ok (.return_, 1) := by decide +kernel
theorem dX4_isLike_0 : decode cX4_isLike 0 = .ok (.aload_n 0, 1) := by decide +kernel
theorem dX4_isLike_1 : decode cX4_isLike 1 = .ok (.iload_n 1, 1) := by decide +kernel
theorem dX4_isLike_2 : decode cX4_isLike 2 = .ok (.iload_n 2, 1) := by decide +kernel
theorem dX4_isLike_3 : decode cX4_isLike 3 = .ok (.invokestatic 43, 3) := by decide +kernel
theorem dX4_isLike_6 : decode cX4_isLike 6 = .ok (.aload_n 0, 1) := by decide +kernel
theorem dX4_isLike_7 : decode cX4_isLike 7 = .ok (.iload_n 1, 1) := by decide +kernel
theorem dX4_isLike_8 : decode cX4_isLike 8 = .ok (.iload_n 3, 1) := by decide +kernel
theorem dX4_isLike_9 : decode cX4_isLike 9 = .ok (.invokestatic 43, 3) := by decide +kernel
theorem dX4_isLike_12 : decode cX4_isLike 12 = .ok (.if_icmp .ne 7, 3) := by decide +kernel
theorem dX4_isLike_15 : decode cX4_isLike 15 = .ok (.iconst 1, 1) := by decide +kernel
theorem dX4_isLike_16 : decode cX4_isLike 16 = .ok (.goto 4, 3) := by decide +kernel
theorem dX4_isLike_19 : decode cX4_isLike 19 = .ok (.iconst 0, 1) := by decide +kernel
theorem dX4_isLike_20 : decode cX4_isLike 20 = .ok (.ireturn, 1) := by decide +kernel
theorem dX4_join_0 : decode cX4_join 0 = .ok (.iload_n 1, 1) := by decide +kernel
theorem dX4_join_1 : decode cX4_join 1 = .ok (.iload_n 2, 1) := by decide +kernel
theorem dX4_join_2 : decode cX4_join 2 = .ok (.if_icmp .ne 4, 3) := by decide +kernel
theorem dX4_join_5 : decode cX4_join 5 = .ok (.return_, 1) := by decide +kernel
theorem dX4_join_6 : decode cX4_join 6 = .ok (.iconst 0, 1) := by decide +kernel
theorem dX4_join_7 : decode cX4_join 7 = .ok (.istore_n 3, 1) := by decide +kernel
theorem dX4_join_8 : decode cX4_join 8 = .ok (.iload_n 3, 1) := by decide +kernel
theorem dX4_join_9 : decode cX4_join 9 = .ok (.bipush 64, 2) := by decide +kernel
theorem dX4_join_11 : decode cX4_join 11 = .ok (.if_icmp .ge 26, 3) := by decide +kernel
theorem dX4_join_14 : decode cX4_join 14 = .ok (.aload_n 0, 1) := by decide +kernel
theorem dX4_join_15 : decode cX4_join 15 = .ok (.getfield 9, 3) := by decide +kernel
theorem dX4_join_18 : decode cX4_join 18 = .ok (.iload_n 3, 1) := by decide +kernel
theorem dX4_join_19 : decode cX4_join 19 = .ok (.iaload, 1) := by decide +kernel
theorem dX4_join_20 : decode cX4_join 20 = .ok (.iload_n 1, 1) := by decide +kernel
theorem dX4_join_21 : decode cX4_join 21 = .ok (.if_icmp .ne 10, 3) := by decide +kernel
theorem dX4_join_24 : decode cX4_join 24 = .ok (.aload_n 0, 1) := by decide +kernel
theorem dX4_join_25 : decode cX4_join 25 = .ok (.getfield 9, 3) := by decide +kernel
theorem dX4_join_28 : decode cX4_join 28 = .ok (.iload_n 3, 1) := by decide +kernel
theorem dX4_join_29 : decode cX4_join 29 = .ok (.iload_n 2, 1) := by decide +kernel
theorem dX4_join_30 : decode cX4_join 30 = .ok (.iastore, 1) := by decide +kernel
theorem dX4_join_31 : decode cX4_join 31 = .ok (.iinc 3 1, 3) := by decide +kernel
theorem dX4_join_34 : decode cX4_join 34 = .ok (.goto (-26), 3) := by decide +kernel
theorem dX4_join_37 : decode cX4_join 37 = .ok (.return_, 1) := by decide +kernel
theorem dX5_init_0 : decode cX5_init 0 = .ok (.aload_n 0, 1) := by decide +kernel
theorem dX5_init_1 : decode cX5_init 1 = .ok (.invokespecial 3, 3) := by decide +kernel
theorem dX5_init_4 : decode cX5_init 4 = .ok (.aload_n 0, 1) := by decide +kernel
theorem dX5_init_5 : decode cX5_init 5 = .ok (.iload_n 1, 1) := by decide +kernel
theorem dX5_init_6 : decode cX5_init 6 = .ok (.putfield 9, 3) := by decide +kernel
theorem dX5_init_9 : decode cX5_init 9 = .ok (.aload_n 0, 1) := by decide +kernel
theorem dX5_init_10 : decode cX5_init 10 = .ok (.iload_n 2, 1) := by decide +kernel
theorem dX5_init_11 : decode cX5_init 11 = .ok (.putfield 15, 3) := by decide +kernel
theorem dX5_init_14 : decode cX5_init 14 = .ok (.aload_n 0, 1) := by decide +kernel
theorem dX5_init_15 : decode cX5_init 15 = .ok (.iload_n 3, 1) := by decide +kernel
theorem dX5_init_16 : decode cX5_init 16 = .ok (.putfield 19, 3) := by decide +kernel
theorem dX5_init_19 : decode cX5_init 19 = .ok (.return_, 1) := by decide +kernel
theorem dX5_isRule_0 : decode cX5_isRule 0 = .ok (.iload_n 0, 1) := by decide +kernel
theorem dX5_isRule_1 : decode cX5_isRule 1 = .ok (.bipush 99, 2) := by decide +kernel
theorem dX5_isRule_3 : decode cX5_isRule 3 = .ok (.if_icmp .eq 9, 3) := by decide +kernel
theorem dX5_isRule_6 : decode cX5_isRule 6 = .ok (.iload_n 0, 1) := by decide +kernel
theorem dX5_isRule_7 : decode cX5_isRule 7 = .ok (.bipush 120, 2) := by decide +kernel
theorem dX5_isRule_9 : decode cX5_isRule 9 = .ok (.if_icmp .ne 28, 3) := by decide +kernel
theorem dX5_isRule_12 : decode cX5_isRule 12 = .ok (.iload_n 1, 1) := by decide +kernel
theorem dX5_isRule_13 : decode cX5_isRule 13 = .ok (.invokestatic 22, 3) := by decide +kernel
theorem dX5_isRule_16 : decode cX5_isRule 16 = .ok (.ifCond .eq 19, 3) := by decide +kernel
theorem dX5_isRule_19 : decode cX5_isRule 19 = .ok (.iload_n 2, 1) := by decide +kernel
theorem dX5_isRule_20 : decode cX5_isRule 20 = .ok (.invokestatic 22, 3) := by decide +kernel
theorem dX5_isRule_23 : decode cX5_isRule 23 = .ok (.ifCond .eq 12, 3) := by decide +kernel
theorem dX5_isRule_26 : decode cX5_isRule 26 = .ok (.iload_n 1, 1) := by decide +kernel
theorem dX5_isRule_27 : decode cX5_isRule 27 = .ok (.iload_n 2, 1) := by decide +kernel
theorem dX5_isRule_28 : decode cX5_isRule 28 = .ok (.if_icmp .eq 7, 3) := by decide +kernel
theorem dX5_isRule_31 : decode cX5_isRule 31 = .ok (.iconst 1, 1) := by decide +kernel
theorem dX5_isRule_32 : decode cX5_isRule 32 = .ok (.goto 4, 3) := by decide +kernel
theorem dX5_isRule_35 : decode cX5_isRule 35 = .ok (.iconst 0, 1) := by decide +kernel
theorem dX5_isRule_36 : decode cX5_isRule 36 = .ok (.ireturn, 1) := by decide +kernel
theorem dX5_isRule_37 : decode cX5_isRule 37 = .ok (.iload_n 0, 1) := by decide +kernel
theorem dX5_isRule_38 : decode cX5_isRule 38 = .ok (.bipush 103, 2) := by decide +kernel
theorem dX5_isRule_40 : decode cX5_isRule 40 = .ok (.if_icmp .eq 9, 3) := by decide +kernel
theorem dX5_isRule_43 : decode cX5_isRule 43 = .ok (.iload_n 0, 1) := by decide +kernel
theorem dX5_isRule_44 : decode cX5_isRule 44 = .ok (.bipush 119, 2) := by decide +kernel
theorem dX5_isRule_46 : decode cX5_isRule 46 = .ok (.if_icmp .ne 8, 3) := by decide +kernel
theorem dX5_isRule_49 : decode cX5_isRule 49 = .ok (.iload_n 1, 1) := by decide +kernel
theorem dX5_isRule_50 : decode cX5_isRule 50 = .ok (.invokestatic 22, 3) := by decide +kernel
theorem dX5_isRule_53 : decode cX5_isRule 53 = .ok (.ireturn, 1) := by decide +kernel
theorem dX5_isRule_54 : decode cX5_isRule 54 = .ok (.iload_n 0, 1) := by decide +kernel
theorem dX5_isRule_55 : decode cX5_isRule 55 = .ok (.bipush 109, 2) := by decide +kernel
theorem dX5_isRule_57 : decode cX5_isRule 57 = .ok (.if_icmp .ne 7, 3) := by decide +kernel
theorem dX5_isRule_60 : decode cX5_isRule 60 = .ok (.iconst 1, 1) := by decide +kernel
theorem dX5_isRule_61 : decode cX5_isRule 61 = .ok (.goto 4, 3) := by decide +kernel
theorem dX5_isRule_64 : decode cX5_isRule 64 = .ok (.iconst 0, 1) := by decide +kernel
theorem dX5_isRule_65 : decode cX5_isRule 65 = .ok (.ireturn, 1) := by decide +kernel
theorem dX5_holdsIn_0 : decode cX5_holdsIn 0 = .ok (.aload_n 0, 1) := by decide +kernel
theorem dX5_holdsIn_1 : decode cX5_holdsIn 1 = .ok (.getfield 9, 3) := by decide +kernel
theorem dX5_holdsIn_4 : decode cX5_holdsIn 4 = .ok (.bipush 119, 2) := by decide +kernel
theorem dX5_holdsIn_6 : decode cX5_holdsIn 6 = .ok (.if_icmp .ne 10, 3) := by decide +kernel
theorem dX5_holdsIn_9 : decode cX5_holdsIn 9 = .ok (.aload_n 0, 1) := by decide +kernel
theorem dX5_holdsIn_10 : decode cX5_holdsIn 10 = .ok (.aload_n 1, 1) := by decide +kernel
theorem dX5_holdsIn_11 : decode cX5_holdsIn 11 = .ok (.aload_n 2, 1) := by decide +kernel
theorem dX5_holdsIn_12 : decode cX5_holdsIn 12 = .ok (.invokevirtual 26, 3) := by decide +kernel
theorem dX5_holdsIn_15 : decode cX5_holdsIn 15 = .ok (.ireturn, 1) := by decide +kernel
theorem dX5_holdsIn_16 : decode cX5_holdsIn 16 = .ok (.iconst 0, 1) := by decide +kernel
theorem dX5_holdsIn_17 : decode cX5_holdsIn 17 = .ok (.istore_n 3, 1) := by decide +kernel
theorem dX5_holdsIn_18 : decode cX5_holdsIn 18 = .ok (.iload_n 3, 1) := by decide +kernel
theorem dX5_holdsIn_19 : decode cX5_holdsIn 19 = .ok (.bipush 64, 2) := by decide +kernel
theorem dX5_holdsIn_21 : decode cX5_holdsIn 21 = .ok (.if_icmp .ge 20, 3) := by decide +kernel
theorem dX5_holdsIn_24 : decode cX5_holdsIn 24 = .ok (.aload_n 0, 1) := by decide +kernel
theorem dX5_holdsIn_25 : decode cX5_holdsIn 25 = .ok (.aload_n 1, 1) := by decide +kernel
theorem dX5_holdsIn_26 : decode cX5_holdsIn 26 = .ok (.iload_n 3, 1) := by decide +kernel
theorem dX5_holdsIn_27 : decode cX5_holdsIn 27 = .ok (.invokevirtual 30, 3) := by decide +kernel
theorem dX5_holdsIn_30 : decode cX5_holdsIn 30 = .ok (.ifCond .eq 5, 3) := by decide +kernel
theorem dX5_holdsIn_33 : decode cX5_holdsIn 33 = .ok (.iconst 0, 1) := by decide +kernel
theorem dX5_holdsIn_34 : decode cX5_holdsIn 34 = .ok (.ireturn, 1) := by decide +kernel
theorem dX5_holdsIn_35 : decode cX5_holdsIn 35 = .ok (.iinc 3 1, 3) := by decide +kernel
theorem dX5_holdsIn_38 : decode cX5_holdsIn 38 = .ok (.goto (-20), 3) := by decide +kernel
theorem dX5_holdsIn_41 : decode cX5_holdsIn 41 = .ok (.iconst 1, 1) := by decide +kernel
theorem dX5_holdsIn_42 : decode cX5_holdsIn 42 = .ok (.ireturn, 1) := by decide +kernel
theorem dX5_isBrokenAt_0 : decode cX5_isBrokenAt 0 = .ok (.aload_n 0, 1) := by decide +kernel
theorem dX5_isBrokenAt_1 : decode cX5_isBrokenAt 1 = .ok (.getfield 9, 3) := by decide +kernel
theorem dX5_isBrokenAt_4 : decode cX5_isBrokenAt 4 = .ok (.bipush 109, 2) := by decide +kernel
theorem dX5_isBrokenAt_6 : decode cX5_isBrokenAt 6 = .ok (.if_icmp .ne 25, 3) := by decide +kernel
theorem dX5_isBrokenAt_9 : decode cX5_isBrokenAt 9 = .ok (.iload_n 2, 1) := by decide +kernel
theorem dX5_isBrokenAt_10 : decode cX5_isBrokenAt 10 = .ok (.invokestatic 34, 3) := by decide +kernel
theorem dX5_isBrokenAt_13 : decode cX5_isBrokenAt 13 = .ok (.ifCond .ne 16, 3) := by decide +kernel
theorem dX5_isBrokenAt_16 : decode cX5_isBrokenAt 16 = .ok (.aload_n 1, 1) := by decide +kernel
theorem dX5_isBrokenAt_17 : decode cX5_isBrokenAt 17 = .ok (.iload_n 2, 1) := by decide +kernel
theorem dX5_isBrokenAt_18 : decode cX5_isBrokenAt 18 = .ok (.invokestatic 39, 3) := by decide +kernel
theorem dX5_isBrokenAt_21 : decode cX5_isBrokenAt 21 = .ok (.iconst 1, 1) := by decide +kernel
theorem dX5_isBrokenAt_22 : decode cX5_isBrokenAt 22 = .ok (.if_icmp .ne 7, 3) := by decide +kernel
theorem dX5_isBrokenAt_25 : decode cX5_isBrokenAt 25 = .ok (.iconst 1, 1) := by decide +kernel
theorem dX5_isBrokenAt_26 : decode cX5_isBrokenAt 26 = .ok (.goto 4, 3) := by decide +kernel
theorem dX5_isBrokenAt_29 : decode cX5_isBrokenAt 29 = .ok (.iconst 0, 1) := by decide +kernel
theorem dX5_isBrokenAt_30 : decode cX5_isBrokenAt 30 = .ok (.ireturn, 1) := by decide +kernel
theorem dX5_isBrokenAt_31 : decode cX5_isBrokenAt 31 = .ok (.aload_n 1, 1) := by decide +kernel
theorem dX5_isBrokenAt_32 : decode cX5_isBrokenAt 32 = .ok (.aload_n 0, 1) := by decide +kernel
theorem dX5_isBrokenAt_33 : decode cX5_isBrokenAt 33 = .ok (.getfield 15, 3) := by decide +kernel
theorem dX5_isBrokenAt_36 : decode cX5_isBrokenAt 36 = .ok (.iload_n 2, 1) := by decide +kernel
theorem dX5_isBrokenAt_37 : decode cX5_isBrokenAt 37 = .ok (.invokestatic 43, 3) := by decide +kernel
theorem dX5_isBrokenAt_40 : decode cX5_isBrokenAt 40 = .ok (.ifCond .eq 7, 3) := by decide +kernel
theorem dX5_isBrokenAt_43 : decode cX5_isBrokenAt 43 = .ok (.iconst 1, 1) := by decide +kernel
theorem dX5_isBrokenAt_44 : decode cX5_isBrokenAt 44 = .ok (.goto 4, 3) := by decide +kernel
theorem dX5_isBrokenAt_47 : decode cX5_isBrokenAt 47 = .ok (.iconst 0, 1) := by decide +kernel
theorem dX5_isBrokenAt_48 : decode cX5_isBrokenAt 48 = .ok (.istore_n 3, 1) := by decide +kernel
theorem dX5_isBrokenAt_49 : decode cX5_isBrokenAt 49 = .ok (.aload_n 0, 1) := by decide +kernel
theorem dX5_isBrokenAt_50 : decode cX5_isBrokenAt 50 = .ok (.getfield 9, 3) := by decide +kernel
theorem dX5_isBrokenAt_53 : decode cX5_isBrokenAt 53 = .ok (.bipush 103, 2) := by decide +kernel
theorem dX5_isBrokenAt_55 : decode cX5_isBrokenAt 55 = .ok (.if_icmp .ne 22, 3) := by decide +kernel
theorem dX5_isBrokenAt_58 : decode cX5_isBrokenAt 58 = .ok (.iload_n 3, 1) := by decide +kernel
theorem dX5_isBrokenAt_59 : decode cX5_isBrokenAt 59 = .ok (.ifCond .ne 16, 3) := by decide +kernel
theorem dX5_isBrokenAt_62 : decode cX5_isBrokenAt 62 = .ok (.aload_n 0, 1) := by decide +kernel
theorem dX5_isBrokenAt_63 : decode cX5_isBrokenAt 63 = .ok (.aload_n 1, 1) := by decide +kernel
theorem dX5_isBrokenAt_64 : decode cX5_isBrokenAt 64 = .ok (.iload_n 2, 1) := by decide +kernel
theorem dX5_isBrokenAt_65 : decode cX5_isBrokenAt 65 = .ok (.invokevirtual 47, 3) := by decide +kernel
theorem dX5_isBrokenAt_68 : decode cX5_isBrokenAt 68 = .ok (.ifCond .eq 7, 3) := by decide +kernel
theorem dX5_isBrokenAt_71 : decode cX5_isBrokenAt 71 = .ok (.iconst 1, 1) := by decide +kernel
theorem dX5_isBrokenAt_72 : decode cX5_isBrokenAt 72 = .ok (.goto 4, 3) := by decide +kernel
theorem dX5_isBrokenAt_75 : decode cX5_isBrokenAt 75 = .ok (.iconst 0, 1) := by decide +kernel
theorem dX5_isBrokenAt_76 : decode cX5_isBrokenAt 76 = .ok (.ireturn, 1) := by decide +kernel
theorem dX5_isBrokenAt_77 : decode cX5_isBrokenAt 77 = .ok (.aload_n 1, 1) := by decide +kernel
theorem dX5_isBrokenAt_78 : decode cX5_isBrokenAt 78 = .ok (.aload_n 0, 1) := by decide +kernel
theorem dX5_isBrokenAt_79 : decode cX5_isBrokenAt 79 = .ok (.getfield 19, 3) := by decide +kernel
theorem dX5_isBrokenAt_82 : decode cX5_isBrokenAt 82 = .ok (.iload_n 2, 1) := by decide +kernel
theorem dX5_isBrokenAt_83 : decode cX5_isBrokenAt 83 = .ok (.invokestatic 43, 3) := by decide +kernel
theorem dX5_isBrokenAt_86 : decode cX5_isBrokenAt 86 = .ok (.ifCond .eq 7, 3) := by decide +kernel
theorem dX5_isBrokenAt_89 : decode cX5_isBrokenAt 89 = .ok (.iconst 1, 1) := by decide +kernel
theorem dX5_isBrokenAt_90 : decode cX5_isBrokenAt 90 = .ok (.goto 4, 3) := by decide +kernel
theorem dX5_isBrokenAt_93 : decode cX5_isBrokenAt 93 = .ok (.iconst 0, 1) := by decide +kernel
theorem dX5_isBrokenAt_94 : decode cX5_isBrokenAt 94 = .ok (.istore 4, 2) := by decide +kernel
theorem dX5_isBrokenAt_96 : decode cX5_isBrokenAt 96 = .ok (.iload_n 3, 1) := by decide +kernel
theorem dX5_isBrokenAt_97 : decode cX5_isBrokenAt 97 = .ok (.ifCond .eq 26, 3) := by decide +kernel
theorem dX5_isBrokenAt_100 : decode cX5_isBrokenAt 100 = .ok (.iload 4, 2) := by decide +kernel
theorem dX5_isBrokenAt_102 : decode cX5_isBrokenAt 102 = .ok (.aload_n 0, 1) := by decide +kernel
theorem dX5_isBrokenAt_103 : decode cX5_isBrokenAt 103 = .ok (.getfield 9, 3) := by decide +kernel
theorem dX5_isBrokenAt_106 : decode cX5_isBrokenAt 106 = .ok (.bipush 120, 2) := by decide +kernel
theorem dX5_isBrokenAt_108 : decode cX5_isBrokenAt 108 = .ok (.if_icmp .ne 7, 3) := by decide +kernel
theorem dX5_isBrokenAt_111 : decode cX5_isBrokenAt 111 = .ok (.iconst 1, 1) := by decide +kernel
theorem dX5_isBrokenAt_112 : decode cX5_isBrokenAt 112 = .ok (.goto 4, 3) := by decide +kernel
theorem dX5_isBrokenAt_115 : decode cX5_isBrokenAt 115 = .ok (.iconst 0, 1) := by decide +kernel
theorem dX5_isBrokenAt_116 : decode cX5_isBrokenAt 116 = .ok (.if_icmp .ne 7, 3) := by decide +kernel
theorem dX5_isBrokenAt_119 : decode cX5_isBrokenAt 119 = .ok (.iconst 1, 1) := by decide +kernel
theorem dX5_isBrokenAt_120 : decode cX5_isBrokenAt 120 = .ok (.goto 4, 3) := by decide +kernel
theorem dX5_isBrokenAt_123 : decode cX5_isBrokenAt 123 = .ok (.iconst 0, 1) := by decide +kernel
theorem dX5_isBrokenAt_124 : decode cX5_isBrokenAt 124 = .ok (.ireturn, 1) := by decide +kernel
theorem dX5_isEnclosed_0 : decode cX5_isEnclosed 0 = .ok (.iconst 0, 1) := by decide +kernel
theorem dX5_isEnclosed_1 : decode cX5_isEnclosed 1 = .ok (.istore_n 3, 1) := by decide +kernel
theorem dX5_isEnclosed_2 : decode cX5_isEnclosed 2 = .ok (.iload_n 3, 1) := by decide +kernel
theorem dX5_isEnclosed_3 : decode cX5_isEnclosed 3 = .ok (.iconst 4, 1) := by decide +kernel
theorem dX5_isEnclosed_4 : decode cX5_isEnclosed 4 = .ok (.if_icmp .ge 37, 3) := by decide +kernel
theorem dX5_isEnclosed_7 : decode cX5_isEnclosed 7 = .ok (.iload_n 2, 1) := by decide +kernel
theorem dX5_isEnclosed_8 : decode cX5_isEnclosed 8 = .ok (.iload_n 3, 1) := by decide +kernel
theorem dX5_isEnclosed_9 : decode cX5_isEnclosed 9 = .ok (.invokestatic 50, 3) := by decide +kernel
theorem dX5_isEnclosed_12 : decode cX5_isEnclosed 12 = .ok (.istore 4, 2) := by decide +kernel
theorem dX5_isEnclosed_14 : decode cX5_isEnclosed 14 = .ok (.iload 4, 2) := by decide +kernel
theorem dX5_isEnclosed_16 : decode cX5_isEnclosed 16 = .ok (.iconst (-1), 1) := by decide +kernel
theorem dX5_isEnclosed_17 : decode cX5_isEnclosed 17 = .ok (.if_icmp .eq 18, 3) := by decide +kernel
theorem dX5_isEnclosed_20 : decode cX5_isEnclosed 20 = .ok (.aload_n 1, 1) := by decide +kernel
theorem dX5_isEnclosed_21 : decode cX5_isEnclosed 21 = .ok (.aload_n 0, 1) := by decide +kernel
theorem dX5_isEnclosed_22 : decode cX5_isEnclosed 22 = .ok (.getfield 15, 3) := by decide +kernel
theorem dX5_isEnclosed_25 : decode cX5_isEnclosed 25 = .ok (.iload 4, 2) := by decide +kernel
theorem dX5_isEnclosed_27 : decode cX5_isEnclosed 27 = .ok (.invokestatic 43, 3) := by decide +kernel
theorem dX5_isEnclosed_30 : decode cX5_isEnclosed 30 = .ok (.ifCond .ne 5, 3) := by decide +kernel
theorem dX5_isEnclosed_33 : decode cX5_isEnclosed 33 = .ok (.iconst 0, 1) := by decide +kernel
theorem dX5_isEnclosed_34 : decode cX5_isEnclosed 34 = .ok (.ireturn, 1) := by decide +kernel
theorem dX5_isEnclosed_35 : decode cX5_isEnclosed 35 = .ok (.iinc 3 1, 3) := by decide +kernel
theorem dX5_isEnclosed_38 : decode cX5_isEnclosed 38 = .ok (.goto (-36), 3) := by decide +kernel
theorem dX5_isEnclosed_41 : decode cX5_isEnclosed 41 = .ok (.iconst 1, 1) := by decide +kernel
theorem dX5_isEnclosed_42 : decode cX5_isEnclosed 42 = .ok (.ireturn, 1) := by decide +kernel
theorem dX5_roadsAt_0 : decode cX5_roadsAt 0 = .ok (.iconst 0, 1) := by decide +kernel
theorem dX5_roadsAt_1 : decode cX5_roadsAt 1 = .ok (.istore_n 2, 1) := by decide +kernel
theorem dX5_roadsAt_2 : decode cX5_roadsAt 2 = .ok (.iconst 0, 1) := by decide +kernel
theorem dX5_roadsAt_3 : decode cX5_roadsAt 3 = .ok (.istore_n 3, 1) := by decide +kernel
theorem dX5_roadsAt_4 : decode cX5_roadsAt 4 = .ok (.iload_n 3, 1) := by decide +kernel
theorem dX5_roadsAt_5 : decode cX5_roadsAt 5 = .ok (.iconst 4, 1) := by decide +kernel
theorem dX5_roadsAt_6 : decode cX5_roadsAt 6 = .ok (.if_icmp .ge 35, 3) := by decide +kernel
theorem dX5_roadsAt_9 : decode cX5_roadsAt 9 = .ok (.iload_n 1, 1) := by decide +kernel
theorem dX5_roadsAt_10 : decode cX5_roadsAt 10 = .ok (.iload_n 3, 1) := by decide +kernel
theorem dX5_roadsAt_11 : decode cX5_roadsAt 11 = .ok (.invokestatic 50, 3) := by decide +kernel
theorem dX5_roadsAt_14 : decode cX5_roadsAt 14 = .ok (.istore 4, 2) := by decide +kernel
theorem dX5_roadsAt_16 : decode cX5_roadsAt 16 = .ok (.iload 4, 2) := by decide +kernel
theorem dX5_roadsAt_18 : decode cX5_roadsAt 18 = .ok (.iconst (-1), 1) := by decide +kernel
theorem dX5_roadsAt_19 : decode cX5_roadsAt 19 = .ok (.if_icmp .eq 16, 3) := by decide +kernel
theorem dX5_roadsAt_22 : decode cX5_roadsAt 22 = .ok (.aload_n 0, 1) := by decide +kernel
theorem dX5_roadsAt_23 : decode cX5_roadsAt 23 = .ok (.iload_n 1, 1) := by decide +kernel
theorem dX5_roadsAt_24 : decode cX5_roadsAt 24 = .ok (.iload 4, 2) := by decide +kernel
theorem dX5_roadsAt_26 : decode cX5_roadsAt 26 = .ok (.invokestatic 54, 3) := by decide +kernel
theorem dX5_roadsAt_29 : decode cX5_roadsAt 29 = .ok (.ifCond .eq 6, 3) := by decide +kernel
theorem dX5_roadsAt_32 : decode cX5_roadsAt 32 = .ok (.iinc 2 1, 3) := by decide +kernel
theorem dX5_roadsAt_35 : decode cX5_roadsAt 35 = .ok (.iinc 3 1, 3) := by decide +kernel
theorem dX5_roadsAt_38 : decode cX5_roadsAt 38 = .ok (.goto (-34), 3) := by decide +kernel
theorem dX5_roadsAt_41 : decode cX5_roadsAt 41 = .ok (.iload_n 2, 1) := by decide +kernel
theorem dX5_roadsAt_42 : decode cX5_roadsAt 42 = .ok (.ireturn, 1) := by decide +kernel
theorem dX5_areasHangTogether_0 : decode cX5_areasHangTogether 0 = .ok (.iconst 1, 1) := by decide +kernel
theorem dX5_areasHangTogether_1 : decode cX5_areasHangTogether 1 = .ok (.istore_n 3, 1) := by decide +kernel
theorem dX5_areasHangTogether_2 : decode cX5_areasHangTogether 2 = .ok (.iload_n 3, 1) := by decide +kernel
theorem dX5_areasHangTogether_3 : decode cX5_areasHangTogether 3 = .ok (.bipush 9, 2) := by decide +kernel
theorem dX5_areasHangTogether_5 : decode cX5_areasHangTogether 5 = .ok (.if_icmp .gt 51, 3) := by decide +kernel
theorem dX5_areasHangTogether_8 : decode cX5_areasHangTogether 8 = .ok (.aload_n 1, 1) := by decide +kernel
theorem dX5_areasHangTogether_9 : decode cX5_areasHangTogether 9 = .ok (.aload_n 0, 1) := by decide +kernel
theorem dX5_areasHangTogether_10 : decode cX5_areasHangTogether 10 = .ok (.getfield 15, 3) := by decide +kernel
theorem dX5_areasHangTogether_13 : decode cX5_areasHangTogether 13 = .ok (.iload_n 3, 1) := by decide +kernel
theorem dX5_areasHangTogether_14 : decode cX5_areasHangTogether 14 = .ok (.invokestatic 58, 3) := by decide +kernel
theorem dX5_areasHangTogether_17 : decode cX5_areasHangTogether 17 = .ok (.istore 4, 2) := by decide +kernel
theorem dX5_areasHangTogether_19 : decode cX5_areasHangTogether 19 = .ok (.iload 4, 2) := by decide +kernel
theorem dX5_areasHangTogether_21 : decode cX5_areasHangTogether 21 = .ok (.iconst (-1), 1) := by decide +kernel
theorem dX5_areasHangTogether_22 : decode cX5_areasHangTogether 22 = .ok (.if_icmp .eq 28, 3) := by decide +kernel
theorem dX5_areasHangTogether_25 : decode cX5_areasHangTogether 25 = .ok (.aload_n 2, 1) := by decide +kernel
theorem dX5_areasHangTogether_26 : decode cX5_areasHangTogether 26 = .ok (.aload_n 1, 1) := by decide +kernel
theorem dX5_areasHangTogether_27 : decode cX5_areasHangTogether 27 = .ok (.aload_n 0, 1) := by decide +kernel
theorem dX5_areasHangTogether_28 : decode cX5_areasHangTogether 28 = .ok (.getfield 15, 3) := by decide +kernel
theorem dX5_areasHangTogether_31 : decode cX5_areasHangTogether 31 = .ok (.iload 4, 2) := by decide +kernel
theorem dX5_areasHangTogether_33 : decode cX5_areasHangTogether 33 = .ok (.invokevirtual 61, 3) := by decide +kernel
theorem dX5_areasHangTogether_36 : decode cX5_areasHangTogether 36 = .ok (.aload_n 1, 1) := by decide +kernel
theorem dX5_areasHangTogether_37 : decode cX5_areasHangTogether 37 = .ok (.aload_n 0, 1) := by decide +kernel
theorem dX5_areasHangTogether_38 : decode cX5_areasHangTogether 38 = .ok (.getfield 15, 3) := by decide +kernel
theorem dX5_areasHangTogether_41 : decode cX5_areasHangTogether 41 = .ok (.iload_n 3, 1) := by decide +kernel
theorem dX5_areasHangTogether_42 : decode cX5_areasHangTogether 42 = .ok (.invokestatic 66, 3) := by decide +kernel
theorem dX5_areasHangTogether_45 : decode cX5_areasHangTogether 45 = .ok (.if_icmp .ge 5, 3) := by decide +kernel
theorem dX5_areasHangTogether_48 : decode cX5_areasHangTogether 48 = .ok (.iconst 0, 1) := by decide +kernel
theorem dX5_areasHangTogether_49 : decode cX5_areasHangTogether 49 = .ok (.ireturn, 1) := by decide +kernel
theorem dX5_areasHangTogether_50 : decode cX5_areasHangTogether 50 = .ok (.iinc 3 1, 3) := by decide +kernel
theorem dX5_areasHangTogether_53 : decode cX5_areasHangTogether 53 = .ok (.goto (-51), 3) := by decide +kernel
theorem dX5_areasHangTogether_56 : decode cX5_areasHangTogether 56 = .ok (.iconst 1, 1) := by decide +kernel
theorem dX5_areasHangTogether_57 : decode cX5_areasHangTogether 57 = .ok (.ireturn, 1) := by decide +kernel
theorem dX6_init_0 : decode cX6_init 0 = .ok (.aload_n 0, 1) := by decide +kernel
theorem dX6_init_1 : decode cX6_init 1 = .ok (.invokespecial 3, 3) := by decide +kernel
theorem dX6_init_4 : decode cX6_init 4 = .ok (.aload_n 0, 1) := by decide +kernel
theorem dX6_init_5 : decode cX6_init 5 = .ok (.bipush 64, 2) := by decide +kernel
theorem dX6_init_7 : decode cX6_init 7 = .ok (.newarray .int, 2) := by decide +kernel
theorem dX6_init_9 : decode cX6_init 9 = .ok (.putfield 9, 3) := by decide +kernel
theorem dX6_init_12 : decode cX6_init 12 = .ok (.aload_n 0, 1) := by decide +kernel
theorem dX6_init_13 : decode cX6_init 13 = .ok (.bipush 64, 2) := by decide +kernel
theorem dX6_init_15 : decode cX6_init 15 = .ok (.newarray .int, 2) := by decide +kernel
theorem dX6_init_17 : decode cX6_init 17 = .ok (.putfield 15, 3) := by decide +kernel
theorem dX6_init_20 : decode cX6_init 20 = .ok (.return_, 1) := by decide +kernel
theorem dX6_spread_0 : decode cX6_spread 0 = .ok (.aload_n 0, 1) := by decide +kernel
theorem dX6_spread_1 : decode cX6_spread 1 = .ok (.getfield 15, 3) := by decide +kernel
theorem dX6_spread_4 : decode cX6_spread 4 = .ok (.iconst (-1), 1) := by decide +kernel
theorem dX6_spread_5 : decode cX6_spread 5 = .ok (.invokestatic 18, 3) := by decide +kernel
theorem dX6_spread_8 : decode cX6_spread 8 = .ok (.iload_n 3, 1) := by decide +kernel
theorem dX6_spread_9 : decode cX6_spread 9 = .ok (.ifCond .lt 9, 3) := by decide +kernel
theorem dX6_spread_12 : decode cX6_spread 12 = .ok (.iload_n 3, 1) := by decide +kernel
theorem dX6_spread_13 : decode cX6_spread 13 = .ok (.bipush 64, 2) := by decide +kernel
theorem dX6_spread_15 : decode cX6_spread 15 = .ok (.if_icmp .lt 5, 3) := by decide +kernel
theorem dX6_spread_18 : decode cX6_spread 18 = .ok (.iconst 0, 1) := by decide +kernel
theorem dX6_spread_19 : decode cX6_spread 19 = .ok (.ireturn, 1) := by decide +kernel
theorem dX6_spread_20 : decode cX6_spread 20 = .ok (.aload_n 0, 1) := by decide +kernel
theorem dX6_spread_21 : decode cX6_spread 21 = .ok (.getfield 9, 3) := by decide +kernel
theorem dX6_spread_24 : decode cX6_spread 24 = .ok (.iconst 0, 1) := by decide +kernel
theorem dX6_spread_25 : decode cX6_spread 25 = .ok (.iload_n 3, 1) := by decide +kernel
theorem dX6_spread_26 : decode cX6_spread 26 = .ok (.iastore, 1) := by decide +kernel
theorem dX6_spread_27 : decode cX6_spread 27 = .ok (.aload_n 0, 1) := by decide +kernel
theorem dX6_spread_28 : decode cX6_spread 28 = .ok (.getfield 15, 3) := by decide +kernel
theorem dX6_spread_31 : decode cX6_spread 31 = .ok (.iload_n 3, 1) := by decide +kernel
theorem dX6_spread_32 : decode cX6_spread 32 = .ok (.iconst 0, 1) := by decide +kernel
theorem dX6_spread_33 : decode cX6_spread 33 = .ok (.iastore, 1) := by decide +kernel
theorem dX6_spread_34 : decode cX6_spread 34 = .ok (.iconst 1, 1) := by decide +kernel
theorem dX6_spread_35 : decode cX6_spread 35 = .ok (.istore 4, 2) := by decide +kernel
theorem dX6_spread_37 : decode cX6_spread 37 = .ok (.iconst 0, 1) := by decide +kernel
theorem dX6_spread_38 : decode cX6_spread 38 = .ok (.istore 5, 2) := by decide +kernel
theorem dX6_spread_40 : decode cX6_spread 40 = .ok (.iload 5, 2) := by decide +kernel
theorem dX6_spread_42 : decode cX6_spread 42 = .ok (.iload 4, 2) := by decide +kernel
theorem dX6_spread_44 : decode cX6_spread 44 = .ok (.if_icmp .ge 149, 3) := by decide +kernel
theorem dX6_spread_47 : decode cX6_spread 47 = .ok (.iload 5, 2) := by decide +kernel
theorem dX6_spread_49 : decode cX6_spread 49 = .ok (.bipush 64, 2) := by decide +kernel
theorem dX6_spread_51 : decode cX6_spread 51 = .ok (.if_icmp .ge 142, 3) := by decide +kernel
theorem dX6_spread_54 : decode cX6_spread 54 = .ok (.aload_n 0, 1) := by decide +kernel
theorem dX6_spread_55 : decode cX6_spread 55 = .ok (.getfield 9, 3) := by decide +kernel
theorem dX6_spread_58 : decode cX6_spread 58 = .ok (.iload 5, 2) := by decide +kernel
theorem dX6_spread_60 : decode cX6_spread 60 = .ok (.iaload, 1) := by decide +kernel
theorem dX6_spread_61 : decode cX6_spread 61 = .ok (.istore 6, 2) := by decide +kernel
theorem dX6_spread_63 : decode cX6_spread 63 = .ok (.iconst 0, 1) := by decide +kernel
theorem dX6_spread_64 : decode cX6_spread 64 = .ok (.istore 7, 2) := by decide +kernel
theorem dX6_spread_66 : decode cX6_spread 66 = .ok (.iload 7, 2) := by decide +kernel
theorem dX6_spread_68 : decode cX6_spread 68 = .ok (.iconst 4, 1) := by decide +kernel
theorem dX6_spread_69 : decode cX6_spread 69 = .ok (.if_icmp .ge 118, 3) := by decide +kernel
theorem dX6_spread_72 : decode cX6_spread 72 = .ok (.iload 6, 2) := by decide +kernel
theorem dX6_spread_74 : decode cX6_spread 74 = .ok (.iload 7, 2) := by decide +kernel
theorem dX6_spread_76 : decode cX6_spread 76 = .ok (.invokestatic 26, 3) := by decide +kernel
theorem dX6_spread_79 : decode cX6_spread 79 = .ok (.istore 8, 2) := by decide +kernel
theorem dX6_spread_81 : decode cX6_spread 81 = .ok (.iload 8, 2) := by decide +kernel
theorem dX6_spread_83 : decode cX6_spread 83 = .ok (.iconst (-1), 1) := by decide +kernel
theorem dX6_spread_84 : decode cX6_spread 84 = .ok (.if_icmp .eq 43, 3) := by decide +kernel
theorem dX6_spread_87 : decode cX6_spread 87 = .ok (.iload_n 2, 1) := by decide +kernel
theorem dX6_spread_88 : decode cX6_spread 88 = .ok (.iconst (-1), 1) := by decide +kernel
theorem dX6_spread_89 : decode cX6_spread 89 = .ok (.if_icmp .ne 17, 3) := by decide +kernel
theorem dX6_spread_92 : decode cX6_spread 92 = .ok (.aload_n 1, 1) := by decide +kernel
theorem dX6_spread_93 : decode cX6_spread 93 = .ok (.iload 6, 2) := by decide +kernel
theorem dX6_spread_95 : decode cX6_spread 95 = .ok (.iload 8, 2) := by decide +kernel
theorem dX6_spread_97 : decode cX6_spread 97 = .ok (.invokestatic 30, 3) := by decide +kernel
theorem dX6_spread_100 : decode cX6_spread 100 = .ok (.ifCond .eq 27, 3) := by decide +kernel
theorem dX6_spread_103 : decode cX6_spread 103 = .ok (.goto 20, 3) := by decide +kernel
theorem dX6_spread_106 : decode cX6_spread 106 = .ok (.aload_n 1, 1) := by decide +kernel
theorem dX6_spread_107 : decode cX6_spread 107 = .ok (.iload_n 2, 1) := by decide +kernel
theorem dX6_spread_108 : decode cX6_spread 108 = .ok (.iload 6, 2) := by decide +kernel
theorem dX6_spread_110 : decode cX6_spread 110 = .ok (.invokestatic 34, 3) := by decide +kernel
theorem dX6_spread_113 : decode cX6_spread 113 = .ok (.aload_n 1, 1) := by decide +kernel
theorem dX6_spread_114 : decode cX6_spread 114 = .ok (.iload_n 2, 1) := by decide +kernel
theorem dX6_spread_115 : decode cX6_spread 115 = .ok (.iload 8, 2) := by decide +kernel
theorem dX6_spread_117 : decode cX6_spread 117 = .ok (.invokestatic 34, 3) := by decide +kernel
theorem dX6_spread_120 : decode cX6_spread 120 = .ok (.if_icmp .ne 7, 3) := by decide +kernel
theorem dX6_spread_123 : decode cX6_spread 123 = .ok (.iconst 1, 1) := by decide +kernel
theorem dX6_spread_124 : decode cX6_spread 124 = .ok (.goto 4, 3) := by decide +kernel
theorem dX6_spread_127 : decode cX6_spread 127 = .ok (.iconst 0, 1) := by decide +kernel
theorem dX6_spread_128 : decode cX6_spread 128 = .ok (.istore 9, 2) := by decide +kernel
theorem dX6_spread_130 : decode cX6_spread 130 = .ok (.iload 9, 2) := by decide +kernel
theorem dX6_spread_132 : decode cX6_spread 132 = .ok (.ifCond .eq 49, 3) := by decide +kernel
theorem dX6_spread_135 : decode cX6_spread 135 = .ok (.iload 4, 2) := by decide +kernel
theorem dX6_spread_137 : decode cX6_spread 137 = .ok (.bipush 64, 2) := by decide +kernel
theorem dX6_spread_139 : decode cX6_spread 139 = .ok (.if_icmp .ge 42, 3) := by decide +kernel
theorem dX6_spread_142 : decode cX6_spread 142 = .ok (.aload_n 0, 1) := by decide +kernel
theorem dX6_spread_143 : decode cX6_spread 143 = .ok (.getfield 15, 3) := by decide +kernel
theorem dX6_spread_146 : decode cX6_spread 146 = .ok (.iload 8, 2) := by decide +kernel
theorem dX6_spread_148 : decode cX6_spread 148 = .ok (.iaload, 1) := by decide +kernel
theorem dX6_spread_149 : decode cX6_spread 149 = .ok (.iconst (-1), 1) := by decide +kernel
theorem dX6_spread_150 : decode cX6_spread 150 = .ok (.if_icmp .ne 31, 3) := by decide +kernel
theorem dX6_spread_153 : decode cX6_spread 153 = .ok (.aload_n 0, 1) := by decide +kernel
theorem dX6_spread_154 : decode cX6_spread 154 = .ok (.getfield 15, 3) := by decide +kernel
theorem dX6_spread_157 : decode cX6_spread 157 = .ok (.iload 8, 2) := by decide +kernel
theorem dX6_spread_159 : decode cX6_spread 159 = .ok (.aload_n 0, 1) := by decide +kernel
theorem dX6_spread_160 : decode cX6_spread 160 = .ok (.getfield 15, 3) := by decide +kernel
theorem dX6_spread_163 : decode cX6_spread 163 = .ok (.iload 6, 2) := by decide +kernel
theorem dX6_spread_165 : decode cX6_spread 165 = .ok (.iaload, 1) := by decide +kernel
theorem dX6_spread_166 : decode cX6_spread 166 = .ok (.iconst 1, 1) := by decide +kernel
theorem dX6_spread_167 : decode cX6_spread 167 = .ok (.iadd, 1) := by decide +kernel
theorem dX6_spread_168 : decode cX6_spread 168 = .ok (.iastore, 1) := by decide +kernel
theorem dX6_spread_169 : decode cX6_spread 169 = .ok (.aload_n 0, 1) := by decide +kernel
theorem dX6_spread_170 : decode cX6_spread 170 = .ok (.getfield 9, 3) := by decide +kernel
theorem dX6_spread_173 : decode cX6_spread 173 = .ok (.iload 4, 2) := by decide +kernel
theorem dX6_spread_175 : decode cX6_spread 175 = .ok (.iload 8, 2) := by decide +kernel
theorem dX6_spread_177 : decode cX6_spread 177 = .ok (.iastore, 1) := by decide +kernel
theorem dX6_spread_178 : decode cX6_spread 178 = .ok (.iinc 4 1, 3) := by decide +kernel
theorem dX6_spread_181 : decode cX6_spread 181 = .ok (.iinc 7 1, 3) := by decide +kernel
theorem dX6_spread_184 : decode cX6_spread 184 = .ok (.goto (-118), 3) := by decide +kernel
theorem dX6_spread_187 : decode cX6_spread 187 = .ok (.iinc 5 1, 3) := by decide +kernel
theorem dX6_spread_190 : decode cX6_spread 190 = .ok (.goto (-150), 3) := by decide +kernel
theorem dX6_spread_193 : decode cX6_spread 193 = .ok (.iload 4, 2) := by decide +kernel
theorem dX6_spread_195 : decode cX6_spread 195 = .ok (.ireturn, 1) := by decide +kernel
theorem dX6_stepsTo_0 : decode cX6_stepsTo 0 = .ok (.iload_n 1, 1) := by decide +kernel
theorem dX6_stepsTo_1 : decode cX6_stepsTo 1 = .ok (.ifCond .lt 18, 3) := by decide +kernel
theorem dX6_stepsTo_4 : decode cX6_stepsTo 4 = .ok (.iload_n 1, 1) := by decide +kernel
theorem dX6_stepsTo_5 : decode cX6_stepsTo 5 = .ok (.bipush 64, 2) := by decide +kernel
theorem dX6_stepsTo_7 : decode cX6_stepsTo 7 = .ok (.if_icmp .ge 12, 3) := by decide +kernel
theorem dX6_stepsTo_10 : decode cX6_stepsTo 10 = .ok (.aload_n 0, 1) := by decide +kernel
theorem dX6_stepsTo_11 : decode cX6_stepsTo 11 = .ok (.getfield 15, 3) := by decide +kernel
theorem dX6_stepsTo_14 : decode cX6_stepsTo 14 = .ok (.iload_n 1, 1) := by decide +kernel
theorem dX6_stepsTo_15 : decode cX6_stepsTo 15 = .ok (.iaload, 1) := by decide +kernel
theorem dX6_stepsTo_16 : decode cX6_stepsTo 16 = .ok (.goto 4, 3) := by decide +kernel
theorem dX6_stepsTo_19 : decode cX6_stepsTo 19 = .ok (.iconst (-1), 1) := by decide +kernel
theorem dX6_stepsTo_20 : decode cX6_stepsTo 20 = .ok (.ireturn, 1) := by decide +kernel
theorem dX7_init_0 : decode cX7_init 0 = .ok (.aload_n 0, 1) := by decide +kernel
theorem dX7_init_1 : decode cX7_init 1 = .ok (.invokespecial 3, 3) := by decide +kernel
theorem dX7_init_4 : decode cX7_init 4 = .ok (.aload_n 0, 1) := by decide +kernel
theorem dX7_init_5 : decode cX7_init 5 = .ok (.sipush 304, 3) := by decide +kernel
theorem dX7_init_8 : decode cX7_init 8 = .ok (.newarray .int, 2) := by decide +kernel
theorem dX7_init_10 : decode cX7_init 10 = .ok (.putfield 9, 3) := by decide +kernel
theorem dX7_init_13 : decode cX7_init 13 = .ok (.iconst 0, 1) := by decide +kernel
theorem dX7_init_14 : decode cX7_init 14 = .ok (.istore_n 3, 1) := by decide +kernel
theorem dX7_init_15 : decode cX7_init 15 = .ok (.iload_n 3, 1) := by decide +kernel
theorem dX7_init_16 : decode cX7_init 16 = .ok (.sipush 304, 3) := by decide +kernel
theorem dX7_init_19 : decode cX7_init 19 = .ok (.if_icmp .ge 31, 3) := by decide +kernel
theorem dX7_init_22 : decode cX7_init 22 = .ok (.aload_n 0, 1) := by decide +kernel
theorem dX7_init_23 : decode cX7_init 23 = .ok (.getfield 9, 3) := by decide +kernel
theorem dX7_init_26 : decode cX7_init 26 = .ok (.iload_n 3, 1) := by decide +kernel
theorem dX7_init_27 : decode cX7_init 27 = .ok (.aload_n 1, 1) := by decide +kernel
theorem dX7_init_28 : decode cX7_init 28 = .ok (.iload_n 3, 1) := by decide +kernel
theorem dX7_init_29 : decode cX7_init 29 = .ok (.iaload, 1) := by decide +kernel
theorem dX7_init_30 : decode cX7_init 30 = .ok (.aload_n 2, 1) := by decide +kernel
theorem dX7_init_31 : decode cX7_init 31 = .ok (.iload_n 3, 1) := by decide +kernel
theorem dX7_init_32 : decode cX7_init 32 = .ok (.iaload, 1) := by decide +kernel
theorem dX7_init_33 : decode cX7_init 33 = .ok (.if_icmp .ne 7, 3) := by decide +kernel
theorem dX7_init_36 : decode cX7_init 36 = .ok (.iconst (-1), 1) := by decide +kernel
theorem dX7_init_37 : decode cX7_init 37 = .ok (.goto 6, 3) := by decide +kernel
theorem dX7_init_40 : decode cX7_init 40 = .ok (.aload_n 2, 1) := by decide +kernel
theorem dX7_init_41 : decode cX7_init 41 = .ok (.iload_n 3, 1) := by decide +kernel
theorem dX7_init_42 : decode cX7_init 42 = .ok (.iaload, 1) := by decide +kernel
theorem dX7_init_43 : decode cX7_init 43 = .ok (.iastore, 1) := by decide +kernel
theorem dX7_init_44 : decode cX7_init 44 = .ok (.iinc 3 1, 3) := by decide +kernel
theorem dX7_init_47 : decode cX7_init 47 = .ok (.goto (-32), 3) := by decide +kernel
theorem dX7_init_50 : decode cX7_init 50 = .ok (.return_, 1) := by decide +kernel
theorem dX8_init_0 : decode cX8_init 0 = .ok (.aload_n 0, 1) := by decide +kernel
theorem dX8_init_1 : decode cX8_init 1 = .ok (.invokespecial 3, 3) := by decide +kernel
theorem dX8_init_4 : decode cX8_init 4 = .ok (.aload_n 0, 1) := by decide +kernel
theorem dX8_init_5 : decode cX8_init 5 = .ok (.iconst 0, 1) := by decide +kernel
theorem dX8_init_6 : decode cX8_init 6 = .ok (.putfield 9, 3) := by decide +kernel
theorem dX8_init_9 : decode cX8_init 9 = .ok (.aload_n 0, 1) := by decide +kernel
theorem dX8_init_10 : decode cX8_init 10 = .ok (.sipush 255, 3) := by decide +kernel
theorem dX8_init_13 : decode cX8_init 13 = .ok (.newarray .int, 2) := by decide +kernel
theorem dX8_init_15 : decode cX8_init 15 = .ok (.putfield 15, 3) := by decide +kernel
theorem dX8_init_18 : decode cX8_init 18 = .ok (.aload_n 0, 1) := by decide +kernel
theorem dX8_init_19 : decode cX8_init 19 = .ok (.getfield 15, 3) := by decide +kernel
theorem dX8_init_22 : decode cX8_init 22 = .ok (.iconst (-1), 1) := by decide +kernel
theorem dX8_init_23 : decode cX8_init 23 = .ok (.invokestatic 19, 3) := by decide +kernel
theorem dX8_init_26 : decode cX8_init 26 = .ok (.return_, 1) := by decide +kernel
theorem dX8_levelOf_0 : decode cX8_levelOf 0 = .ok (.iconst 0, 1) := by decide +kernel
theorem dX8_levelOf_1 : decode cX8_levelOf 1 = .ok (.istore_n 1, 1) := by decide +kernel
theorem dX8_levelOf_2 : decode cX8_levelOf 2 = .ok (.iload_n 1, 1) := by decide +kernel
theorem dX8_levelOf_3 : decode cX8_levelOf 3 = .ok (.iconst 4, 1) := by decide +kernel
theorem dX8_levelOf_4 : decode cX8_levelOf 4 = .ok (.if_icmp .ge 18, 3) := by decide +kernel
theorem dX8_levelOf_7 : decode cX8_levelOf 7 = .ok (.iconst 1, 1) := by decide +kernel
theorem dX8_levelOf_8 : decode cX8_levelOf 8 = .ok (.iload_n 1, 1) := by decide +kernel
theorem dX8_levelOf_9 : decode cX8_levelOf 9 = .ok (.ishl, 1) := by decide +kernel
theorem dX8_levelOf_10 : decode cX8_levelOf 10 = .ok (.iload_n 0, 1) := by decide +kernel
theorem dX8_levelOf_11 : decode cX8_levelOf 11 = .ok (.if_icmp .ne 5, 3) := by decide +kernel
theorem dX8_levelOf_14 : decode cX8_levelOf 14 = .ok (.iload_n 1, 1) := by decide +kernel
theorem dX8_levelOf_15 : decode cX8_levelOf 15 = .ok (.ireturn, 1) := by decide +kernel
theorem dX8_levelOf_16 : decode cX8_levelOf 16 = .ok (.iinc 1 1, 3) := by decide +kernel
theorem dX8_levelOf_19 : decode cX8_levelOf 19 = .ok (.goto (-17), 3) := by decide +kernel
theorem dX8_levelOf_22 : decode cX8_levelOf 22 = .ok (.iconst (-1), 1) := by decide +kernel
theorem dX8_levelOf_23 : decode cX8_levelOf 23 = .ok (.ireturn, 1) := by decide +kernel
theorem dX8_isTile_0 : decode cX8_isTile 0 = .ok (.iload_n 0, 1) := by decide +kernel
theorem dX8_isTile_1 : decode cX8_isTile 1 = .ok (.invokestatic 25, 3) := by decide +kernel
theorem dX8_isTile_4 : decode cX8_isTile 4 = .ok (.istore 4, 2) := by decide +kernel
theorem dX8_isTile_6 : decode cX8_isTile 6 = .ok (.iload 4, 2) := by decide +kernel
theorem dX8_isTile_8 : decode cX8_isTile 8 = .ok (.iconst (-1), 1) := by decide +kernel
theorem dX8_isTile_9 : decode cX8_isTile 9 = .ok (.if_icmp .eq 10, 3) := by decide +kernel
theorem dX8_isTile_12 : decode cX8_isTile 12 = .ok (.iload_n 1, 1) := by decide +kernel
theorem dX8_isTile_13 : decode cX8_isTile 13 = .ok (.invokestatic 29, 3) := by decide +kernel
theorem dX8_isTile_16 : decode cX8_isTile 16 = .ok (.ifCond .ne 5, 3) := by decide +kernel
theorem dX8_isTile_19 : decode cX8_isTile 19 = .ok (.iconst 0, 1) := by decide +kernel
theorem dX8_isTile_20 : decode cX8_isTile 20 = .ok (.ireturn, 1) := by decide +kernel
theorem dX8_isTile_21 : decode cX8_isTile 21 = .ok (.bipush 8, 2) := by decide +kernel
theorem dX8_isTile_23 : decode cX8_isTile 23 = .ok (.iload 4, 2) := by decide +kernel
theorem dX8_isTile_25 : decode cX8_isTile 25 = .ok (.ishr, 1) := by decide +kernel
theorem dX8_isTile_26 : decode cX8_isTile 26 = .ok (.iconst 1, 1) := by decide +kernel
theorem dX8_isTile_27 : decode cX8_isTile 27 = .ok (.isub, 1) := by decide +kernel
theorem dX8_isTile_28 : decode cX8_isTile 28 = .ok (.istore 5, 2) := by decide +kernel
theorem dX8_isTile_30 : decode cX8_isTile 30 = .ok (.iload_n 2, 1) := by decide +kernel
theorem dX8_isTile_31 : decode cX8_isTile 31 = .ok (.iload 5, 2) := by decide +kernel
theorem dX8_isTile_33 : decode cX8_isTile 33 = .ok (.invokestatic 33, 3) := by decide +kernel
theorem dX8_isTile_36 : decode cX8_isTile 36 = .ok (.ifCond .eq 16, 3) := by decide +kernel
theorem dX8_isTile_39 : decode cX8_isTile 39 = .ok (.iload_n 3, 1) := by decide +kernel
theorem dX8_isTile_40 : decode cX8_isTile 40 = .ok (.iload 5, 2) := by decide +kernel
theorem dX8_isTile_42 : decode cX8_isTile 42 = .ok (.invokestatic 33, 3) := by decide +kernel
theorem dX8_isTile_45 : decode cX8_isTile 45 = .ok (.ifCond .eq 7, 3) := by decide +kernel
theorem dX8_isTile_48 : decode cX8_isTile 48 = .ok (.iconst 1, 1) := by decide +kernel
theorem dX8_isTile_49 : decode cX8_isTile 49 = .ok (.goto 4, 3) := by decide +kernel
theorem dX8_isTile_52 : decode cX8_isTile 52 = .ok (.iconst 0, 1) := by decide +kernel
theorem dX8_isTile_53 : decode cX8_isTile 53 = .ok (.ireturn, 1) := by decide +kernel
theorem dX8_slotOf_0 : decode cX8_slotOf 0 = .ok (.iload_n 0, 1) := by decide +kernel
theorem dX8_slotOf_1 : decode cX8_slotOf 1 = .ok (.ifCond .lt 16, 3) := by decide +kernel
theorem dX8_slotOf_4 : decode cX8_slotOf 4 = .ok (.iload_n 0, 1) := by decide +kernel
theorem dX8_slotOf_5 : decode cX8_slotOf 5 = .ok (.iconst 4, 1) := by decide +kernel
theorem dX8_slotOf_6 : decode cX8_slotOf 6 = .ok (.if_icmp .ge 11, 3) := by decide +kernel
theorem dX8_slotOf_9 : decode cX8_slotOf 9 = .ok (.getstatic 37, 3) := by decide +kernel
theorem dX8_slotOf_12 : decode cX8_slotOf 12 = .ok (.iload_n 0, 1) := by decide +kernel
theorem dX8_slotOf_13 : decode cX8_slotOf 13 = .ok (.iaload, 1) := by decide +kernel
theorem dX8_slotOf_14 : decode cX8_slotOf 14 = .ok (.goto 4, 3) := by decide +kernel
theorem dX8_slotOf_17 : decode cX8_slotOf 17 = .ok (.iconst 0, 1) := by decide +kernel
theorem dX8_slotOf_18 : decode cX8_slotOf 18 = .ok (.istore 4, 2) := by decide +kernel
theorem dX8_slotOf_20 : decode cX8_slotOf 20 = .ok (.bipush 85, 2) := by decide +kernel
theorem dX8_slotOf_22 : decode cX8_slotOf 22 = .ok (.iload_n 1, 1) := by decide +kernel
theorem dX8_slotOf_23 : decode cX8_slotOf 23 = .ok (.imul, 1) := by decide +kernel
theorem dX8_slotOf_24 : decode cX8_slotOf 24 = .ok (.iload 4, 2) := by decide +kernel
theorem dX8_slotOf_26 : decode cX8_slotOf 26 = .ok (.iadd, 1) := by decide +kernel
theorem dX8_slotOf_27 : decode cX8_slotOf 27 = .ok (.bipush 8, 2) := by decide +kernel
theorem dX8_slotOf_29 : decode cX8_slotOf 29 = .ok (.iload_n 0, 1) := by decide +kernel
theorem dX8_slotOf_30 : decode cX8_slotOf 30 = .ok (.ishr, 1) := by decide +kernel
theorem dX8_slotOf_31 : decode cX8_slotOf 31 = .ok (.iload_n 3, 1) := by decide +kernel
theorem dX8_slotOf_32 : decode cX8_slotOf 32 = .ok (.imul, 1) := by decide +kernel
theorem dX8_slotOf_33 : decode cX8_slotOf 33 = .ok (.iadd, 1) := by decide +kernel
theorem dX8_slotOf_34 : decode cX8_slotOf 34 = .ok (.iload_n 2, 1) := by decide +kernel
theorem dX8_slotOf_35 : decode cX8_slotOf 35 = .ok (.iadd, 1) := by decide +kernel
theorem dX8_slotOf_36 : decode cX8_slotOf 36 = .ok (.ireturn, 1) := by decide +kernel
theorem dX8_holds_0 : decode cX8_holds 0 = .ok (.iload_n 1, 1) := by decide +kernel
theorem dX8_holds_1 : decode cX8_holds 1 = .ok (.iload_n 2, 1) := by decide +kernel
theorem dX8_holds_2 : decode cX8_holds 2 = .ok (.iload_n 3, 1) := by decide +kernel
theorem dX8_holds_3 : decode cX8_holds 3 = .ok (.iload 4, 2) := by decide +kernel
theorem dX8_holds_5 : decode cX8_holds 5 = .ok (.invokestatic 40, 3) := by decide +kernel
theorem dX8_holds_8 : decode cX8_holds 8 = .ok (.istore 5, 2) := by decide +kernel
theorem dX8_holds_10 : decode cX8_holds 10 = .ok (.iload 5, 2) := by decide +kernel
theorem dX8_holds_12 : decode cX8_holds 12 = .ok (.ifCond .lt 28, 3) := by decide +kernel
theorem dX8_holds_15 : decode cX8_holds 15 = .ok (.iload 5, 2) := by decide +kernel
theorem dX8_holds_17 : decode cX8_holds 17 = .ok (.aload_n 0, 1) := by decide +kernel
theorem dX8_holds_18 : decode cX8_holds 18 = .ok (.getfield 15, 3) := by decide +kernel
theorem dX8_holds_21 : decode cX8_holds 21 = .ok (.arraylength, 1) := by decide +kernel
theorem dX8_holds_22 : decode cX8_holds 22 = .ok (.if_icmp .ge 18, 3) := by decide +kernel
theorem dX8_holds_25 : decode cX8_holds 25 = .ok (.aload_n 0, 1) := by decide +kernel
theorem dX8_holds_26 : decode cX8_holds 26 = .ok (.getfield 15, 3) := by decide +kernel
theorem dX8_holds_29 : decode cX8_holds 29 = .ok (.iload 5, 2) := by decide +kernel
theorem dX8_holds_31 : decode cX8_holds 31 = .ok (.iaload, 1) := by decide +kernel
theorem dX8_holds_32 : decode cX8_holds 32 = .ok (.iconst (-1), 1) := by decide +kernel
theorem dX8_holds_33 : decode cX8_holds 33 = .ok (.if_icmp .eq 7, 3) := by decide +kernel
theorem dX8_holds_36 : decode cX8_holds 36 = .ok (.iconst 1, 1) := by decide +kernel
theorem dX8_holds_37 : decode cX8_holds 37 = .ok (.goto 4, 3) := by decide +kernel
theorem dX8_holds_40 : decode cX8_holds 40 = .ok (.iconst 0, 1) := by decide +kernel
theorem dX8_holds_41 : decode cX8_holds 41 = .ok (.ireturn, 1) := by decide +kernel
theorem dX8_ask_0 : decode cX8_ask 0 = .ok (.iload_n 2, 1) := by decide +kernel
theorem dX8_ask_1 : decode cX8_ask 1 = .ok (.iload_n 3, 1) := by decide +kernel
theorem dX8_ask_2 : decode cX8_ask 2 = .ok (.iload 4, 2) := by decide +kernel
theorem dX8_ask_4 : decode cX8_ask 4 = .ok (.iload 5, 2) := by decide +kernel
theorem dX8_ask_6 : decode cX8_ask 6 = .ok (.invokestatic 40, 3) := by decide +kernel
theorem dX8_ask_9 : decode cX8_ask 9 = .ok (.istore 6, 2) := by decide +kernel
theorem dX8_ask_11 : decode cX8_ask 11 = .ok (.iload 6, 2) := by decide +kernel
theorem dX8_ask_13 : decode cX8_ask 13 = .ok (.ifCond .lt 13, 3) := by decide +kernel
theorem dX8_ask_16 : decode cX8_ask 16 = .ok (.iload 6, 2) := by decide +kernel
theorem dX8_ask_18 : decode cX8_ask 18 = .ok (.aload_n 0, 1) := by decide +kernel
theorem dX8_ask_19 : decode cX8_ask 19 = .ok (.getfield 15, 3) := by decide +kernel
theorem dX8_ask_22 : decode cX8_ask 22 = .ok (.arraylength, 1) := by decide +kernel
theorem dX8_ask_23 : decode cX8_ask 23 = .ok (.if_icmp .lt 5, 3) := by decide +kernel
theorem dX8_ask_26 : decode cX8_ask 26 = .ok (.iconst 0, 1) := by decide +kernel
theorem dX8_ask_27 : decode cX8_ask 27 = .ok (.ireturn, 1) := by decide +kernel
theorem dX8_ask_28 : decode cX8_ask 28 = .ok (.aload_n 0, 1) := by decide +kernel
theorem dX8_ask_29 : decode cX8_ask 29 = .ok (.getfield 15, 3) := by decide +kernel
theorem dX8_ask_32 : decode cX8_ask 32 = .ok (.iload 6, 2) := by decide +kernel
theorem dX8_ask_34 : decode cX8_ask 34 = .ok (.iaload, 1) := by decide +kernel
theorem dX8_ask_35 : decode cX8_ask 35 = .ok (.iconst (-1), 1) := by decide +kernel
theorem dX8_ask_36 : decode cX8_ask 36 = .ok (.if_icmp .ne 30, 3) := by decide +kernel
theorem dX8_ask_39 : decode cX8_ask 39 = .ok (.aload_n 0, 1) := by decide +kernel
theorem dX8_ask_40 : decode cX8_ask 40 = .ok (.getfield 15, 3) := by decide +kernel
theorem dX8_ask_43 : decode cX8_ask 43 = .ok (.iload 6, 2) := by decide +kernel
theorem dX8_ask_45 : decode cX8_ask 45 = .ok (.aload_n 1, 1) := by decide +kernel
theorem dX8_ask_46 : decode cX8_ask 46 = .ok (.iload_n 2, 1) := by decide +kernel
theorem dX8_ask_47 : decode cX8_ask 47 = .ok (.iload_n 3, 1) := by decide +kernel
theorem dX8_ask_48 : decode cX8_ask 48 = .ok (.iload 4, 2) := by decide +kernel
theorem dX8_ask_50 : decode cX8_ask 50 = .ok (.iload 5, 2) := by decide +kernel
theorem dX8_ask_52 : decode cX8_ask 52 = .ok (.invokestatic 44, 3) := by decide +kernel
theorem dX8_ask_55 : decode cX8_ask 55 = .ok (.iastore, 1) := by decide +kernel
theorem dX8_ask_56 : decode cX8_ask 56 = .ok (.aload_n 0, 1) := by decide +kernel
theorem dX8_ask_57 : decode cX8_ask 57 = .ok (.dup, 1) := by decide +kernel
theorem dX8_ask_58 : decode cX8_ask 58 = .ok (.getfield 9, 3) := by decide +kernel
theorem dX8_ask_61 : decode cX8_ask 61 = .ok (.iconst 1, 1) := by decide +kernel
theorem dX8_ask_62 : decode cX8_ask 62 = .ok (.iadd, 1) := by decide +kernel
theorem dX8_ask_63 : decode cX8_ask 63 = .ok (.putfield 9, 3) := by decide +kernel
theorem dX8_ask_66 : decode cX8_ask 66 = .ok (.aload_n 0, 1) := by decide +kernel
theorem dX8_ask_67 : decode cX8_ask 67 = .ok (.getfield 15, 3) := by decide +kernel
theorem dX8_ask_70 : decode cX8_ask 70 = .ok (.iload 6, 2) := by decide +kernel
theorem dX8_ask_72 : decode cX8_ask 72 = .ok (.iaload, 1) := by decide +kernel
theorem dX8_ask_73 : decode cX8_ask 73 = .ok (.ireturn, 1) := by decide +kernel
theorem dX8_mostCommonArea_0 : decode cX8_mostCommonArea 0 = .ok (.iconst 0, 1) := by decide +kernel
theorem dX8_mostCommonArea_1 : decode cX8_mostCommonArea 1 = .ok (.istore 5, 2) := by decide +kernel
theorem dX8_mostCommonArea_3 : decode cX8_mostCommonArea 3 = .ok (.iconst 0, 1) := by decide +kernel
theorem dX8_mostCommonArea_4 : decode cX8_mostCommonArea 4 = .ok (.istore 6, 2) := by decide +kernel
theorem dX8_mostCommonArea_6 : decode cX8_mostCommonArea 6 = .ok (.iconst 0, 1) := by decide +kernel
theorem dX8_mostCommonArea_7 : decode cX8_mostCommonArea 7 = .ok (.istore 7, 2) := by decide +kernel
theorem dX8_mostCommonArea_9 : decode cX8_mostCommonArea 9 = .ok (.iload 7, 2) := by decide +kernel
theorem dX8_mostCommonArea_11 : decode cX8_mostCommonArea 11 = .ok (.bipush 9, 2) := by decide +kernel
theorem dX8_mostCommonArea_13 : decode cX8_mostCommonArea 13 = .ok (.if_icmp .gt 37, 3) := by decide +kernel
theorem dX8_mostCommonArea_16 : decode cX8_mostCommonArea 16 = .ok (.aload_n 0, 1) := by decide +kernel
theorem dX8_mostCommonArea_17 : decode cX8_mostCommonArea 17 = .ok (.iload_n 2, 1) := by decide +kernel
theorem dX8_mostCommonArea_18 : decode cX8_mostCommonArea 18 = .ok (.iload 7, 2) := by decide +kernel
theorem dX8_mostCommonArea_20 : decode cX8_mostCommonArea 20 = .ok (.iload_n 1, 1) := by decide +kernel
theorem dX8_mostCommonArea_21 : decode cX8_mostCommonArea 21 = .ok (.iload_n 3, 1) := by decide +kernel
theorem dX8_mostCommonArea_22 : decode cX8_mostCommonArea 22 = .ok (.iload 4, 2) := by decide +kernel
theorem dX8_mostCommonArea_24 : decode cX8_mostCommonArea 24 = .ok (.invokestatic 48, 3) := by decide +kernel
theorem dX8_mostCommonArea_27 : decode cX8_mostCommonArea 27 = .ok (.istore 8, 2) := by decide +kernel
theorem dX8_mostCommonArea_29 : decode cX8_mostCommonArea 29 = .ok (.iload 8, 2) := by decide +kernel
theorem dX8_mostCommonArea_31 : decode cX8_mostCommonArea 31 = .ok (.iload 6, 2) := by decide +kernel
theorem dX8_mostCommonArea_33 : decode cX8_mostCommonArea 33 = .ok (.if_icmp .le 11, 3) := by decide +kernel
theorem dX8_mostCommonArea_36 : decode cX8_mostCommonArea 36 = .ok (.iload 7, 2) := by decide +kernel
theorem dX8_mostCommonArea_38 : decode cX8_mostCommonArea 38 = .ok (.istore 5, 2) := by decide +kernel
theorem dX8_mostCommonArea_40 : decode cX8_mostCommonArea 40 = .ok (.iload 8, 2) := by decide +kernel
theorem dX8_mostCommonArea_42 : decode cX8_mostCommonArea 42 = .ok (.istore 6, 2) := by decide +kernel
theorem dX8_mostCommonArea_44 : decode cX8_mostCommonArea 44 = .ok (.iinc 7 1, 3) := by decide +kernel
theorem dX8_mostCommonArea_47 : decode cX8_mostCommonArea 47 = .ok (.goto (-38), 3) := by decide +kernel
theorem dX8_mostCommonArea_50 : decode cX8_mostCommonArea 50 = .ok (.iload 5, 2) := by decide +kernel
theorem dX8_mostCommonArea_52 : decode cX8_mostCommonArea 52 = .ok (.ireturn, 1) := by decide +kernel
theorem dX8_throwOutUnlike_0 : decode cX8_throwOutUnlike 0 = .ok (.iconst 0, 1) := by decide +kernel
theorem dX8_throwOutUnlike_1 : decode cX8_throwOutUnlike 1 = .ok (.istore_n 3, 1) := by decide +kernel
theorem dX8_throwOutUnlike_2 : decode cX8_throwOutUnlike 2 = .ok (.iload_n 3, 1) := by decide +kernel
theorem dX8_throwOutUnlike_3 : decode cX8_throwOutUnlike 3 = .ok (.iconst 3, 1) := by decide +kernel
theorem dX8_throwOutUnlike_4 : decode cX8_throwOutUnlike 4 = .ok (.if_icmp .ge 57, 3) := by decide +kernel
theorem dX8_throwOutUnlike_7 : decode cX8_throwOutUnlike 7 = .ok (.iconst 0, 1) := by decide +kernel
theorem dX8_throwOutUnlike_8 : decode cX8_throwOutUnlike 8 = .ok (.istore 4, 2) := by decide +kernel
theorem dX8_throwOutUnlike_10 : decode cX8_throwOutUnlike 10 = .ok (.iload 4, 2) := by decide +kernel
theorem dX8_throwOutUnlike_12 : decode cX8_throwOutUnlike 12 = .ok (.bipush 64, 2) := by decide +kernel
theorem dX8_throwOutUnlike_14 : decode cX8_throwOutUnlike 14 = .ok (.if_icmp .ge 41, 3) := by decide +kernel
theorem dX8_throwOutUnlike_17 : decode cX8_throwOutUnlike 17 = .ok (.aload_n 1, 1) := by decide +kernel
theorem dX8_throwOutUnlike_18 : decode cX8_throwOutUnlike 18 = .ok (.iload_n 3, 1) := by decide +kernel
theorem dX8_throwOutUnlike_19 : decode cX8_throwOutUnlike 19 = .ok (.iload 4, 2) := by decide +kernel
theorem dX8_throwOutUnlike_21 : decode cX8_throwOutUnlike 21 = .ok (.invokestatic 54, 3) := by decide +kernel
theorem dX8_throwOutUnlike_24 : decode cX8_throwOutUnlike 24 = .ok (.aload_n 2, 1) := by decide +kernel
theorem dX8_throwOutUnlike_25 : decode cX8_throwOutUnlike 25 = .ok (.iload_n 3, 1) := by decide +kernel
theorem dX8_throwOutUnlike_26 : decode cX8_throwOutUnlike 26 = .ok (.iload 4, 2) := by decide +kernel
theorem dX8_throwOutUnlike_28 : decode cX8_throwOutUnlike 28 = .ok (.invokestatic 54, 3) := by decide +kernel
theorem dX8_throwOutUnlike_31 : decode cX8_throwOutUnlike 31 = .ok (.if_icmp .eq 18, 3) := by decide +kernel
theorem dX8_throwOutUnlike_34 : decode cX8_throwOutUnlike 34 = .ok (.aload_n 0, 1) := by decide +kernel
theorem dX8_throwOutUnlike_35 : decode cX8_throwOutUnlike 35 = .ok (.iload_n 3, 1) := by decide +kernel
theorem dX8_throwOutUnlike_36 : decode cX8_throwOutUnlike 36 = .ok (.iload 4, 2) := by decide +kernel
theorem dX8_throwOutUnlike_38 : decode cX8_throwOutUnlike 38 = .ok (.bipush 8, 2) := by decide +kernel
theorem dX8_throwOutUnlike_40 : decode cX8_throwOutUnlike 40 = .ok (.irem, 1) := by decide +kernel
theorem dX8_throwOutUnlike_41 : decode cX8_throwOutUnlike 41 = .ok (.iload 4, 2) := by decide +kernel
theorem dX8_throwOutUnlike_43 : decode cX8_throwOutUnlike 43 = .ok (.bipush 8, 2) := by decide +kernel
theorem dX8_throwOutUnlike_45 : decode cX8_throwOutUnlike 45 = .ok (.idiv, 1) := by decide +kernel
theorem dX8_throwOutUnlike_46 : decode cX8_throwOutUnlike 46 = .ok (.invokevirtual 58, 3) := by decide +kernel
theorem dX8_throwOutUnlike_49 : decode cX8_throwOutUnlike 49 = .ok (.iinc 4 1, 3) := by decide +kernel
theorem dX8_throwOutUnlike_52 : decode cX8_throwOutUnlike 52 = .ok (.goto (-42), 3) := by decide +kernel
theorem dX8_throwOutUnlike_55 : decode cX8_throwOutUnlike 55 = .ok (.iinc 3 1, 3) := by decide +kernel
theorem dX8_throwOutUnlike_58 : decode cX8_throwOutUnlike 58 = .ok (.goto (-56), 3) := by decide +kernel
theorem dX8_throwOutUnlike_61 : decode cX8_throwOutUnlike 61 = .ok (.return_, 1) := by decide +kernel
theorem dX8_throwOutOver_0 : decode cX8_throwOutOver 0 = .ok (.iconst 0, 1) := by decide +kernel
theorem dX8_throwOutOver_1 : decode cX8_throwOutOver 1 = .ok (.istore 4, 2) := by decide +kernel
theorem dX8_throwOutOver_3 : decode cX8_throwOutOver 3 = .ok (.iload 4, 2) := by decide +kernel
theorem dX8_throwOutOver_5 : decode cX8_throwOutOver 5 = .ok (.iconst 4, 1) := by decide +kernel
theorem dX8_throwOutOver_6 : decode cX8_throwOutOver 6 = .ok (.if_icmp .ge 48, 3) := by decide +kernel
theorem dX8_throwOutOver_9 : decode cX8_throwOutOver 9 = .ok (.iload 4, 2) := by decide +kernel
theorem dX8_throwOutOver_11 : decode cX8_throwOutOver 11 = .ok (.iload_n 1, 1) := by decide +kernel
theorem dX8_throwOutOver_12 : decode cX8_throwOutOver 12 = .ok (.iload_n 2, 1) := by decide +kernel
theorem dX8_throwOutOver_13 : decode cX8_throwOutOver 13 = .ok (.iload 4, 2) := by decide +kernel
theorem dX8_throwOutOver_15 : decode cX8_throwOutOver 15 = .ok (.ishr, 1) := by decide +kernel
theorem dX8_throwOutOver_16 : decode cX8_throwOutOver 16 = .ok (.iload_n 3, 1) := by decide +kernel
theorem dX8_throwOutOver_17 : decode cX8_throwOutOver 17 = .ok (.iload 4, 2) := by decide +kernel
theorem dX8_throwOutOver_19 : decode cX8_throwOutOver 19 = .ok (.ishr, 1) := by decide +kernel
theorem dX8_throwOutOver_20 : decode cX8_throwOutOver 20 = .ok (.invokestatic 40, 3) := by decide +kernel
theorem dX8_throwOutOver_23 : decode cX8_throwOutOver 23 = .ok (.istore 5, 2) := by decide +kernel
theorem dX8_throwOutOver_25 : decode cX8_throwOutOver 25 = .ok (.iload 5, 2) := by decide +kernel
theorem dX8_throwOutOver_27 : decode cX8_throwOutOver 27 = .ok (.ifCond .lt 21, 3) := by decide +kernel
theorem dX8_throwOutOver_30 : decode cX8_throwOutOver 30 = .ok (.iload 5, 2) := by decide +kernel
theorem dX8_throwOutOver_32 : decode cX8_throwOutOver 32 = .ok (.aload_n 0, 1) := by decide +kernel
theorem dX8_throwOutOver_33 : decode cX8_throwOutOver 33 = .ok (.getfield 15, 3) := by decide +kernel
theorem dX8_throwOutOver_36 : decode cX8_throwOutOver 36 = .ok (.arraylength, 1) := by decide +kernel
theorem dX8_throwOutOver_37 : decode cX8_throwOutOver 37 = .ok (.if_icmp .ge 11, 3) := by decide +kernel
theorem dX8_throwOutOver_40 : decode cX8_throwOutOver 40 = .ok (.aload_n 0, 1) := by decide +kernel
theorem dX8_throwOutOver_41 : decode cX8_throwOutOver 41 = .ok (.getfield 15, 3) := by decide +kernel
theorem dX8_throwOutOver_44 : decode cX8_throwOutOver 44 = .ok (.iload 5, 2) := by decide +kernel
theorem dX8_throwOutOver_46 : decode cX8_throwOutOver 46 = .ok (.iconst (-1), 1) := by decide +kernel
theorem dX8_throwOutOver_47 : decode cX8_throwOutOver 47 = .ok (.iastore, 1) := by decide +kernel
theorem dX8_throwOutOver_48 : decode cX8_throwOutOver 48 = .ok (.iinc 4 1, 3) := by decide +kernel
theorem dX8_throwOutOver_51 : decode cX8_throwOutOver 51 = .ok (.goto (-48), 3) := by decide +kernel
theorem dX8_throwOutOver_54 : decode cX8_throwOutOver 54 = .ok (.return_, 1) := by decide +kernel
theorem dX8_areRight_0 : decode cX8_areRight 0 = .ok (.iconst 0, 1) := by decide +kernel
theorem dX8_areRight_1 : decode cX8_areRight 1 = .ok (.istore_n 2, 1) := by decide +kernel
theorem dX8_areRight_2 : decode cX8_areRight 2 = .ok (.iload_n 2, 1) := by decide +kernel
theorem dX8_areRight_3 : decode cX8_areRight 3 = .ok (.iconst 3, 1) := by decide +kernel
theorem dX8_areRight_4 : decode cX8_areRight 4 = .ok (.if_icmp .ge 34, 3) := by decide +kernel
theorem dX8_areRight_7 : decode cX8_areRight 7 = .ok (.iconst 0, 1) := by decide +kernel
theorem dX8_areRight_8 : decode cX8_areRight 8 = .ok (.istore_n 3, 1) := by decide +kernel
theorem dX8_areRight_9 : decode cX8_areRight 9 = .ok (.iload_n 3, 1) := by decide +kernel
theorem dX8_areRight_10 : decode cX8_areRight 10 = .ok (.iconst 4, 1) := by decide +kernel
theorem dX8_areRight_11 : decode cX8_areRight 11 = .ok (.if_icmp .ge 21, 3) := by decide +kernel
theorem dX8_areRight_14 : decode cX8_areRight 14 = .ok (.aload_n 0, 1) := by decide +kernel
theorem dX8_areRight_15 : decode cX8_areRight 15 = .ok (.aload_n 1, 1) := by decide +kernel
theorem dX8_areRight_16 : decode cX8_areRight 16 = .ok (.iload_n 3, 1) := by decide +kernel
theorem dX8_areRight_17 : decode cX8_areRight 17 = .ok (.iload_n 2, 1) := by decide +kernel
theorem dX8_areRight_18 : decode cX8_areRight 18 = .ok (.invokevirtual 62, 3) := by decide +kernel
theorem dX8_areRight_21 : decode cX8_areRight 21 = .ok (.ifCond .ne 5, 3) := by decide +kernel
theorem dX8_areRight_24 : decode cX8_areRight 24 = .ok (.iconst 0, 1) := by decide +kernel
theorem dX8_areRight_25 : decode cX8_areRight 25 = .ok (.ireturn, 1) := by decide +kernel
theorem dX8_areRight_26 : decode cX8_areRight 26 = .ok (.iinc 3 1, 3) := by decide +kernel
theorem dX8_areRight_29 : decode cX8_areRight 29 = .ok (.goto (-20), 3) := by decide +kernel
theorem dX8_areRight_32 : decode cX8_areRight 32 = .ok (.iinc 2 1, 3) := by decide +kernel
theorem dX8_areRight_35 : decode cX8_areRight 35 = .ok (.goto (-33), 3) := by decide +kernel
theorem dX8_areRight_38 : decode cX8_areRight 38 = .ok (.iconst 1, 1) := by decide +kernel
theorem dX8_areRight_39 : decode cX8_areRight 39 = .ok (.ireturn, 1) := by decide +kernel
theorem dX8_areRightOn_0 : decode cX8_areRightOn 0 = .ok (.bipush 8, 2) := by decide +kernel
theorem dX8_areRightOn_2 : decode cX8_areRightOn 2 = .ok (.iload_n 2, 1) := by decide +kernel
theorem dX8_areRightOn_3 : decode cX8_areRightOn 3 = .ok (.ishr, 1) := by decide +kernel
theorem dX8_areRightOn_4 : decode cX8_areRightOn 4 = .ok (.istore 4, 2) := by decide +kernel
theorem dX8_areRightOn_6 : decode cX8_areRightOn 6 = .ok (.iconst 0, 1) := by decide +kernel
theorem dX8_areRightOn_7 : decode cX8_areRightOn 7 = .ok (.istore 5, 2) := by decide +kernel
theorem dX8_areRightOn_9 : decode cX8_areRightOn 9 = .ok (.iload 5, 2) := by decide +kernel
theorem dX8_areRightOn_11 : decode cX8_areRightOn 11 = .ok (.iload 4, 2) := by decide +kernel
theorem dX8_areRightOn_13 : decode cX8_areRightOn 13 = .ok (.if_icmp .ge 71, 3) := by decide +kernel
theorem dX8_areRightOn_16 : decode cX8_areRightOn 16 = .ok (.iconst 0, 1) := by decide +kernel
theorem dX8_areRightOn_17 : decode cX8_areRightOn 17 = .ok (.istore 6, 2) := by decide +kernel
theorem dX8_areRightOn_19 : decode cX8_areRightOn 19 = .ok (.iload 6, 2) := by decide +kernel
theorem dX8_areRightOn_21 : decode cX8_areRightOn 21 = .ok (.iload 4, 2) := by decide +kernel
theorem dX8_areRightOn_23 : decode cX8_areRightOn 23 = .ok (.if_icmp .ge 55, 3) := by decide +kernel
theorem dX8_areRightOn_26 : decode cX8_areRightOn 26 = .ok (.iload_n 2, 1) := by decide +kernel
theorem dX8_areRightOn_27 : decode cX8_areRightOn 27 = .ok (.iload_n 3, 1) := by decide +kernel
theorem dX8_areRightOn_28 : decode cX8_areRightOn 28 = .ok (.iload 6, 2) := by decide +kernel
theorem dX8_areRightOn_30 : decode cX8_areRightOn 30 = .ok (.iload 5, 2) := by decide +kernel
theorem dX8_areRightOn_32 : decode cX8_areRightOn 32 = .ok (.invokestatic 40, 3) := by decide +kernel
theorem dX8_areRightOn_35 : decode cX8_areRightOn 35 = .ok (.istore 7, 2) := by decide +kernel
theorem dX8_areRightOn_37 : decode cX8_areRightOn 37 = .ok (.aload_n 0, 1) := by decide +kernel
theorem dX8_areRightOn_38 : decode cX8_areRightOn 38 = .ok (.iload_n 2, 1) := by decide +kernel
theorem dX8_areRightOn_39 : decode cX8_areRightOn 39 = .ok (.iload_n 3, 1) := by decide +kernel
theorem dX8_areRightOn_40 : decode cX8_areRightOn 40 = .ok (.iload 6, 2) := by decide +kernel
theorem dX8_areRightOn_42 : decode cX8_areRightOn 42 = .ok (.iload 5, 2) := by decide +kernel
theorem dX8_areRightOn_44 : decode cX8_areRightOn 44 = .ok (.invokevirtual 66, 3) := by decide +kernel
theorem dX8_areRightOn_47 : decode cX8_areRightOn 47 = .ok (.ifCond .eq 25, 3) := by decide +kernel
theorem dX8_areRightOn_50 : decode cX8_areRightOn 50 = .ok (.aload_n 0, 1) := by decide +kernel
theorem dX8_areRightOn_51 : decode cX8_areRightOn 51 = .ok (.getfield 15, 3) := by decide +kernel
theorem dX8_areRightOn_54 : decode cX8_areRightOn 54 = .ok (.iload 7, 2) := by decide +kernel
theorem dX8_areRightOn_56 : decode cX8_areRightOn 56 = .ok (.iaload, 1) := by decide +kernel
theorem dX8_areRightOn_57 : decode cX8_areRightOn 57 = .ok (.aload_n 1, 1) := by decide +kernel
theorem dX8_areRightOn_58 : decode cX8_areRightOn 58 = .ok (.iload_n 2, 1) := by decide +kernel
theorem dX8_areRightOn_59 : decode cX8_areRightOn 59 = .ok (.iload_n 3, 1) := by decide +kernel
theorem dX8_areRightOn_60 : decode cX8_areRightOn 60 = .ok (.iload 6, 2) := by decide +kernel
theorem dX8_areRightOn_62 : decode cX8_areRightOn 62 = .ok (.iload 5, 2) := by decide +kernel
theorem dX8_areRightOn_64 : decode cX8_areRightOn 64 = .ok (.invokestatic 44, 3) := by decide +kernel
theorem dX8_areRightOn_67 : decode cX8_areRightOn 67 = .ok (.if_icmp .eq 5, 3) := by decide +kernel
theorem dX8_areRightOn_70 : decode cX8_areRightOn 70 = .ok (.iconst 0, 1) := by decide +kernel
theorem dX8_areRightOn_71 : decode cX8_areRightOn 71 = .ok (.ireturn, 1) := by decide +kernel
theorem dX8_areRightOn_72 : decode cX8_areRightOn 72 = .ok (.iinc 6 1, 3) := by decide +kernel
theorem dX8_areRightOn_75 : decode cX8_areRightOn 75 = .ok (.goto (-56), 3) := by decide +kernel
theorem dX8_areRightOn_78 : decode cX8_areRightOn 78 = .ok (.iinc 5 1, 3) := by decide +kernel
theorem dX8_areRightOn_81 : decode cX8_areRightOn 81 = .ok (.goto (-72), 3) := by decide +kernel
theorem dX8_areRightOn_84 : decode cX8_areRightOn 84 = .ok (.iconst 1, 1) := by decide +kernel
theorem dX8_areRightOn_85 : decode cX8_areRightOn 85 = .ok (.ireturn, 1) := by decide +kernel
theorem dX9_init_0 : decode cX9_init 0 = .ok (.aload_n 0, 1) := by decide +kernel
theorem dX9_init_1 : decode cX9_init 1 = .ok (.invokespecial 3, 3) := by decide +kernel
theorem dX9_init_4 : decode cX9_init 4 = .ok (.aload_n 0, 1) := by decide +kernel
theorem dX9_init_5 : decode cX9_init 5 = .ok (.iconst 0, 1) := by decide +kernel
theorem dX9_init_6 : decode cX9_init 6 = .ok (.putfield 9, 3) := by decide +kernel
theorem dX9_init_9 : decode cX9_init 9 = .ok (.aload_n 0, 1) := by decide +kernel
theorem dX9_init_10 : decode cX9_init 10 = .ok (.iconst (-1), 1) := by decide +kernel
theorem dX9_init_11 : decode cX9_init 11 = .ok (.putfield 15, 3) := by decide +kernel
theorem dX9_init_14 : decode cX9_init 14 = .ok (.aload_n 0, 1) := by decide +kernel
theorem dX9_init_15 : decode cX9_init 15 = .ok (.iconst 0, 1) := by decide +kernel
theorem dX9_init_16 : decode cX9_init 16 = .ok (.putfield 19, 3) := by decide +kernel
theorem dX9_init_19 : decode cX9_init 19 = .ok (.aload_n 0, 1) := by decide +kernel
theorem dX9_init_20 : decode cX9_init 20 = .ok (.iconst 0, 1) := by decide +kernel
theorem dX9_init_21 : decode cX9_init 21 = .ok (.putfield 22, 3) := by decide +kernel
theorem dX9_init_24 : decode cX9_init 24 = .ok (.return_, 1) := by decide +kernel
theorem dX9_begin_0 : decode cX9_begin 0 = .ok (.aload_n 0, 1) := by decide +kernel
theorem dX9_begin_1 : decode cX9_begin 1 = .ok (.iconst 1, 1) := by decide +kernel
theorem dX9_begin_2 : decode cX9_begin 2 = .ok (.putfield 9, 3) := by decide +kernel
theorem dX9_begin_5 : decode cX9_begin 5 = .ok (.aload_n 0, 1) := by decide +kernel
theorem dX9_begin_6 : decode cX9_begin 6 = .ok (.iconst (-1), 1) := by decide +kernel
theorem dX9_begin_7 : decode cX9_begin 7 = .ok (.putfield 15, 3) := by decide +kernel
theorem dX9_begin_10 : decode cX9_begin 10 = .ok (.aload_n 0, 1) := by decide +kernel
theorem dX9_begin_11 : decode cX9_begin 11 = .ok (.iload_n 1, 1) := by decide +kernel
theorem dX9_begin_12 : decode cX9_begin 12 = .ok (.putfield 19, 3) := by decide +kernel
theorem dX9_begin_15 : decode cX9_begin 15 = .ok (.aload_n 0, 1) := by decide +kernel
theorem dX9_begin_16 : decode cX9_begin 16 = .ok (.iload_n 2, 1) := by decide +kernel
theorem dX9_begin_17 : decode cX9_begin 17 = .ok (.putfield 22, 3) := by decide +kernel
theorem dX9_begin_20 : decode cX9_begin 20 = .ok (.return_, 1) := by decide +kernel
theorem dX9_placeAhead_0 : decode cX9_placeAhead 0 = .ok (.aload_n 0, 1) := by decide +kernel
theorem dX9_placeAhead_1 : decode cX9_placeAhead 1 = .ok (.getfield 9, 3) := by decide +kernel
theorem dX9_placeAhead_4 : decode cX9_placeAhead 4 = .ok (.ifCond .ne 5, 3) := by decide +kernel
theorem dX9_placeAhead_7 : decode cX9_placeAhead 7 = .ok (.iconst (-1), 1) := by decide +kernel
theorem dX9_placeAhead_8 : decode cX9_placeAhead 8 = .ok (.ireturn, 1) := by decide +kernel
theorem dX9_placeAhead_9 : decode cX9_placeAhead 9 = .ok (.aload_n 0, 1) := by decide +kernel
theorem dX9_placeAhead_10 : decode cX9_placeAhead 10 = .ok (.getfield 15, 3) := by decide +kernel
theorem dX9_placeAhead_13 : decode cX9_placeAhead 13 = .ok (.iconst 1, 1) := by decide +kernel
theorem dX9_placeAhead_14 : decode cX9_placeAhead 14 = .ok (.iadd, 1) := by decide +kernel
theorem dX9_placeAhead_15 : decode cX9_placeAhead 15 = .ok (.istore_n 2, 1) := by decide +kernel
theorem dX9_placeAhead_16 : decode cX9_placeAhead 16 = .ok (.iload_n 2, 1) := by decide +kernel
theorem dX9_placeAhead_17 : decode cX9_placeAhead 17 = .ok (.bipush 64, 2) := by decide +kernel
theorem dX9_placeAhead_19 : decode cX9_placeAhead 19 = .ok (.if_icmp .ge 27, 3) := by decide +kernel
theorem dX9_placeAhead_22 : decode cX9_placeAhead 22 = .ok (.aload_n 1, 1) := by decide +kernel
theorem dX9_placeAhead_23 : decode cX9_placeAhead 23 = .ok (.aload_n 0, 1) := by decide +kernel
theorem dX9_placeAhead_24 : decode cX9_placeAhead 24 = .ok (.getfield 19, 3) := by decide +kernel
theorem dX9_placeAhead_27 : decode cX9_placeAhead 27 = .ok (.iload_n 2, 1) := by decide +kernel
theorem dX9_placeAhead_28 : decode cX9_placeAhead 28 = .ok (.invokestatic 25, 3) := by decide +kernel
theorem dX9_placeAhead_31 : decode cX9_placeAhead 31 = .ok (.aload_n 0, 1) := by decide +kernel
theorem dX9_placeAhead_32 : decode cX9_placeAhead 32 = .ok (.getfield 22, 3) := by decide +kernel
theorem dX9_placeAhead_35 : decode cX9_placeAhead 35 = .ok (.if_icmp .ne 5, 3) := by decide +kernel
theorem dX9_placeAhead_38 : decode cX9_placeAhead 38 = .ok (.iload_n 2, 1) := by decide +kernel
theorem dX9_placeAhead_39 : decode cX9_placeAhead 39 = .ok (.ireturn, 1) := by decide +kernel
theorem dX9_placeAhead_40 : decode cX9_placeAhead 40 = .ok (.iinc 2 1, 3) := by decide +kernel
theorem dX9_placeAhead_43 : decode cX9_placeAhead 43 = .ok (.goto (-27), 3) := by decide +kernel
theorem dX9_placeAhead_46 : decode cX9_placeAhead 46 = .ok (.iconst (-1), 1) := by decide +kernel
theorem dX9_placeAhead_47 : decode cX9_placeAhead 47 = .ok (.ireturn, 1) := by decide +kernel
theorem dJx00060_init_a7421_0 : decode cJx00060_init_a7421 0 = .ok (.aload_n 0, 1) := by decide +kernel
theorem dJx00060_init_a7421_1 : decode cJx00060_init_a7421 1 = .ok (.aload_n 1, 1) := by decide +kernel
theorem dJx00060_init_a7421_2 : decode cJx00060_init_a7421 2 = .ok (.invokespecial 7, 3) := by decide +kernel
theorem dJx00060_init_a7421_5 : decode cJx00060_init_a7421 5 = .ok (.return_, 1) := by decide +kernel
theorem dJ9_abs_0f7a4_0 : decode cJ9_abs_0f7a4 0 = .ok (.iload_n 0, 1) := by decide +kernel
theorem dJ9_abs_0f7a4_1 : decode cJ9_abs_0f7a4 1 = .ok (.ifCond .ge 8, 3) := by decide +kernel
theorem dJ9_abs_0f7a4_4 : decode cJ9_abs_0f7a4 4 = .ok (.iload_n 0, 1) := by decide +kernel
theorem dJ9_abs_0f7a4_5 : decode cJ9_abs_0f7a4 5 = .ok (.ineg, 1) := by decide +kernel
theorem dJ9_abs_0f7a4_6 : decode cJ9_abs_0f7a4 6 = .ok (.goto 4, 3) := by decide +kernel
theorem dJ9_abs_0f7a4_9 : decode cJ9_abs_0f7a4 9 = .ok (.iload_n 0, 1) := by decide +kernel
theorem dJ9_abs_0f7a4_10 : decode cJ9_abs_0f7a4 10 = .ok (.ireturn, 1) := by decide +kernel
theorem dJ9_max_7cf53_0 : decode cJ9_max_7cf53 0 = .ok (.iload_n 0, 1) := by decide +kernel
theorem dJ9_max_7cf53_1 : decode cJ9_max_7cf53 1 = .ok (.iload_n 1, 1) := by decide +kernel
theorem dJ9_max_7cf53_2 : decode cJ9_max_7cf53 2 = .ok (.if_icmp .lt 7, 3) := by decide +kernel
theorem dJ9_max_7cf53_5 : decode cJ9_max_7cf53 5 = .ok (.iload_n 0, 1) := by decide +kernel
theorem dJ9_max_7cf53_6 : decode cJ9_max_7cf53 6 = .ok (.goto 4, 3) := by decide +kernel
theorem dJ9_max_7cf53_9 : decode cJ9_max_7cf53 9 = .ok (.iload_n 1, 1) := by decide +kernel
theorem dJ9_max_7cf53_10 : decode cJ9_max_7cf53 10 = .ok (.ireturn, 1) := by decide +kernel
theorem dJ9_min_7cf53_0 : decode cJ9_min_7cf53 0 = .ok (.iload_n 0, 1) := by decide +kernel
theorem dJ9_min_7cf53_1 : decode cJ9_min_7cf53 1 = .ok (.iload_n 1, 1) := by decide +kernel
theorem dJ9_min_7cf53_2 : decode cJ9_min_7cf53 2 = .ok (.if_icmp .gt 7, 3) := by decide +kernel
theorem dJ9_min_7cf53_5 : decode cJ9_min_7cf53 5 = .ok (.iload_n 0, 1) := by decide +kernel
theorem dJ9_min_7cf53_6 : decode cJ9_min_7cf53 6 = .ok (.goto 4, 3) := by decide +kernel
theorem dJ9_min_7cf53_9 : decode cJ9_min_7cf53 9 = .ok (.iload_n 1, 1) := by decide +kernel
theorem dJ9_min_7cf53_10 : decode cJ9_min_7cf53 10 = .ok (.ireturn, 1) := by decide +kernel
theorem dJ7_fill_53178_0 : decode cJ7_fill_53178 0 = .ok (.iconst 0, 1) := by decide +kernel
theorem dJ7_fill_53178_1 : decode cJ7_fill_53178 1 = .ok (.istore_n 2, 1) := by decide +kernel
theorem dJ7_fill_53178_2 : decode cJ7_fill_53178 2 = .ok (.aload_n 0, 1) := by decide +kernel
theorem dJ7_fill_53178_3 : decode cJ7_fill_53178 3 = .ok (.arraylength, 1) := by decide +kernel
theorem dJ7_fill_53178_4 : decode cJ7_fill_53178 4 = .ok (.istore_n 3, 1) := by decide +kernel
theorem dJ7_fill_53178_5 : decode cJ7_fill_53178 5 = .ok (.iload_n 2, 1) := by decide +kernel
theorem dJ7_fill_53178_6 : decode cJ7_fill_53178 6 = .ok (.iload_n 3, 1) := by decide +kernel
theorem dJ7_fill_53178_7 : decode cJ7_fill_53178 7 = .ok (.if_icmp .ge 13, 3) := by decide +kernel
theorem dJ7_fill_53178_10 : decode cJ7_fill_53178 10 = .ok (.aload_n 0, 1) := by decide +kernel
theorem dJ7_fill_53178_11 : decode cJ7_fill_53178 11 = .ok (.iload_n 2, 1) := by decide +kernel
theorem dJ7_fill_53178_12 : decode cJ7_fill_53178 12 = .ok (.iload_n 1, 1) := by decide +kernel
theorem dJ7_fill_53178_13 : decode cJ7_fill_53178 13 = .ok (.iastore, 1) := by decide +kernel
theorem dJ7_fill_53178_14 : decode cJ7_fill_53178 14 = .ok (.iinc 2 1, 3) := by decide +kernel
theorem dJ7_fill_53178_17 : decode cJ7_fill_53178 17 = .ok (.goto (-12), 3) := by decide +kernel
theorem dJ7_fill_53178_20 : decode cJ7_fill_53178 20 = .ok (.return_, 1) := by decide +kernel

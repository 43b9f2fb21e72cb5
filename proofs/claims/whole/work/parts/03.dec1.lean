theorem dX10_init_0 : decode cX10_init 0 = .ok (.aload_n 0, 1) := by decide +kernel
theorem dX10_init_1 : decode cX10_init 1 = .ok (.invokespecial 1, 3) := by decide +kernel
theorem dX10_init_4 : decode cX10_init 4 = .ok (.aload_n 0, 1) := by decide +kernel
theorem dX10_init_5 : decode cX10_init 5 = .ok (.sipush 304, 3) := by decide +kernel
theorem dX10_init_8 : decode cX10_init 8 = .ok (.newarray .int, 2) := by decide +kernel
theorem dX10_init_10 : decode cX10_init 10 = .ok (.putfield 9, 3) := by decide +kernel
theorem dX10_init_13 : decode cX10_init 13 = .ok (.aload_n 0, 1) := by decide +kernel
theorem dX10_init_14 : decode cX10_init 14 = .ok (.sipush 304, 3) := by decide +kernel
theorem dX10_init_17 : decode cX10_init 17 = .ok (.newarray .int, 2) := by decide +kernel
theorem dX10_init_19 : decode cX10_init 19 = .ok (.putfield 13, 3) := by decide +kernel
theorem dX10_init_22 : decode cX10_init 22 = .ok (.aload_n 0, 1) := by decide +kernel
theorem dX10_init_23 : decode cX10_init 23 = .ok (.bipush 6, 2) := by decide +kernel
theorem dX10_init_25 : decode cX10_init 25 = .ok (.anewarray 16, 3) := by decide +kernel
theorem dX10_init_28 : decode cX10_init 28 = .ok (.putfield 18, 3) := by decide +kernel
theorem dX10_init_31 : decode cX10_init 31 = .ok (.aload_n 0, 1) := by decide +kernel
theorem dX10_init_32 : decode cX10_init 32 = .ok (.iconst 0, 1) := by decide +kernel
theorem dX10_init_33 : decode cX10_init 33 = .ok (.putfield 22, 3) := by decide +kernel
theorem dX10_init_36 : decode cX10_init 36 = .ok (.aload_n 0, 1) := by decide +kernel
theorem dX10_init_37 : decode cX10_init 37 = .ok (.iconst 4, 1) := by decide +kernel
theorem dX10_init_38 : decode cX10_init 38 = .ok (.anewarray 26, 3) := by decide +kernel
theorem dX10_init_41 : decode cX10_init 41 = .ok (.putfield 28, 3) := by decide +kernel
theorem dX10_init_44 : decode cX10_init 44 = .ok (.aload_n 0, 1) := by decide +kernel
theorem dX10_init_45 : decode cX10_init 45 = .ok (.iconst 3, 1) := by decide +kernel
theorem dX10_init_46 : decode cX10_init 46 = .ok (.anewarray 32, 3) := by decide +kernel
theorem dX10_init_49 : decode cX10_init 49 = .ok (.putfield 34, 3) := by decide +kernel
theorem dX10_init_52 : decode cX10_init 52 = .ok (.aload_n 0, 1) := by decide +kernel
theorem dX10_init_53 : decode cX10_init 53 = .ok (.iconst 0, 1) := by decide +kernel
theorem dX10_init_54 : decode cX10_init 54 = .ok (.putfield 38, 3) := by decide +kernel
theorem dX10_init_57 : decode cX10_init 57 = .ok (.aload_n 0, 1) := by decide +kernel
theorem dX10_init_58 : decode cX10_init 58 = .ok (.new 41, 3) := by decide +kernel
theorem dX10_init_61 : decode cX10_init 61 = .ok (.dup, 1) := by decide +kernel
theorem dX10_init_62 : decode cX10_init 62 = .ok (.invokespecial 43, 3) := by decide +kernel
theorem dX10_init_65 : decode cX10_init 65 = .ok (.putfield 44, 3) := by decide +kernel
theorem dX10_init_68 : decode cX10_init 68 = .ok (.aload_n 0, 1) := by decide +kernel
theorem dX10_init_69 : decode cX10_init 69 = .ok (.new 48, 3) := by decide +kernel
theorem dX10_init_72 : decode cX10_init 72 = .ok (.dup, 1) := by decide +kernel
theorem dX10_init_73 : decode cX10_init 73 = .ok (.invokespecial 50, 3) := by decide +kernel
theorem dX10_init_76 : decode cX10_init 76 = .ok (.putfield 51, 3) := by decide +kernel
theorem dX10_init_79 : decode cX10_init 79 = .ok (.aload_n 0, 1) := by decide +kernel
theorem dX10_init_80 : decode cX10_init 80 = .ok (.new 55, 3) := by decide +kernel
theorem dX10_init_83 : decode cX10_init 83 = .ok (.dup, 1) := by decide +kernel
theorem dX10_init_84 : decode cX10_init 84 = .ok (.invokespecial 57, 3) := by decide +kernel
theorem dX10_init_87 : decode cX10_init 87 = .ok (.putfield 58, 3) := by decide +kernel
theorem dX10_init_90 : decode cX10_init 90 = .ok (.aload_n 0, 1) := by decide +kernel
theorem dX10_init_91 : decode cX10_init 91 = .ok (.new 62, 3) := by decide +kernel
theorem dX10_init_94 : decode cX10_init 94 = .ok (.dup, 1) := by decide +kernel
theorem dX10_init_95 : decode cX10_init 95 = .ok (.invokespecial 64, 3) := by decide +kernel
theorem dX10_init_98 : decode cX10_init 98 = .ok (.putfield 65, 3) := by decide +kernel
theorem dX10_init_101 : decode cX10_init 101 = .ok (.aload_n 0, 1) := by decide +kernel
theorem dX10_init_102 : decode cX10_init 102 = .ok (.new 69, 3) := by decide +kernel
theorem dX10_init_105 : decode cX10_init 105 = .ok (.dup, 1) := by decide +kernel
theorem dX10_init_106 : decode cX10_init 106 = .ok (.invokespecial 71, 3) := by decide +kernel
theorem dX10_init_109 : decode cX10_init 109 = .ok (.putfield 72, 3) := by decide +kernel
theorem dX10_init_112 : decode cX10_init 112 = .ok (.iconst 0, 1) := by decide +kernel
theorem dX10_init_113 : decode cX10_init 113 = .ok (.istore_n 1, 1) := by decide +kernel
theorem dX10_init_114 : decode cX10_init 114 = .ok (.iload_n 1, 1) := by decide +kernel
theorem dX10_init_115 : decode cX10_init 115 = .ok (.iconst 4, 1) := by decide +kernel
theorem dX10_init_116 : decode cX10_init 116 = .ok (.if_icmp .ge 22, 3) := by decide +kernel
theorem dX10_init_119 : decode cX10_init 119 = .ok (.aload_n 0, 1) := by decide +kernel
theorem dX10_init_120 : decode cX10_init 120 = .ok (.getfield 28, 3) := by decide +kernel
theorem dX10_init_123 : decode cX10_init 123 = .ok (.iload_n 1, 1) := by decide +kernel
theorem dX10_init_124 : decode cX10_init 124 = .ok (.new 26, 3) := by decide +kernel
theorem dX10_init_127 : decode cX10_init 127 = .ok (.dup, 1) := by decide +kernel
theorem dX10_init_128 : decode cX10_init 128 = .ok (.invokespecial 76, 3) := by decide +kernel
theorem dX10_init_131 : decode cX10_init 131 = .ok (.aastore, 1) := by decide +kernel
theorem dX10_init_132 : decode cX10_init 132 = .ok (.iinc 1 1, 3) := by decide +kernel
theorem dX10_init_135 : decode cX10_init 135 = .ok (.goto (-21), 3) := by decide +kernel
theorem dX10_init_138 : decode cX10_init 138 = .ok (.return_, 1) := by decide +kernel
theorem dX10_rule_0 : decode cX10_rule 0 = .ok (.iload_n 1, 1) := by decide +kernel
theorem dX10_rule_1 : decode cX10_rule 1 = .ok (.iload_n 2, 1) := by decide +kernel
theorem dX10_rule_2 : decode cX10_rule 2 = .ok (.iload_n 3, 1) := by decide +kernel
theorem dX10_rule_3 : decode cX10_rule 3 = .ok (.invokestatic 77, 3) := by decide +kernel
theorem dX10_rule_6 : decode cX10_rule 6 = .ok (.invokestatic 81, 3) := by decide +kernel
theorem dX10_rule_9 : decode cX10_rule 9 = .ok (.new 16, 3) := by decide +kernel
theorem dX10_rule_12 : decode cX10_rule 12 = .ok (.dup, 1) := by decide +kernel
theorem dX10_rule_13 : decode cX10_rule 13 = .ok (.iload_n 1, 1) := by decide +kernel
theorem dX10_rule_14 : decode cX10_rule 14 = .ok (.iload_n 2, 1) := by decide +kernel
theorem dX10_rule_15 : decode cX10_rule 15 = .ok (.iload_n 3, 1) := by decide +kernel
theorem dX10_rule_16 : decode cX10_rule 16 = .ok (.invokespecial 85, 3) := by decide +kernel
theorem dX10_rule_19 : decode cX10_rule 19 = .ok (.astore 4, 2) := by decide +kernel
theorem dX10_rule_21 : decode cX10_rule 21 = .ok (.aload 4, 2) := by decide +kernel
theorem dX10_rule_23 : decode cX10_rule 23 = .ok (.aload_n 0, 1) := by decide +kernel
theorem dX10_rule_24 : decode cX10_rule 24 = .ok (.getfield 9, 3) := by decide +kernel
theorem dX10_rule_27 : decode cX10_rule 27 = .ok (.aload_n 0, 1) := by decide +kernel
theorem dX10_rule_28 : decode cX10_rule 28 = .ok (.getfield 65, 3) := by decide +kernel
theorem dX10_rule_31 : decode cX10_rule 31 = .ok (.invokevirtual 88, 3) := by decide +kernel
theorem dX10_rule_34 : decode cX10_rule 34 = .ok (.ifCond .ne 11, 3) := by decide +kernel
theorem dX10_rule_37 : decode cX10_rule 37 = .ok (.new 92, 3) := by decide +kernel
theorem dX10_rule_40 : decode cX10_rule 40 = .ok (.dup, 1) := by decide +kernel
theorem dX10_rule_41 : decode cX10_rule 41 = .ok (.invokespecial 94, 3) := by decide +kernel
theorem dX10_rule_44 : decode cX10_rule 44 = .ok (.athrow, 1) := by decide +kernel
theorem dX10_rule_45 : decode cX10_rule 45 = .ok (.aload_n 0, 1) := by decide +kernel
theorem dX10_rule_46 : decode cX10_rule 46 = .ok (.getfield 22, 3) := by decide +kernel
theorem dX10_rule_49 : decode cX10_rule 49 = .ok (.ifCond .lt 12, 3) := by decide +kernel
theorem dX10_rule_52 : decode cX10_rule 52 = .ok (.aload_n 0, 1) := by decide +kernel
theorem dX10_rule_53 : decode cX10_rule 53 = .ok (.getfield 22, 3) := by decide +kernel
theorem dX10_rule_56 : decode cX10_rule 56 = .ok (.bipush 6, 2) := by decide +kernel
theorem dX10_rule_58 : decode cX10_rule 58 = .ok (.if_icmp .lt 11, 3) := by decide +kernel
theorem dX10_rule_61 : decode cX10_rule 61 = .ok (.new 95, 3) := by decide +kernel
theorem dX10_rule_64 : decode cX10_rule 64 = .ok (.dup, 1) := by decide +kernel
theorem dX10_rule_65 : decode cX10_rule 65 = .ok (.invokespecial 97, 3) := by decide +kernel
theorem dX10_rule_68 : decode cX10_rule 68 = .ok (.athrow, 1) := by decide +kernel
theorem dX10_rule_69 : decode cX10_rule 69 = .ok (.aload_n 0, 1) := by decide +kernel
theorem dX10_rule_70 : decode cX10_rule 70 = .ok (.getfield 18, 3) := by decide +kernel
theorem dX10_rule_73 : decode cX10_rule 73 = .ok (.aload_n 0, 1) := by decide +kernel
theorem dX10_rule_74 : decode cX10_rule 74 = .ok (.getfield 22, 3) := by decide +kernel
theorem dX10_rule_77 : decode cX10_rule 77 = .ok (.aload 4, 2) := by decide +kernel
theorem dX10_rule_79 : decode cX10_rule 79 = .ok (.aastore, 1) := by decide +kernel
theorem dX10_rule_80 : decode cX10_rule 80 = .ok (.aload_n 0, 1) := by decide +kernel
theorem dX10_rule_81 : decode cX10_rule 81 = .ok (.dup, 1) := by decide +kernel
theorem dX10_rule_82 : decode cX10_rule 82 = .ok (.getfield 22, 3) := by decide +kernel
theorem dX10_rule_85 : decode cX10_rule 85 = .ok (.iconst 1, 1) := by decide +kernel
theorem dX10_rule_86 : decode cX10_rule 86 = .ok (.iadd, 1) := by decide +kernel
theorem dX10_rule_87 : decode cX10_rule 87 = .ok (.putfield 22, 3) := by decide +kernel
theorem dX10_rule_90 : decode cX10_rule 90 = .ok (.aload_n 0, 1) := by decide +kernel
theorem dX10_rule_91 : decode cX10_rule 91 = .ok (.getfield 22, 3) := by decide +kernel
theorem dX10_rule_94 : decode cX10_rule 94 = .ok (.iconst 1, 1) := by decide +kernel
theorem dX10_rule_95 : decode cX10_rule 95 = .ok (.isub, 1) := by decide +kernel
theorem dX10_rule_96 : decode cX10_rule 96 = .ok (.ireturn, 1) := by decide +kernel
theorem dX10_firstBroken_0 : decode cX10_firstBroken 0 = .ok (.iconst 0, 1) := by decide +kernel
theorem dX10_firstBroken_1 : decode cX10_firstBroken 1 = .ok (.istore_n 2, 1) := by decide +kernel
theorem dX10_firstBroken_2 : decode cX10_firstBroken 2 = .ok (.iload_n 2, 1) := by decide +kernel
theorem dX10_firstBroken_3 : decode cX10_firstBroken 3 = .ok (.aload_n 0, 1) := by decide +kernel
theorem dX10_firstBroken_4 : decode cX10_firstBroken 4 = .ok (.getfield 22, 3) := by decide +kernel
theorem dX10_firstBroken_7 : decode cX10_firstBroken 7 = .ok (.if_icmp .ge 40, 3) := by decide +kernel
theorem dX10_firstBroken_10 : decode cX10_firstBroken 10 = .ok (.iload_n 2, 1) := by decide +kernel
theorem dX10_firstBroken_11 : decode cX10_firstBroken 11 = .ok (.bipush 6, 2) := by decide +kernel
theorem dX10_firstBroken_13 : decode cX10_firstBroken 13 = .ok (.if_icmp .ge 34, 3) := by decide +kernel
theorem dX10_firstBroken_16 : decode cX10_firstBroken 16 = .ok (.aload_n 0, 1) := by decide +kernel
theorem dX10_firstBroken_17 : decode cX10_firstBroken 17 = .ok (.getfield 18, 3) := by decide +kernel
theorem dX10_firstBroken_20 : decode cX10_firstBroken 20 = .ok (.iload_n 2, 1) := by decide +kernel
theorem dX10_firstBroken_21 : decode cX10_firstBroken 21 = .ok (.aaload, 1) := by decide +kernel
theorem dX10_firstBroken_22 : decode cX10_firstBroken 22 = .ok (.astore_n 3, 1) := by decide +kernel
theorem dX10_firstBroken_23 : decode cX10_firstBroken 23 = .ok (.aload_n 3, 1) := by decide +kernel
theorem dX10_firstBroken_24 : decode cX10_firstBroken 24 = .ok (.ifnull 17, 3) := by decide +kernel
theorem dX10_firstBroken_27 : decode cX10_firstBroken 27 = .ok (.aload_n 3, 1) := by decide +kernel
theorem dX10_firstBroken_28 : decode cX10_firstBroken 28 = .ok (.aload_n 1, 1) := by decide +kernel
theorem dX10_firstBroken_29 : decode cX10_firstBroken 29 = .ok (.aload_n 0, 1) := by decide +kernel
theorem dX10_firstBroken_30 : decode cX10_firstBroken 30 = .ok (.getfield 65, 3) := by decide +kernel
theorem dX10_firstBroken_33 : decode cX10_firstBroken 33 = .ok (.invokevirtual 88, 3) := by decide +kernel
theorem dX10_firstBroken_36 : decode cX10_firstBroken 36 = .ok (.ifCond .ne 5, 3) := by decide +kernel
theorem dX10_firstBroken_39 : decode cX10_firstBroken 39 = .ok (.iload_n 2, 1) := by decide +kernel
theorem dX10_firstBroken_40 : decode cX10_firstBroken 40 = .ok (.ireturn, 1) := by decide +kernel
theorem dX10_firstBroken_41 : decode cX10_firstBroken 41 = .ok (.iinc 2 1, 3) := by decide +kernel
theorem dX10_firstBroken_44 : decode cX10_firstBroken 44 = .ok (.goto (-42), 3) := by decide +kernel
theorem dX10_firstBroken_47 : decode cX10_firstBroken 47 = .ok (.iconst (-1), 1) := by decide +kernel
theorem dX10_firstBroken_48 : decode cX10_firstBroken 48 = .ok (.ireturn, 1) := by decide +kernel
theorem dX10_open_0 : decode cX10_open 0 = .ok (.iconst 0, 1) := by decide +kernel
theorem dX10_open_1 : decode cX10_open 1 = .ok (.istore_n 1, 1) := by decide +kernel
theorem dX10_open_2 : decode cX10_open 2 = .ok (.iload_n 1, 1) := by decide +kernel
theorem dX10_open_3 : decode cX10_open 3 = .ok (.iconst 4, 1) := by decide +kernel
theorem dX10_open_4 : decode cX10_open 4 = .ok (.if_icmp .ge 37, 3) := by decide +kernel
theorem dX10_open_7 : decode cX10_open 7 = .ok (.aload_n 0, 1) := by decide +kernel
theorem dX10_open_8 : decode cX10_open 8 = .ok (.getfield 28, 3) := by decide +kernel
theorem dX10_open_11 : decode cX10_open 11 = .ok (.iload_n 1, 1) := by decide +kernel
theorem dX10_open_12 : decode cX10_open 12 = .ok (.aaload, 1) := by decide +kernel
theorem dX10_open_13 : decode cX10_open 13 = .ok (.astore_n 2, 1) := by decide +kernel
theorem dX10_open_14 : decode cX10_open 14 = .ok (.aload_n 2, 1) := by decide +kernel
theorem dX10_open_15 : decode cX10_open 15 = .ok (.ifnull 20, 3) := by decide +kernel
theorem dX10_open_18 : decode cX10_open 18 = .ok (.aload_n 2, 1) := by decide +kernel
theorem dX10_open_19 : decode cX10_open 19 = .ok (.getfield 98, 3) := by decide +kernel
theorem dX10_open_22 : decode cX10_open 22 = .ok (.ifCond .ne 13, 3) := by decide +kernel
theorem dX10_open_25 : decode cX10_open 25 = .ok (.aload_n 2, 1) := by decide +kernel
theorem dX10_open_26 : decode cX10_open 26 = .ok (.aload_n 0, 1) := by decide +kernel
theorem dX10_open_27 : decode cX10_open 27 = .ok (.getfield 9, 3) := by decide +kernel
theorem dX10_open_30 : decode cX10_open 30 = .ok (.invokevirtual 102, 3) := by decide +kernel
theorem dX10_open_33 : decode cX10_open 33 = .ok (.iload_n 1, 1) := by decide +kernel
theorem dX10_open_34 : decode cX10_open 34 = .ok (.ireturn, 1) := by decide +kernel
theorem dX10_open_35 : decode cX10_open 35 = .ok (.iinc 1 1, 3) := by decide +kernel
theorem dX10_open_38 : decode cX10_open 38 = .ok (.goto (-36), 3) := by decide +kernel
theorem dX10_open_41 : decode cX10_open 41 = .ok (.new 95, 3) := by decide +kernel
theorem dX10_open_44 : decode cX10_open 44 = .ok (.dup, 1) := by decide +kernel
theorem dX10_open_45 : decode cX10_open 45 = .ok (.invokespecial 97, 3) := by decide +kernel
theorem dX10_open_48 : decode cX10_open 48 = .ok (.athrow, 1) := by decide +kernel
theorem dX10_drop_0 : decode cX10_drop 0 = .ok (.aload_n 0, 1) := by decide +kernel
theorem dX10_drop_1 : decode cX10_drop 1 = .ok (.iload_n 1, 1) := by decide +kernel
theorem dX10_drop_2 : decode cX10_drop 2 = .ok (.invokevirtual 106, 3) := by decide +kernel
theorem dX10_drop_5 : decode cX10_drop 5 = .ok (.astore_n 2, 1) := by decide +kernel
theorem dX10_drop_6 : decode cX10_drop 6 = .ok (.aload_n 2, 1) := by decide +kernel
theorem dX10_drop_7 : decode cX10_drop 7 = .ok (.iconst 0, 1) := by decide +kernel
theorem dX10_drop_8 : decode cX10_drop 8 = .ok (.putfield 98, 3) := by decide +kernel
theorem dX10_drop_11 : decode cX10_drop 11 = .ok (.aload_n 2, 1) := by decide +kernel
theorem dX10_drop_12 : decode cX10_drop 12 = .ok (.invokevirtual 110, 3) := by decide +kernel
theorem dX10_drop_15 : decode cX10_drop 15 = .ok (.ireturn, 1) := by decide +kernel
theorem dX10_paint_0 : decode cX10_paint 0 = .ok (.aload_n 0, 1) := by decide +kernel
theorem dX10_paint_1 : decode cX10_paint 1 = .ok (.iload_n 1, 1) := by decide +kernel
theorem dX10_paint_2 : decode cX10_paint 2 = .ok (.invokevirtual 106, 3) := by decide +kernel
theorem dX10_paint_5 : decode cX10_paint 5 = .ok (.astore 6, 2) := by decide +kernel
theorem dX10_paint_7 : decode cX10_paint 7 = .ok (.iload_n 2, 1) := by decide +kernel
theorem dX10_paint_8 : decode cX10_paint 8 = .ok (.iload_n 3, 1) := by decide +kernel
theorem dX10_paint_9 : decode cX10_paint 9 = .ok (.iload 4, 2) := by decide +kernel
theorem dX10_paint_11 : decode cX10_paint 11 = .ok (.invokestatic 114, 3) := by decide +kernel
theorem dX10_paint_14 : decode cX10_paint 14 = .ok (.ifCond .eq 17, 3) := by decide +kernel
theorem dX10_paint_17 : decode cX10_paint 17 = .ok (.iload 5, 2) := by decide +kernel
theorem dX10_paint_19 : decode cX10_paint 19 = .ok (.bipush 9, 2) := by decide +kernel
theorem dX10_paint_21 : decode cX10_paint 21 = .ok (.invokestatic 118, 3) := by decide +kernel
theorem dX10_paint_24 : decode cX10_paint 24 = .ok (.ifCond .eq 7, 3) := by decide +kernel
theorem dX10_paint_27 : decode cX10_paint 27 = .ok (.iconst 1, 1) := by decide +kernel
theorem dX10_paint_28 : decode cX10_paint 28 = .ok (.goto 4, 3) := by decide +kernel
theorem dX10_paint_31 : decode cX10_paint 31 = .ok (.iconst 0, 1) := by decide +kernel
theorem dX10_paint_32 : decode cX10_paint 32 = .ok (.invokestatic 81, 3) := by decide +kernel
theorem dX10_paint_35 : decode cX10_paint 35 = .ok (.aload 6, 2) := by decide +kernel
theorem dX10_paint_37 : decode cX10_paint 37 = .ok (.iload_n 2, 1) := by decide +kernel
theorem dX10_paint_38 : decode cX10_paint 38 = .ok (.bipush 8, 2) := by decide +kernel
theorem dX10_paint_40 : decode cX10_paint 40 = .ok (.iload 4, 2) := by decide +kernel
theorem dX10_paint_42 : decode cX10_paint 42 = .ok (.imul, 1) := by decide +kernel
theorem dX10_paint_43 : decode cX10_paint 43 = .ok (.iload_n 3, 1) := by decide +kernel
theorem dX10_paint_44 : decode cX10_paint 44 = .ok (.iadd, 1) := by decide +kernel
theorem dX10_paint_45 : decode cX10_paint 45 = .ok (.invokestatic 122, 3) := by decide +kernel
theorem dX10_paint_48 : decode cX10_paint 48 = .ok (.iload 5, 2) := by decide +kernel
theorem dX10_paint_50 : decode cX10_paint 50 = .ok (.invokevirtual 128, 3) := by decide +kernel
theorem dX10_paint_53 : decode cX10_paint 53 = .ok (.aload 6, 2) := by decide +kernel
theorem dX10_paint_55 : decode cX10_paint 55 = .ok (.invokevirtual 110, 3) := by decide +kernel
theorem dX10_paint_58 : decode cX10_paint 58 = .ok (.ireturn, 1) := by decide +kernel
theorem dX10_road_0 : decode cX10_road 0 = .ok (.aload_n 0, 1) := by decide +kernel
theorem dX10_road_1 : decode cX10_road 1 = .ok (.iload_n 1, 1) := by decide +kernel
theorem dX10_road_2 : decode cX10_road 2 = .ok (.invokevirtual 106, 3) := by decide +kernel
theorem dX10_road_5 : decode cX10_road 5 = .ok (.astore 6, 2) := by decide +kernel
theorem dX10_road_7 : decode cX10_road 7 = .ok (.iload_n 2, 1) := by decide +kernel
theorem dX10_road_8 : decode cX10_road 8 = .ok (.iload 4, 2) := by decide +kernel
theorem dX10_road_10 : decode cX10_road 10 = .ok (.ifCond .eq 8, 3) := by decide +kernel
theorem dX10_road_13 : decode cX10_road 13 = .ok (.bipush 7, 2) := by decide +kernel
theorem dX10_road_15 : decode cX10_road 15 = .ok (.goto 5, 3) := by decide +kernel
theorem dX10_road_18 : decode cX10_road 18 = .ok (.bipush 6, 2) := by decide +kernel
theorem dX10_road_20 : decode cX10_road 20 = .ok (.invokestatic 118, 3) := by decide +kernel
theorem dX10_road_23 : decode cX10_road 23 = .ok (.ifCond .eq 26, 3) := by decide +kernel
theorem dX10_road_26 : decode cX10_road 26 = .ok (.iload_n 3, 1) := by decide +kernel
theorem dX10_road_27 : decode cX10_road 27 = .ok (.iload 4, 2) := by decide +kernel
theorem dX10_road_29 : decode cX10_road 29 = .ok (.ifCond .eq 8, 3) := by decide +kernel
theorem dX10_road_32 : decode cX10_road 32 = .ok (.bipush 6, 2) := by decide +kernel
theorem dX10_road_34 : decode cX10_road 34 = .ok (.goto 5, 3) := by decide +kernel
theorem dX10_road_37 : decode cX10_road 37 = .ok (.bipush 7, 2) := by decide +kernel
theorem dX10_road_39 : decode cX10_road 39 = .ok (.invokestatic 118, 3) := by decide +kernel
theorem dX10_road_42 : decode cX10_road 42 = .ok (.ifCond .eq 7, 3) := by decide +kernel
theorem dX10_road_45 : decode cX10_road 45 = .ok (.iconst 1, 1) := by decide +kernel
theorem dX10_road_46 : decode cX10_road 46 = .ok (.goto 4, 3) := by decide +kernel
theorem dX10_road_49 : decode cX10_road 49 = .ok (.iconst 0, 1) := by decide +kernel
theorem dX10_road_50 : decode cX10_road 50 = .ok (.invokestatic 81, 3) := by decide +kernel
theorem dX10_road_53 : decode cX10_road 53 = .ok (.aload 6, 2) := by decide +kernel
theorem dX10_road_55 : decode cX10_road 55 = .ok (.iload 4, 2) := by decide +kernel
theorem dX10_road_57 : decode cX10_road 57 = .ok (.ifCond .eq 11, 3) := by decide +kernel
theorem dX10_road_60 : decode cX10_road 60 = .ok (.iload_n 2, 1) := by decide +kernel
theorem dX10_road_61 : decode cX10_road 61 = .ok (.iload_n 3, 1) := by decide +kernel
theorem dX10_road_62 : decode cX10_road 62 = .ok (.invokestatic 132, 3) := by decide +kernel
theorem dX10_road_65 : decode cX10_road 65 = .ok (.goto 8, 3) := by decide +kernel
theorem dX10_road_68 : decode cX10_road 68 = .ok (.iload_n 2, 1) := by decide +kernel
theorem dX10_road_69 : decode cX10_road 69 = .ok (.iload_n 3, 1) := by decide +kernel
theorem dX10_road_70 : decode cX10_road 70 = .ok (.invokestatic 135, 3) := by decide +kernel
theorem dX10_road_73 : decode cX10_road 73 = .ok (.iload 5, 2) := by decide +kernel
theorem dX10_road_75 : decode cX10_road 75 = .ok (.ifCond .eq 7, 3) := by decide +kernel
theorem dX10_road_78 : decode cX10_road 78 = .ok (.iconst 1, 1) := by decide +kernel
theorem dX10_road_79 : decode cX10_road 79 = .ok (.goto 4, 3) := by decide +kernel
theorem dX10_road_82 : decode cX10_road 82 = .ok (.iconst 0, 1) := by decide +kernel
theorem dX10_road_83 : decode cX10_road 83 = .ok (.invokevirtual 128, 3) := by decide +kernel
theorem dX10_road_86 : decode cX10_road 86 = .ok (.aload 6, 2) := by decide +kernel
theorem dX10_road_88 : decode cX10_road 88 = .ok (.invokevirtual 110, 3) := by decide +kernel
theorem dX10_road_91 : decode cX10_road 91 = .ok (.ireturn, 1) := by decide +kernel
theorem dX10_seen_0 : decode cX10_seen 0 = .ok (.aload_n 0, 1) := by decide +kernel
theorem dX10_seen_1 : decode cX10_seen 1 = .ok (.iload_n 1, 1) := by decide +kernel
theorem dX10_seen_2 : decode cX10_seen 2 = .ok (.invokevirtual 106, 3) := by decide +kernel
theorem dX10_seen_5 : decode cX10_seen 5 = .ok (.astore_n 3, 1) := by decide +kernel
theorem dX10_seen_6 : decode cX10_seen 6 = .ok (.iload_n 2, 1) := by decide +kernel
theorem dX10_seen_7 : decode cX10_seen 7 = .ok (.invokestatic 138, 3) := by decide +kernel
theorem dX10_seen_10 : decode cX10_seen 10 = .ok (.invokestatic 81, 3) := by decide +kernel
theorem dX10_seen_13 : decode cX10_seen 13 = .ok (.aload_n 3, 1) := by decide +kernel
theorem dX10_seen_14 : decode cX10_seen 14 = .ok (.iload_n 2, 1) := by decide +kernel
theorem dX10_seen_15 : decode cX10_seen 15 = .ok (.invokevirtual 142, 3) := by decide +kernel
theorem dX10_seen_18 : decode cX10_seen 18 = .ok (.ireturn, 1) := by decide +kernel
theorem dX10_edits_0 : decode cX10_edits 0 = .ok (.aload_n 0, 1) := by decide +kernel
theorem dX10_edits_1 : decode cX10_edits 1 = .ok (.iload_n 1, 1) := by decide +kernel
theorem dX10_edits_2 : decode cX10_edits 2 = .ok (.invokevirtual 106, 3) := by decide +kernel
theorem dX10_edits_5 : decode cX10_edits 5 = .ok (.invokevirtual 110, 3) := by decide +kernel
theorem dX10_edits_8 : decode cX10_edits 8 = .ok (.ireturn, 1) := by decide +kernel
theorem dX10_conflicts_0 : decode cX10_conflicts 0 = .ok (.aload_n 0, 1) := by decide +kernel
theorem dX10_conflicts_1 : decode cX10_conflicts 1 = .ok (.iload_n 1, 1) := by decide +kernel
theorem dX10_conflicts_2 : decode cX10_conflicts 2 = .ok (.invokevirtual 106, 3) := by decide +kernel
theorem dX10_conflicts_5 : decode cX10_conflicts 5 = .ok (.aload_n 0, 1) := by decide +kernel
theorem dX10_conflicts_6 : decode cX10_conflicts 6 = .ok (.getfield 9, 3) := by decide +kernel
theorem dX10_conflicts_9 : decode cX10_conflicts 9 = .ok (.invokevirtual 146, 3) := by decide +kernel
theorem dX10_conflicts_12 : decode cX10_conflicts 12 = .ok (.ireturn, 1) := by decide +kernel
theorem dX10_conflict_0 : decode cX10_conflict 0 = .ok (.aload_n 0, 1) := by decide +kernel
theorem dX10_conflict_1 : decode cX10_conflict 1 = .ok (.iload_n 1, 1) := by decide +kernel
theorem dX10_conflict_2 : decode cX10_conflict 2 = .ok (.invokevirtual 106, 3) := by decide +kernel
theorem dX10_conflict_5 : decode cX10_conflict 5 = .ok (.iload_n 2, 1) := by decide +kernel
theorem dX10_conflict_6 : decode cX10_conflict 6 = .ok (.aload_n 0, 1) := by decide +kernel
theorem dX10_conflict_7 : decode cX10_conflict 7 = .ok (.getfield 9, 3) := by decide +kernel
theorem dX10_conflict_10 : decode cX10_conflict 10 = .ok (.invokevirtual 150, 3) := by decide +kernel
theorem dX10_conflict_13 : decode cX10_conflict 13 = .ok (.istore_n 3, 1) := by decide +kernel
theorem dX10_conflict_14 : decode cX10_conflict 14 = .ok (.iload_n 3, 1) := by decide +kernel
theorem dX10_conflict_15 : decode cX10_conflict 15 = .ok (.iconst (-1), 1) := by decide +kernel
theorem dX10_conflict_16 : decode cX10_conflict 16 = .ok (.if_icmp .ne 11, 3) := by decide +kernel
theorem dX10_conflict_19 : decode cX10_conflict 19 = .ok (.new 154, 3) := by decide +kernel
theorem dX10_conflict_22 : decode cX10_conflict 22 = .ok (.dup, 1) := by decide +kernel
theorem dX10_conflict_23 : decode cX10_conflict 23 = .ok (.invokespecial 156, 3) := by decide +kernel
theorem dX10_conflict_26 : decode cX10_conflict 26 = .ok (.athrow, 1) := by decide +kernel
theorem dX10_conflict_27 : decode cX10_conflict 27 = .ok (.iload_n 3, 1) := by decide +kernel
theorem dX10_conflict_28 : decode cX10_conflict 28 = .ok (.ireturn, 1) := by decide +kernel
theorem dX10_settle_0 : decode cX10_settle 0 = .ok (.aload_n 0, 1) := by decide +kernel
theorem dX10_settle_1 : decode cX10_settle 1 = .ok (.iload_n 1, 1) := by decide +kernel
theorem dX10_settle_2 : decode cX10_settle 2 = .ok (.invokevirtual 106, 3) := by decide +kernel
theorem dX10_settle_5 : decode cX10_settle 5 = .ok (.astore 4, 2) := by decide +kernel
theorem dX10_settle_7 : decode cX10_settle 7 = .ok (.iload_n 2, 1) := by decide +kernel
theorem dX10_settle_8 : decode cX10_settle 8 = .ok (.invokestatic 138, 3) := by decide +kernel
theorem dX10_settle_11 : decode cX10_settle 11 = .ok (.invokestatic 81, 3) := by decide +kernel
theorem dX10_settle_14 : decode cX10_settle 14 = .ok (.aload 4, 2) := by decide +kernel
theorem dX10_settle_16 : decode cX10_settle 16 = .ok (.iload_n 2, 1) := by decide +kernel
theorem dX10_settle_17 : decode cX10_settle 17 = .ok (.aload_n 0, 1) := by decide +kernel
theorem dX10_settle_18 : decode cX10_settle 18 = .ok (.getfield 9, 3) := by decide +kernel
theorem dX10_settle_21 : decode cX10_settle 21 = .ok (.iload_n 2, 1) := by decide +kernel
theorem dX10_settle_22 : decode cX10_settle 22 = .ok (.iaload, 1) := by decide +kernel
theorem dX10_settle_23 : decode cX10_settle 23 = .ok (.invokevirtual 157, 3) := by decide +kernel
theorem dX10_settle_26 : decode cX10_settle 26 = .ok (.ifCond .ne 11, 3) := by decide +kernel
theorem dX10_settle_29 : decode cX10_settle 29 = .ok (.new 92, 3) := by decide +kernel
theorem dX10_settle_32 : decode cX10_settle 32 = .ok (.dup, 1) := by decide +kernel
theorem dX10_settle_33 : decode cX10_settle 33 = .ok (.invokespecial 94, 3) := by decide +kernel
theorem dX10_settle_36 : decode cX10_settle 36 = .ok (.athrow, 1) := by decide +kernel
theorem dX10_settle_37 : decode cX10_settle 37 = .ok (.iload_n 3, 1) := by decide +kernel
theorem dX10_settle_38 : decode cX10_settle 38 = .ok (.ifCond .eq 18, 3) := by decide +kernel
theorem dX10_settle_41 : decode cX10_settle 41 = .ok (.aload 4, 2) := by decide +kernel
theorem dX10_settle_43 : decode cX10_settle 43 = .ok (.iload_n 2, 1) := by decide +kernel
theorem dX10_settle_44 : decode cX10_settle 44 = .ok (.aload_n 0, 1) := by decide +kernel
theorem dX10_settle_45 : decode cX10_settle 45 = .ok (.getfield 9, 3) := by decide +kernel
theorem dX10_settle_48 : decode cX10_settle 48 = .ok (.iload_n 2, 1) := by decide +kernel
theorem dX10_settle_49 : decode cX10_settle 49 = .ok (.iaload, 1) := by decide +kernel
theorem dX10_settle_50 : decode cX10_settle 50 = .ok (.invokevirtual 160, 3) := by decide +kernel
theorem dX10_settle_53 : decode cX10_settle 53 = .ok (.goto 9, 3) := by decide +kernel
theorem dX10_settle_56 : decode cX10_settle 56 = .ok (.aload 4, 2) := by decide +kernel
theorem dX10_settle_58 : decode cX10_settle 58 = .ok (.iload_n 2, 1) := by decide +kernel
theorem dX10_settle_59 : decode cX10_settle 59 = .ok (.invokevirtual 163, 3) := by decide +kernel
theorem dX10_settle_62 : decode cX10_settle 62 = .ok (.aload 4, 2) := by decide +kernel
theorem dX10_settle_64 : decode cX10_settle 64 = .ok (.aload_n 0, 1) := by decide +kernel
theorem dX10_settle_65 : decode cX10_settle 65 = .ok (.getfield 9, 3) := by decide +kernel
theorem dX10_settle_68 : decode cX10_settle 68 = .ok (.invokevirtual 146, 3) := by decide +kernel
theorem dX10_settle_71 : decode cX10_settle 71 = .ok (.ireturn, 1) := by decide +kernel
theorem dX10_openBranch_0 : decode cX10_openBranch 0 = .ok (.iload_n 1, 1) := by decide +kernel
theorem dX10_openBranch_1 : decode cX10_openBranch 1 = .ok (.ifCond .lt 8, 3) := by decide +kernel
theorem dX10_openBranch_4 : decode cX10_openBranch 4 = .ok (.iload_n 1, 1) := by decide +kernel
theorem dX10_openBranch_5 : decode cX10_openBranch 5 = .ok (.iconst 4, 1) := by decide +kernel
theorem dX10_openBranch_6 : decode cX10_openBranch 6 = .ok (.if_icmp .lt 11, 3) := by decide +kernel
theorem dX10_openBranch_9 : decode cX10_openBranch 9 = .ok (.new 167, 3) := by decide +kernel
theorem dX10_openBranch_12 : decode cX10_openBranch 12 = .ok (.dup, 1) := by decide +kernel
theorem dX10_openBranch_13 : decode cX10_openBranch 13 = .ok (.invokespecial 169, 3) := by decide +kernel
theorem dX10_openBranch_16 : decode cX10_openBranch 16 = .ok (.athrow, 1) := by decide +kernel
theorem dX10_openBranch_17 : decode cX10_openBranch 17 = .ok (.aload_n 0, 1) := by decide +kernel
theorem dX10_openBranch_18 : decode cX10_openBranch 18 = .ok (.getfield 28, 3) := by decide +kernel
theorem dX10_openBranch_21 : decode cX10_openBranch 21 = .ok (.iload_n 1, 1) := by decide +kernel
theorem dX10_openBranch_22 : decode cX10_openBranch 22 = .ok (.aaload, 1) := by decide +kernel
theorem dX10_openBranch_23 : decode cX10_openBranch 23 = .ok (.astore_n 2, 1) := by decide +kernel
theorem dX10_openBranch_24 : decode cX10_openBranch 24 = .ok (.aload_n 2, 1) := by decide +kernel
theorem dX10_openBranch_25 : decode cX10_openBranch 25 = .ok (.ifnull 10, 3) := by decide +kernel
theorem dX10_openBranch_28 : decode cX10_openBranch 28 = .ok (.aload_n 2, 1) := by decide +kernel
theorem dX10_openBranch_29 : decode cX10_openBranch 29 = .ok (.getfield 98, 3) := by decide +kernel
theorem dX10_openBranch_32 : decode cX10_openBranch 32 = .ok (.ifCond .ne 11, 3) := by decide +kernel
theorem dX10_openBranch_35 : decode cX10_openBranch 35 = .ok (.new 167, 3) := by decide +kernel
theorem dX10_openBranch_38 : decode cX10_openBranch 38 = .ok (.dup, 1) := by decide +kernel
theorem dX10_openBranch_39 : decode cX10_openBranch 39 = .ok (.invokespecial 169, 3) := by decide +kernel
theorem dX10_openBranch_42 : decode cX10_openBranch 42 = .ok (.athrow, 1) := by decide +kernel
theorem dX10_openBranch_43 : decode cX10_openBranch 43 = .ok (.aload_n 2, 1) := by decide +kernel
theorem dX10_openBranch_44 : decode cX10_openBranch 44 = .ok (.areturn, 1) := by decide +kernel
theorem dX10_breaks_0 : decode cX10_breaks 0 = .ok (.aload_n 0, 1) := by decide +kernel
theorem dX10_breaks_1 : decode cX10_breaks 1 = .ok (.iload_n 1, 1) := by decide +kernel
theorem dX10_breaks_2 : decode cX10_breaks 2 = .ok (.invokevirtual 106, 3) := by decide +kernel
theorem dX10_breaks_5 : decode cX10_breaks 5 = .ok (.aload_n 0, 1) := by decide +kernel
theorem dX10_breaks_6 : decode cX10_breaks 6 = .ok (.getfield 9, 3) := by decide +kernel
theorem dX10_breaks_9 : decode cX10_breaks 9 = .ok (.aload_n 0, 1) := by decide +kernel
theorem dX10_breaks_10 : decode cX10_breaks 10 = .ok (.getfield 13, 3) := by decide +kernel
theorem dX10_breaks_13 : decode cX10_breaks 13 = .ok (.invokevirtual 170, 3) := by decide +kernel
theorem dX10_breaks_16 : decode cX10_breaks 16 = .ok (.aload_n 0, 1) := by decide +kernel
theorem dX10_breaks_17 : decode cX10_breaks 17 = .ok (.aload_n 0, 1) := by decide +kernel
theorem dX10_breaks_18 : decode cX10_breaks 18 = .ok (.getfield 13, 3) := by decide +kernel
theorem dX10_breaks_21 : decode cX10_breaks 21 = .ok (.invokevirtual 174, 3) := by decide +kernel
theorem dX10_breaks_24 : decode cX10_breaks 24 = .ok (.ireturn, 1) := by decide +kernel
theorem dX10_merge_0 : decode cX10_merge 0 = .ok (.aload_n 0, 1) := by decide +kernel
theorem dX10_merge_1 : decode cX10_merge 1 = .ok (.iload_n 1, 1) := by decide +kernel
theorem dX10_merge_2 : decode cX10_merge 2 = .ok (.invokevirtual 106, 3) := by decide +kernel
theorem dX10_merge_5 : decode cX10_merge 5 = .ok (.astore_n 2, 1) := by decide +kernel
theorem dX10_merge_6 : decode cX10_merge 6 = .ok (.aload_n 2, 1) := by decide +kernel
theorem dX10_merge_7 : decode cX10_merge 7 = .ok (.aload_n 0, 1) := by decide +kernel
theorem dX10_merge_8 : decode cX10_merge 8 = .ok (.getfield 9, 3) := by decide +kernel
theorem dX10_merge_11 : decode cX10_merge 11 = .ok (.aload_n 0, 1) := by decide +kernel
theorem dX10_merge_12 : decode cX10_merge 12 = .ok (.getfield 13, 3) := by decide +kernel
theorem dX10_merge_15 : decode cX10_merge 15 = .ok (.invokevirtual 170, 3) := by decide +kernel
theorem dX10_merge_18 : decode cX10_merge 18 = .ok (.aload_n 2, 1) := by decide +kernel
theorem dX10_merge_19 : decode cX10_merge 19 = .ok (.aload_n 0, 1) := by decide +kernel
theorem dX10_merge_20 : decode cX10_merge 20 = .ok (.getfield 9, 3) := by decide +kernel
theorem dX10_merge_23 : decode cX10_merge 23 = .ok (.invokevirtual 146, 3) := by decide +kernel
theorem dX10_merge_26 : decode cX10_merge 26 = .ok (.ifCond .gt 15, 3) := by decide +kernel
theorem dX10_merge_29 : decode cX10_merge 29 = .ok (.aload_n 0, 1) := by decide +kernel
theorem dX10_merge_30 : decode cX10_merge 30 = .ok (.aload_n 0, 1) := by decide +kernel
theorem dX10_merge_31 : decode cX10_merge 31 = .ok (.getfield 13, 3) := by decide +kernel
theorem dX10_merge_34 : decode cX10_merge 34 = .ok (.invokevirtual 174, 3) := by decide +kernel
theorem dX10_merge_37 : decode cX10_merge 37 = .ok (.iconst (-1), 1) := by decide +kernel
theorem dX10_merge_38 : decode cX10_merge 38 = .ok (.if_icmp .eq 11, 3) := by decide +kernel
theorem dX10_merge_41 : decode cX10_merge 41 = .ok (.new 92, 3) := by decide +kernel
theorem dX10_merge_44 : decode cX10_merge 44 = .ok (.dup, 1) := by decide +kernel
theorem dX10_merge_45 : decode cX10_merge 45 = .ok (.invokespecial 94, 3) := by decide +kernel
theorem dX10_merge_48 : decode cX10_merge 48 = .ok (.athrow, 1) := by decide +kernel
theorem dX10_merge_49 : decode cX10_merge 49 = .ok (.aload_n 0, 1) := by decide +kernel
theorem dX10_merge_50 : decode cX10_merge 50 = .ok (.getfield 9, 3) := by decide +kernel
theorem dX10_merge_53 : decode cX10_merge 53 = .ok (.aload_n 0, 1) := by decide +kernel
theorem dX10_merge_54 : decode cX10_merge 54 = .ok (.getfield 13, 3) := by decide +kernel
theorem dX10_merge_57 : decode cX10_merge 57 = .ok (.invokestatic 177, 3) := by decide +kernel
theorem dX10_merge_60 : decode cX10_merge 60 = .ok (.istore_n 3, 1) := by decide +kernel
theorem dX10_merge_61 : decode cX10_merge 61 = .ok (.iload_n 3, 1) := by decide +kernel
theorem dX10_merge_62 : decode cX10_merge 62 = .ok (.ifCond .le 32, 3) := by decide +kernel
theorem dX10_merge_65 : decode cX10_merge 65 = .ok (.aload_n 0, 1) := by decide +kernel
theorem dX10_merge_66 : decode cX10_merge 66 = .ok (.getfield 44, 3) := by decide +kernel
theorem dX10_merge_69 : decode cX10_merge 69 = .ok (.invokevirtual 181, 3) := by decide +kernel
theorem dX10_merge_72 : decode cX10_merge 72 = .ok (.ifCond .eq 11, 3) := by decide +kernel
theorem dX10_merge_75 : decode cX10_merge 75 = .ok (.new 95, 3) := by decide +kernel
theorem dX10_merge_78 : decode cX10_merge 78 = .ok (.dup, 1) := by decide +kernel
theorem dX10_merge_79 : decode cX10_merge 79 = .ok (.invokespecial 97, 3) := by decide +kernel
theorem dX10_merge_82 : decode cX10_merge 82 = .ok (.athrow, 1) := by decide +kernel
theorem dX10_merge_83 : decode cX10_merge 83 = .ok (.aload_n 0, 1) := by decide +kernel
theorem dX10_merge_84 : decode cX10_merge 84 = .ok (.invokevirtual 185, 3) := by decide +kernel
theorem dX10_merge_87 : decode cX10_merge 87 = .ok (.aload_n 0, 1) := by decide +kernel
theorem dX10_merge_88 : decode cX10_merge 88 = .ok (.getfield 44, 3) := by decide +kernel
theorem dX10_merge_91 : decode cX10_merge 91 = .ok (.invokevirtual 188, 3) := by decide +kernel
theorem dX10_merge_94 : decode cX10_merge 94 = .ok (.aload_n 2, 1) := by decide +kernel
theorem dX10_merge_95 : decode cX10_merge 95 = .ok (.iconst 0, 1) := by decide +kernel
theorem dX10_merge_96 : decode cX10_merge 96 = .ok (.putfield 98, 3) := by decide +kernel
theorem dX10_merge_99 : decode cX10_merge 99 = .ok (.iload_n 3, 1) := by decide +kernel
theorem dX10_merge_100 : decode cX10_merge 100 = .ok (.ireturn, 1) := by decide +kernel
theorem dX10_undo_0 : decode cX10_undo 0 = .ok (.aload_n 0, 1) := by decide +kernel
theorem dX10_undo_1 : decode cX10_undo 1 = .ok (.getfield 44, 3) := by decide +kernel
theorem dX10_undo_4 : decode cX10_undo 4 = .ok (.invokevirtual 191, 3) := by decide +kernel
theorem dX10_undo_7 : decode cX10_undo 7 = .ok (.istore_n 1, 1) := by decide +kernel
theorem dX10_undo_8 : decode cX10_undo 8 = .ok (.iload_n 1, 1) := by decide +kernel
theorem dX10_undo_9 : decode cX10_undo 9 = .ok (.iconst (-1), 1) := by decide +kernel
theorem dX10_undo_10 : decode cX10_undo 10 = .ok (.if_icmp .ne 11, 3) := by decide +kernel
theorem dX10_undo_13 : decode cX10_undo 13 = .ok (.new 154, 3) := by decide +kernel
theorem dX10_undo_16 : decode cX10_undo 16 = .ok (.dup, 1) := by decide +kernel
theorem dX10_undo_17 : decode cX10_undo 17 = .ok (.invokespecial 156, 3) := by decide +kernel
theorem dX10_undo_20 : decode cX10_undo 20 = .ok (.athrow, 1) := by decide +kernel
theorem dX10_undo_21 : decode cX10_undo 21 = .ok (.aload_n 0, 1) := by decide +kernel
theorem dX10_undo_22 : decode cX10_undo 22 = .ok (.getfield 44, 3) := by decide +kernel
theorem dX10_undo_25 : decode cX10_undo 25 = .ok (.iload_n 1, 1) := by decide +kernel
theorem dX10_undo_26 : decode cX10_undo 26 = .ok (.iconst 1, 1) := by decide +kernel
theorem dX10_undo_27 : decode cX10_undo 27 = .ok (.isub, 1) := by decide +kernel
theorem dX10_undo_28 : decode cX10_undo 28 = .ok (.aload_n 0, 1) := by decide +kernel
theorem dX10_undo_29 : decode cX10_undo 29 = .ok (.getfield 13, 3) := by decide +kernel
theorem dX10_undo_32 : decode cX10_undo 32 = .ok (.invokevirtual 194, 3) := by decide +kernel
theorem dX10_undo_35 : decode cX10_undo 35 = .ok (.aload_n 0, 1) := by decide +kernel
theorem dX10_undo_36 : decode cX10_undo 36 = .ok (.aload_n 0, 1) := by decide +kernel
theorem dX10_undo_37 : decode cX10_undo 37 = .ok (.getfield 13, 3) := by decide +kernel
theorem dX10_undo_40 : decode cX10_undo 40 = .ok (.invokevirtual 174, 3) := by decide +kernel
theorem dX10_undo_43 : decode cX10_undo 43 = .ok (.iconst (-1), 1) := by decide +kernel
theorem dX10_undo_44 : decode cX10_undo 44 = .ok (.if_icmp .eq 11, 3) := by decide +kernel
theorem dX10_undo_47 : decode cX10_undo 47 = .ok (.new 92, 3) := by decide +kernel
theorem dX10_undo_50 : decode cX10_undo 50 = .ok (.dup, 1) := by decide +kernel
theorem dX10_undo_51 : decode cX10_undo 51 = .ok (.invokespecial 94, 3) := by decide +kernel
theorem dX10_undo_54 : decode cX10_undo 54 = .ok (.athrow, 1) := by decide +kernel
theorem dX10_undo_55 : decode cX10_undo 55 = .ok (.aload_n 0, 1) := by decide +kernel
theorem dX10_undo_56 : decode cX10_undo 56 = .ok (.getfield 44, 3) := by decide +kernel
theorem dX10_undo_59 : decode cX10_undo 59 = .ok (.invokevirtual 181, 3) := by decide +kernel
theorem dX10_undo_62 : decode cX10_undo 62 = .ok (.ifCond .eq 11, 3) := by decide +kernel
theorem dX10_undo_65 : decode cX10_undo 65 = .ok (.new 95, 3) := by decide +kernel
theorem dX10_undo_68 : decode cX10_undo 68 = .ok (.dup, 1) := by decide +kernel
theorem dX10_undo_69 : decode cX10_undo 69 = .ok (.invokespecial 97, 3) := by decide +kernel
theorem dX10_undo_72 : decode cX10_undo 72 = .ok (.athrow, 1) := by decide +kernel
theorem dX10_undo_73 : decode cX10_undo 73 = .ok (.aload_n 0, 1) := by decide +kernel
theorem dX10_undo_74 : decode cX10_undo 74 = .ok (.getfield 9, 3) := by decide +kernel
theorem dX10_undo_77 : decode cX10_undo 77 = .ok (.aload_n 0, 1) := by decide +kernel
theorem dX10_undo_78 : decode cX10_undo 78 = .ok (.getfield 13, 3) := by decide +kernel
theorem dX10_undo_81 : decode cX10_undo 81 = .ok (.invokestatic 177, 3) := by decide +kernel
theorem dX10_undo_84 : decode cX10_undo 84 = .ok (.istore_n 2, 1) := by decide +kernel
theorem dX10_undo_85 : decode cX10_undo 85 = .ok (.aload_n 0, 1) := by decide +kernel
theorem dX10_undo_86 : decode cX10_undo 86 = .ok (.invokevirtual 185, 3) := by decide +kernel
theorem dX10_undo_89 : decode cX10_undo 89 = .ok (.aload_n 0, 1) := by decide +kernel
theorem dX10_undo_90 : decode cX10_undo 90 = .ok (.getfield 44, 3) := by decide +kernel
theorem dX10_undo_93 : decode cX10_undo 93 = .ok (.invokevirtual 198, 3) := by decide +kernel
theorem dX10_undo_96 : decode cX10_undo 96 = .ok (.iload_n 2, 1) := by decide +kernel
theorem dX10_undo_97 : decode cX10_undo 97 = .ok (.ireturn, 1) := by decide +kernel
theorem dX10_bringTrialToMap_0 : decode cX10_bringTrialToMap 0 = .ok (.aload_n 0, 1) := by decide +kernel
theorem dX10_bringTrialToMap_1 : decode cX10_bringTrialToMap 1 = .ok (.getfield 44, 3) := by decide +kernel
theorem dX10_bringTrialToMap_4 : decode cX10_bringTrialToMap 4 = .ok (.aload_n 0, 1) := by decide +kernel
theorem dX10_bringTrialToMap_5 : decode cX10_bringTrialToMap 5 = .ok (.getfield 9, 3) := by decide +kernel
theorem dX10_bringTrialToMap_8 : decode cX10_bringTrialToMap 8 = .ok (.aload_n 0, 1) := by decide +kernel
theorem dX10_bringTrialToMap_9 : decode cX10_bringTrialToMap 9 = .ok (.getfield 13, 3) := by decide +kernel
theorem dX10_bringTrialToMap_12 : decode cX10_bringTrialToMap 12 = .ok (.invokevirtual 201, 3) := by decide +kernel
theorem dX10_bringTrialToMap_15 : decode cX10_bringTrialToMap 15 = .ok (.aload_n 0, 1) := by decide +kernel
theorem dX10_bringTrialToMap_16 : decode cX10_bringTrialToMap 16 = .ok (.getfield 51, 3) := by decide +kernel
theorem dX10_bringTrialToMap_19 : decode cX10_bringTrialToMap 19 = .ok (.aload_n 0, 1) := by decide +kernel
theorem dX10_bringTrialToMap_20 : decode cX10_bringTrialToMap 20 = .ok (.getfield 9, 3) := by decide +kernel
theorem dX10_bringTrialToMap_23 : decode cX10_bringTrialToMap 23 = .ok (.aload_n 0, 1) := by decide +kernel
theorem dX10_bringTrialToMap_24 : decode cX10_bringTrialToMap 24 = .ok (.getfield 13, 3) := by decide +kernel
theorem dX10_bringTrialToMap_27 : decode cX10_bringTrialToMap 27 = .ok (.invokevirtual 204, 3) := by decide +kernel
theorem dX10_bringTrialToMap_30 : decode cX10_bringTrialToMap 30 = .ok (.aload_n 0, 1) := by decide +kernel
theorem dX10_bringTrialToMap_31 : decode cX10_bringTrialToMap 31 = .ok (.getfield 13, 3) := by decide +kernel
theorem dX10_bringTrialToMap_34 : decode cX10_bringTrialToMap 34 = .ok (.iconst 0, 1) := by decide +kernel
theorem dX10_bringTrialToMap_35 : decode cX10_bringTrialToMap 35 = .ok (.aload_n 0, 1) := by decide +kernel
theorem dX10_bringTrialToMap_36 : decode cX10_bringTrialToMap 36 = .ok (.getfield 9, 3) := by decide +kernel
theorem dX10_bringTrialToMap_39 : decode cX10_bringTrialToMap 39 = .ok (.iconst 0, 1) := by decide +kernel
theorem dX10_bringTrialToMap_40 : decode cX10_bringTrialToMap 40 = .ok (.sipush 304, 3) := by decide +kernel
theorem dX10_bringTrialToMap_43 : decode cX10_bringTrialToMap 43 = .ok (.invokestatic 207, 3) := by decide +kernel
theorem dX10_bringTrialToMap_46 : decode cX10_bringTrialToMap 46 = .ok (.return_, 1) := by decide +kernel
theorem dX10_version_0 : decode cX10_version 0 = .ok (.aload_n 0, 1) := by decide +kernel
theorem dX10_version_1 : decode cX10_version 1 = .ok (.getfield 44, 3) := by decide +kernel
theorem dX10_version_4 : decode cX10_version 4 = .ok (.getfield 213, 3) := by decide +kernel
theorem dX10_version_7 : decode cX10_version 7 = .ok (.ireturn, 1) := by decide +kernel
theorem dX10_value_0 : decode cX10_value 0 = .ok (.iload_n 1, 1) := by decide +kernel
theorem dX10_value_1 : decode cX10_value 1 = .ok (.invokestatic 138, 3) := by decide +kernel
theorem dX10_value_4 : decode cX10_value 4 = .ok (.ifCond .eq 21, 3) := by decide +kernel
theorem dX10_value_7 : decode cX10_value 7 = .ok (.iload_n 2, 1) := by decide +kernel
theorem dX10_value_8 : decode cX10_value 8 = .ok (.aload_n 0, 1) := by decide +kernel
theorem dX10_value_9 : decode cX10_value 9 = .ok (.getfield 44, 3) := by decide +kernel
theorem dX10_value_12 : decode cX10_value 12 = .ok (.getfield 213, 3) := by decide +kernel
theorem dX10_value_15 : decode cX10_value 15 = .ok (.invokestatic 118, 3) := by decide +kernel
theorem dX10_value_18 : decode cX10_value 18 = .ok (.ifCond .eq 7, 3) := by decide +kernel
theorem dX10_value_21 : decode cX10_value 21 = .ok (.iconst 1, 1) := by decide +kernel
theorem dX10_value_22 : decode cX10_value 22 = .ok (.goto 4, 3) := by decide +kernel
theorem dX10_value_25 : decode cX10_value 25 = .ok (.iconst 0, 1) := by decide +kernel
theorem dX10_value_26 : decode cX10_value 26 = .ok (.invokestatic 81, 3) := by decide +kernel
theorem dX10_value_29 : decode cX10_value 29 = .ok (.aload_n 0, 1) := by decide +kernel
theorem dX10_value_30 : decode cX10_value 30 = .ok (.getfield 44, 3) := by decide +kernel
theorem dX10_value_33 : decode cX10_value 33 = .ok (.iload_n 1, 1) := by decide +kernel
theorem dX10_value_34 : decode cX10_value 34 = .ok (.iload_n 2, 1) := by decide +kernel
theorem dX10_value_35 : decode cX10_value 35 = .ok (.invokevirtual 216, 3) := by decide +kernel
theorem dX10_value_38 : decode cX10_value 38 = .ok (.ireturn, 1) := by decide +kernel
theorem dX10_changes_0 : decode cX10_changes 0 = .ok (.iload_n 1, 1) := by decide +kernel
theorem dX10_changes_1 : decode cX10_changes 1 = .ok (.invokestatic 138, 3) := by decide +kernel
theorem dX10_changes_4 : decode cX10_changes 4 = .ok (.invokestatic 81, 3) := by decide +kernel
theorem dX10_changes_7 : decode cX10_changes 7 = .ok (.aload_n 0, 1) := by decide +kernel
theorem dX10_changes_8 : decode cX10_changes 8 = .ok (.getfield 44, 3) := by decide +kernel
theorem dX10_changes_11 : decode cX10_changes 11 = .ok (.iload_n 1, 1) := by decide +kernel
theorem dX10_changes_12 : decode cX10_changes 12 = .ok (.invokevirtual 219, 3) := by decide +kernel
theorem dX10_changes_15 : decode cX10_changes 15 = .ok (.ireturn, 1) := by decide +kernel
theorem dX10_changed_0 : decode cX10_changed 0 = .ok (.iload_n 1, 1) := by decide +kernel
theorem dX10_changed_1 : decode cX10_changed 1 = .ok (.invokestatic 138, 3) := by decide +kernel
theorem dX10_changed_4 : decode cX10_changed 4 = .ok (.invokestatic 81, 3) := by decide +kernel
theorem dX10_changed_7 : decode cX10_changed 7 = .ok (.aload_n 0, 1) := by decide +kernel
theorem dX10_changed_8 : decode cX10_changed 8 = .ok (.getfield 44, 3) := by decide +kernel
theorem dX10_changed_11 : decode cX10_changed 11 = .ok (.iload_n 1, 1) := by decide +kernel
theorem dX10_changed_12 : decode cX10_changed 12 = .ok (.iload_n 2, 1) := by decide +kernel
theorem dX10_changed_13 : decode cX10_changed 13 = .ok (.invokevirtual 222, 3) := by decide +kernel
theorem dX10_changed_16 : decode cX10_changed 16 = .ok (.istore_n 3, 1) := by decide +kernel
theorem dX10_changed_17 : decode cX10_changed 17 = .ok (.iload_n 3, 1) := by decide +kernel
theorem dX10_changed_18 : decode cX10_changed 18 = .ok (.iconst (-1), 1) := by decide +kernel
theorem dX10_changed_19 : decode cX10_changed 19 = .ok (.if_icmp .ne 11, 3) := by decide +kernel
theorem dX10_changed_22 : decode cX10_changed 22 = .ok (.new 154, 3) := by decide +kernel
theorem dX10_changed_25 : decode cX10_changed 25 = .ok (.dup, 1) := by decide +kernel
theorem dX10_changed_26 : decode cX10_changed 26 = .ok (.invokespecial 156, 3) := by decide +kernel
theorem dX10_changed_29 : decode cX10_changed 29 = .ok (.athrow, 1) := by decide +kernel
theorem dX10_changed_30 : decode cX10_changed 30 = .ok (.iload_n 3, 1) := by decide +kernel
theorem dX10_changed_31 : decode cX10_changed 31 = .ok (.ireturn, 1) := by decide +kernel
theorem dX10_route_0 : decode cX10_route 0 = .ok (.iload_n 1, 1) := by decide +kernel
theorem dX10_route_1 : decode cX10_route 1 = .ok (.bipush 63, 2) := by decide +kernel
theorem dX10_route_3 : decode cX10_route 3 = .ok (.invokestatic 118, 3) := by decide +kernel
theorem dX10_route_6 : decode cX10_route 6 = .ok (.ifCond .eq 30, 3) := by decide +kernel
theorem dX10_route_9 : decode cX10_route 9 = .ok (.iload_n 2, 1) := by decide +kernel
theorem dX10_route_10 : decode cX10_route 10 = .ok (.bipush 63, 2) := by decide +kernel
theorem dX10_route_12 : decode cX10_route 12 = .ok (.invokestatic 118, 3) := by decide +kernel
theorem dX10_route_15 : decode cX10_route 15 = .ok (.ifCond .eq 21, 3) := by decide +kernel
theorem dX10_route_18 : decode cX10_route 18 = .ok (.iload_n 3, 1) := by decide +kernel
theorem dX10_route_19 : decode cX10_route 19 = .ok (.aload_n 0, 1) := by decide +kernel
theorem dX10_route_20 : decode cX10_route 20 = .ok (.getfield 44, 3) := by decide +kernel
theorem dX10_route_23 : decode cX10_route 23 = .ok (.getfield 213, 3) := by decide +kernel
theorem dX10_route_26 : decode cX10_route 26 = .ok (.invokestatic 118, 3) := by decide +kernel
theorem dX10_route_29 : decode cX10_route 29 = .ok (.ifCond .eq 7, 3) := by decide +kernel
theorem dX10_route_32 : decode cX10_route 32 = .ok (.iconst 1, 1) := by decide +kernel
theorem dX10_route_33 : decode cX10_route 33 = .ok (.goto 4, 3) := by decide +kernel
theorem dX10_route_36 : decode cX10_route 36 = .ok (.iconst 0, 1) := by decide +kernel
theorem dX10_route_37 : decode cX10_route 37 = .ok (.invokestatic 81, 3) := by decide +kernel
theorem dX10_route_40 : decode cX10_route 40 = .ok (.aload_n 0, 1) := by decide +kernel
theorem dX10_route_41 : decode cX10_route 41 = .ok (.getfield 44, 3) := by decide +kernel
theorem dX10_route_44 : decode cX10_route 44 = .ok (.iload_n 3, 1) := by decide +kernel
theorem dX10_route_45 : decode cX10_route 45 = .ok (.aload_n 0, 1) := by decide +kernel
theorem dX10_route_46 : decode cX10_route 46 = .ok (.getfield 13, 3) := by decide +kernel
theorem dX10_route_49 : decode cX10_route 49 = .ok (.invokevirtual 194, 3) := by decide +kernel
theorem dX10_route_52 : decode cX10_route 52 = .ok (.aload_n 0, 1) := by decide +kernel
theorem dX10_route_53 : decode cX10_route 53 = .ok (.getfield 65, 3) := by decide +kernel
theorem dX10_route_56 : decode cX10_route 56 = .ok (.aload_n 0, 1) := by decide +kernel
theorem dX10_route_57 : decode cX10_route 57 = .ok (.getfield 13, 3) := by decide +kernel
theorem dX10_route_60 : decode cX10_route 60 = .ok (.iconst (-1), 1) := by decide +kernel
theorem dX10_route_61 : decode cX10_route 61 = .ok (.iload_n 1, 1) := by decide +kernel
theorem dX10_route_62 : decode cX10_route 62 = .ok (.invokevirtual 225, 3) := by decide +kernel
theorem dX10_route_65 : decode cX10_route 65 = .ok (.pop, 1) := by decide +kernel
theorem dX10_route_66 : decode cX10_route 66 = .ok (.aload_n 0, 1) := by decide +kernel
theorem dX10_route_67 : decode cX10_route 67 = .ok (.getfield 65, 3) := by decide +kernel
theorem dX10_route_70 : decode cX10_route 70 = .ok (.iload_n 2, 1) := by decide +kernel
theorem dX10_route_71 : decode cX10_route 71 = .ok (.invokevirtual 229, 3) := by decide +kernel
theorem dX10_route_74 : decode cX10_route 74 = .ok (.istore 4, 2) := by decide +kernel
theorem dX10_route_76 : decode cX10_route 76 = .ok (.iload 4, 2) := by decide +kernel
theorem dX10_route_78 : decode cX10_route 78 = .ok (.iconst (-1), 1) := by decide +kernel
theorem dX10_route_79 : decode cX10_route 79 = .ok (.if_icmp .ne 11, 3) := by decide +kernel
theorem dX10_route_82 : decode cX10_route 82 = .ok (.new 154, 3) := by decide +kernel
theorem dX10_route_85 : decode cX10_route 85 = .ok (.dup, 1) := by decide +kernel
theorem dX10_route_86 : decode cX10_route 86 = .ok (.invokespecial 156, 3) := by decide +kernel
theorem dX10_route_89 : decode cX10_route 89 = .ok (.athrow, 1) := by decide +kernel
theorem dX10_route_90 : decode cX10_route 90 = .ok (.iload 4, 2) := by decide +kernel
theorem dX10_route_92 : decode cX10_route 92 = .ok (.ireturn, 1) := by decide +kernel
theorem dX10_tile_0 : decode cX10_tile 0 = .ok (.iload_n 1, 1) := by decide +kernel
theorem dX10_tile_1 : decode cX10_tile 1 = .ok (.iload_n 2, 1) := by decide +kernel
theorem dX10_tile_2 : decode cX10_tile 2 = .ok (.iload_n 3, 1) := by decide +kernel
theorem dX10_tile_3 : decode cX10_tile 3 = .ok (.iload 4, 2) := by decide +kernel
theorem dX10_tile_5 : decode cX10_tile 5 = .ok (.invokestatic 232, 3) := by decide +kernel
theorem dX10_tile_8 : decode cX10_tile 8 = .ok (.invokestatic 81, 3) := by decide +kernel
theorem dX10_tile_11 : decode cX10_tile 11 = .ok (.aload_n 0, 1) := by decide +kernel
theorem dX10_tile_12 : decode cX10_tile 12 = .ok (.getfield 51, 3) := by decide +kernel
theorem dX10_tile_15 : decode cX10_tile 15 = .ok (.aload_n 0, 1) := by decide +kernel
theorem dX10_tile_16 : decode cX10_tile 16 = .ok (.getfield 9, 3) := by decide +kernel
theorem dX10_tile_19 : decode cX10_tile 19 = .ok (.iload_n 1, 1) := by decide +kernel
theorem dX10_tile_20 : decode cX10_tile 20 = .ok (.invokestatic 236, 3) := by decide +kernel
theorem dX10_tile_23 : decode cX10_tile 23 = .ok (.iload_n 2, 1) := by decide +kernel
theorem dX10_tile_24 : decode cX10_tile 24 = .ok (.iload_n 3, 1) := by decide +kernel
theorem dX10_tile_25 : decode cX10_tile 25 = .ok (.iload 4, 2) := by decide +kernel
theorem dX10_tile_27 : decode cX10_tile 27 = .ok (.invokevirtual 239, 3) := by decide +kernel
theorem dX10_tile_30 : decode cX10_tile 30 = .ok (.ireturn, 1) := by decide +kernel
theorem dX10_isKept_0 : decode cX10_isKept 0 = .ok (.iload_n 1, 1) := by decide +kernel
theorem dX10_isKept_1 : decode cX10_isKept 1 = .ok (.iload_n 2, 1) := by decide +kernel
theorem dX10_isKept_2 : decode cX10_isKept 2 = .ok (.iload_n 3, 1) := by decide +kernel
theorem dX10_isKept_3 : decode cX10_isKept 3 = .ok (.iload 4, 2) := by decide +kernel
theorem dX10_isKept_5 : decode cX10_isKept 5 = .ok (.invokestatic 232, 3) := by decide +kernel
theorem dX10_isKept_8 : decode cX10_isKept 8 = .ok (.invokestatic 81, 3) := by decide +kernel
theorem dX10_isKept_11 : decode cX10_isKept 11 = .ok (.aload_n 0, 1) := by decide +kernel
theorem dX10_isKept_12 : decode cX10_isKept 12 = .ok (.getfield 51, 3) := by decide +kernel
theorem dX10_isKept_15 : decode cX10_isKept 15 = .ok (.iload_n 1, 1) := by decide +kernel
theorem dX10_isKept_16 : decode cX10_isKept 16 = .ok (.invokestatic 236, 3) := by decide +kernel
theorem dX10_isKept_19 : decode cX10_isKept 19 = .ok (.iload_n 2, 1) := by decide +kernel
theorem dX10_isKept_20 : decode cX10_isKept 20 = .ok (.iload_n 3, 1) := by decide +kernel
theorem dX10_isKept_21 : decode cX10_isKept 21 = .ok (.iload 4, 2) := by decide +kernel
theorem dX10_isKept_23 : decode cX10_isKept 23 = .ok (.invokevirtual 243, 3) := by decide +kernel
theorem dX10_isKept_26 : decode cX10_isKept 26 = .ok (.ireturn, 1) := by decide +kernel
theorem dX10_made_0 : decode cX10_made 0 = .ok (.aload_n 0, 1) := by decide +kernel
theorem dX10_made_1 : decode cX10_made 1 = .ok (.getfield 51, 3) := by decide +kernel
theorem dX10_made_4 : decode cX10_made 4 = .ok (.getfield 246, 3) := by decide +kernel
theorem dX10_made_7 : decode cX10_made 7 = .ok (.ireturn, 1) := by decide +kernel
theorem dX10_leaves_0 : decode cX10_leaves 0 = .ok (.iload_n 1, 1) := by decide +kernel
theorem dX10_leaves_1 : decode cX10_leaves 1 = .ok (.invokestatic 249, 3) := by decide +kernel
theorem dX10_leaves_4 : decode cX10_leaves 4 = .ok (.invokestatic 81, 3) := by decide +kernel
theorem dX10_leaves_7 : decode cX10_leaves 7 = .ok (.iconst 1, 1) := by decide +kernel
theorem dX10_leaves_8 : decode cX10_leaves 8 = .ok (.istore_n 2, 1) := by decide +kernel
theorem dX10_leaves_9 : decode cX10_leaves 9 = .ok (.iconst 1, 1) := by decide +kernel
theorem dX10_leaves_10 : decode cX10_leaves 10 = .ok (.istore_n 3, 1) := by decide +kernel
theorem dX10_leaves_11 : decode cX10_leaves 11 = .ok (.iload_n 3, 1) := by decide +kernel
theorem dX10_leaves_12 : decode cX10_leaves 12 = .ok (.iconst 4, 1) := by decide +kernel
theorem dX10_leaves_13 : decode cX10_leaves 13 = .ok (.if_icmp .ge 23, 3) := by decide +kernel
theorem dX10_leaves_16 : decode cX10_leaves 16 = .ok (.iload_n 2, 1) := by decide +kernel
theorem dX10_leaves_17 : decode cX10_leaves 17 = .ok (.iconst 3, 1) := by decide +kernel
theorem dX10_leaves_18 : decode cX10_leaves 18 = .ok (.aload_n 0, 1) := by decide +kernel
theorem dX10_leaves_19 : decode cX10_leaves 19 = .ok (.getfield 9, 3) := by decide +kernel
theorem dX10_leaves_22 : decode cX10_leaves 22 = .ok (.iload_n 1, 1) := by decide +kernel
theorem dX10_leaves_23 : decode cX10_leaves 23 = .ok (.iload_n 3, 1) := by decide +kernel
theorem dX10_leaves_24 : decode cX10_leaves 24 = .ok (.invokestatic 252, 3) := by decide +kernel
theorem dX10_leaves_27 : decode cX10_leaves 27 = .ok (.imul, 1) := by decide +kernel
theorem dX10_leaves_28 : decode cX10_leaves 28 = .ok (.iadd, 1) := by decide +kernel
theorem dX10_leaves_29 : decode cX10_leaves 29 = .ok (.istore_n 2, 1) := by decide +kernel
theorem dX10_leaves_30 : decode cX10_leaves 30 = .ok (.iinc 3 1, 3) := by decide +kernel
theorem dX10_leaves_33 : decode cX10_leaves 33 = .ok (.goto (-22), 3) := by decide +kernel
theorem dX10_leaves_36 : decode cX10_leaves 36 = .ok (.iload_n 2, 1) := by decide +kernel
theorem dX10_leaves_37 : decode cX10_leaves 37 = .ok (.ireturn, 1) := by decide +kernel
theorem dX10_border_0 : decode cX10_border 0 = .ok (.iload_n 1, 1) := by decide +kernel
theorem dX10_border_1 : decode cX10_border 1 = .ok (.invokestatic 249, 3) := by decide +kernel
theorem dX10_border_4 : decode cX10_border 4 = .ok (.ifCond .eq 30, 3) := by decide +kernel
theorem dX10_border_7 : decode cX10_border 7 = .ok (.iload_n 2, 1) := by decide +kernel
theorem dX10_border_8 : decode cX10_border 8 = .ok (.bipush 9, 2) := by decide +kernel
theorem dX10_border_10 : decode cX10_border 10 = .ok (.invokestatic 118, 3) := by decide +kernel
theorem dX10_border_13 : decode cX10_border 13 = .ok (.ifCond .eq 21, 3) := by decide +kernel
theorem dX10_border_16 : decode cX10_border 16 = .ok (.iload_n 3, 1) := by decide +kernel
theorem dX10_border_17 : decode cX10_border 17 = .ok (.bipush 9, 2) := by decide +kernel
theorem dX10_border_19 : decode cX10_border 19 = .ok (.invokestatic 118, 3) := by decide +kernel
theorem dX10_border_22 : decode cX10_border 22 = .ok (.ifCond .eq 12, 3) := by decide +kernel
theorem dX10_border_25 : decode cX10_border 25 = .ok (.iload_n 2, 1) := by decide +kernel
theorem dX10_border_26 : decode cX10_border 26 = .ok (.iload_n 3, 1) := by decide +kernel
theorem dX10_border_27 : decode cX10_border 27 = .ok (.if_icmp .eq 7, 3) := by decide +kernel
theorem dX10_border_30 : decode cX10_border 30 = .ok (.iconst 1, 1) := by decide +kernel
theorem dX10_border_31 : decode cX10_border 31 = .ok (.goto 4, 3) := by decide +kernel
theorem dX10_border_34 : decode cX10_border 34 = .ok (.iconst 0, 1) := by decide +kernel
theorem dX10_border_35 : decode cX10_border 35 = .ok (.invokestatic 81, 3) := by decide +kernel
theorem dX10_border_38 : decode cX10_border 38 = .ok (.iconst 0, 1) := by decide +kernel
theorem dX10_border_39 : decode cX10_border 39 = .ok (.istore 4, 2) := by decide +kernel
theorem dX10_border_41 : decode cX10_border 41 = .ok (.iconst 0, 1) := by decide +kernel
theorem dX10_border_42 : decode cX10_border 42 = .ok (.istore 5, 2) := by decide +kernel
theorem dX10_border_44 : decode cX10_border 44 = .ok (.iload 5, 2) := by decide +kernel
theorem dX10_border_46 : decode cX10_border 46 = .ok (.bipush 64, 2) := by decide +kernel
theorem dX10_border_48 : decode cX10_border 48 = .ok (.if_icmp .ge 94, 3) := by decide +kernel
theorem dX10_border_51 : decode cX10_border 51 = .ok (.aload_n 0, 1) := by decide +kernel
theorem dX10_border_52 : decode cX10_border 52 = .ok (.getfield 9, 3) := by decide +kernel
theorem dX10_border_55 : decode cX10_border 55 = .ok (.iload_n 1, 1) := by decide +kernel
theorem dX10_border_56 : decode cX10_border 56 = .ok (.iload 5, 2) := by decide +kernel
theorem dX10_border_58 : decode cX10_border 58 = .ok (.invokestatic 255, 3) := by decide +kernel
theorem dX10_border_61 : decode cX10_border 61 = .ok (.istore 6, 2) := by decide +kernel
theorem dX10_border_63 : decode cX10_border 63 = .ok (.iconst 0, 1) := by decide +kernel
theorem dX10_border_64 : decode cX10_border 64 = .ok (.istore 7, 2) := by decide +kernel
theorem dX10_border_66 : decode cX10_border 66 = .ok (.iload 7, 2) := by decide +kernel
theorem dX10_border_68 : decode cX10_border 68 = .ok (.iconst 1, 1) := by decide +kernel
theorem dX10_border_69 : decode cX10_border 69 = .ok (.if_icmp .gt 67, 3) := by decide +kernel
theorem dX10_border_72 : decode cX10_border 72 = .ok (.iload 5, 2) := by decide +kernel
theorem dX10_border_74 : decode cX10_border 74 = .ok (.iload 7, 2) := by decide +kernel
theorem dX10_border_76 : decode cX10_border 76 = .ok (.invokestatic 258, 3) := by decide +kernel
theorem dX10_border_79 : decode cX10_border 79 = .ok (.istore 8, 2) := by decide +kernel
theorem dX10_border_81 : decode cX10_border 81 = .ok (.iload 8, 2) := by decide +kernel
theorem dX10_border_83 : decode cX10_border 83 = .ok (.iconst (-1), 1) := by decide +kernel
theorem dX10_border_84 : decode cX10_border 84 = .ok (.if_icmp .ne 7, 3) := by decide +kernel
theorem dX10_border_87 : decode cX10_border 87 = .ok (.iconst (-1), 1) := by decide +kernel
theorem dX10_border_88 : decode cX10_border 88 = .ok (.goto 13, 3) := by decide +kernel
theorem dX10_border_91 : decode cX10_border 91 = .ok (.aload_n 0, 1) := by decide +kernel
theorem dX10_border_92 : decode cX10_border 92 = .ok (.getfield 9, 3) := by decide +kernel
theorem dX10_border_95 : decode cX10_border 95 = .ok (.iload_n 1, 1) := by decide +kernel
theorem dX10_border_96 : decode cX10_border 96 = .ok (.iload 8, 2) := by decide +kernel
theorem dX10_border_98 : decode cX10_border 98 = .ok (.invokestatic 255, 3) := by decide +kernel
theorem dX10_border_101 : decode cX10_border 101 = .ok (.istore 9, 2) := by decide +kernel
theorem dX10_border_103 : decode cX10_border 103 = .ok (.iload 6, 2) := by decide +kernel
theorem dX10_border_105 : decode cX10_border 105 = .ok (.iload_n 2, 1) := by decide +kernel
theorem dX10_border_106 : decode cX10_border 106 = .ok (.if_icmp .ne 9, 3) := by decide +kernel
theorem dX10_border_109 : decode cX10_border 109 = .ok (.iload 9, 2) := by decide +kernel
theorem dX10_border_111 : decode cX10_border 111 = .ok (.iload_n 3, 1) := by decide +kernel
theorem dX10_border_112 : decode cX10_border 112 = .ok (.if_icmp .eq 15, 3) := by decide +kernel
theorem dX10_border_115 : decode cX10_border 115 = .ok (.iload 6, 2) := by decide +kernel
theorem dX10_border_117 : decode cX10_border 117 = .ok (.iload_n 3, 1) := by decide +kernel
theorem dX10_border_118 : decode cX10_border 118 = .ok (.if_icmp .ne 12, 3) := by decide +kernel
theorem dX10_border_121 : decode cX10_border 121 = .ok (.iload 9, 2) := by decide +kernel
theorem dX10_border_123 : decode cX10_border 123 = .ok (.iload_n 2, 1) := by decide +kernel
theorem dX10_border_124 : decode cX10_border 124 = .ok (.if_icmp .ne 6, 3) := by decide +kernel
theorem dX10_border_127 : decode cX10_border 127 = .ok (.iinc 4 1, 3) := by decide +kernel
theorem dX10_border_130 : decode cX10_border 130 = .ok (.iinc 7 1, 3) := by decide +kernel
theorem dX10_border_133 : decode cX10_border 133 = .ok (.goto (-67), 3) := by decide +kernel
theorem dX10_border_136 : decode cX10_border 136 = .ok (.iinc 5 1, 3) := by decide +kernel
theorem dX10_border_139 : decode cX10_border 139 = .ok (.goto (-95), 3) := by decide +kernel
theorem dX10_border_142 : decode cX10_border 142 = .ok (.iload 4, 2) := by decide +kernel
theorem dX10_border_144 : decode cX10_border 144 = .ok (.ireturn, 1) := by decide +kernel
theorem dX10_size_0 : decode cX10_size 0 = .ok (.iload_n 1, 1) := by decide +kernel
theorem dX10_size_1 : decode cX10_size 1 = .ok (.invokestatic 249, 3) := by decide +kernel
theorem dX10_size_4 : decode cX10_size 4 = .ok (.ifCond .eq 14, 3) := by decide +kernel
theorem dX10_size_7 : decode cX10_size 7 = .ok (.iload_n 2, 1) := by decide +kernel
theorem dX10_size_8 : decode cX10_size 8 = .ok (.invokestatic 261, 3) := by decide +kernel
theorem dX10_size_11 : decode cX10_size 11 = .ok (.ifCond .eq 7, 3) := by decide +kernel
theorem dX10_size_14 : decode cX10_size 14 = .ok (.iconst 1, 1) := by decide +kernel
theorem dX10_size_15 : decode cX10_size 15 = .ok (.goto 4, 3) := by decide +kernel
theorem dX10_size_18 : decode cX10_size 18 = .ok (.iconst 0, 1) := by decide +kernel
theorem dX10_size_19 : decode cX10_size 19 = .ok (.invokestatic 81, 3) := by decide +kernel
theorem dX10_size_22 : decode cX10_size 22 = .ok (.aload_n 0, 1) := by decide +kernel
theorem dX10_size_23 : decode cX10_size 23 = .ok (.getfield 9, 3) := by decide +kernel
theorem dX10_size_26 : decode cX10_size 26 = .ok (.iload_n 1, 1) := by decide +kernel
theorem dX10_size_27 : decode cX10_size 27 = .ok (.iload_n 2, 1) := by decide +kernel
theorem dX10_size_28 : decode cX10_size 28 = .ok (.invokestatic 264, 3) := by decide +kernel
theorem dX10_size_31 : decode cX10_size 31 = .ok (.ireturn, 1) := by decide +kernel
theorem dX10_walk_0 : decode cX10_walk 0 = .ok (.iload_n 1, 1) := by decide +kernel
theorem dX10_walk_1 : decode cX10_walk 1 = .ok (.invokestatic 249, 3) := by decide +kernel
theorem dX10_walk_4 : decode cX10_walk 4 = .ok (.ifCond .eq 14, 3) := by decide +kernel
theorem dX10_walk_7 : decode cX10_walk 7 = .ok (.iload_n 2, 1) := by decide +kernel
theorem dX10_walk_8 : decode cX10_walk 8 = .ok (.invokestatic 261, 3) := by decide +kernel
theorem dX10_walk_11 : decode cX10_walk 11 = .ok (.ifCond .eq 7, 3) := by decide +kernel
theorem dX10_walk_14 : decode cX10_walk 14 = .ok (.iconst 1, 1) := by decide +kernel
theorem dX10_walk_15 : decode cX10_walk 15 = .ok (.goto 4, 3) := by decide +kernel
theorem dX10_walk_18 : decode cX10_walk 18 = .ok (.iconst 0, 1) := by decide +kernel
theorem dX10_walk_19 : decode cX10_walk 19 = .ok (.invokestatic 81, 3) := by decide +kernel
theorem dX10_walk_22 : decode cX10_walk 22 = .ok (.aload_n 0, 1) := by decide +kernel
theorem dX10_walk_23 : decode cX10_walk 23 = .ok (.getfield 58, 3) := by decide +kernel
theorem dX10_walk_26 : decode cX10_walk 26 = .ok (.iload_n 1, 1) := by decide +kernel
theorem dX10_walk_27 : decode cX10_walk 27 = .ok (.iload_n 2, 1) := by decide +kernel
theorem dX10_walk_28 : decode cX10_walk 28 = .ok (.invokevirtual 267, 3) := by decide +kernel
theorem dX10_walk_31 : decode cX10_walk 31 = .ok (.aload_n 0, 1) := by decide +kernel
theorem dX10_walk_32 : decode cX10_walk 32 = .ok (.getfield 9, 3) := by decide +kernel
theorem dX10_walk_35 : decode cX10_walk 35 = .ok (.iload_n 1, 1) := by decide +kernel
theorem dX10_walk_36 : decode cX10_walk 36 = .ok (.iload_n 2, 1) := by decide +kernel
theorem dX10_walk_37 : decode cX10_walk 37 = .ok (.invokestatic 264, 3) := by decide +kernel
theorem dX10_walk_40 : decode cX10_walk 40 = .ok (.ireturn, 1) := by decide +kernel
theorem dX10_hasNext_0 : decode cX10_hasNext 0 = .ok (.aload_n 0, 1) := by decide +kernel
theorem dX10_hasNext_1 : decode cX10_hasNext 1 = .ok (.getfield 58, 3) := by decide +kernel
theorem dX10_hasNext_4 : decode cX10_hasNext 4 = .ok (.aload_n 0, 1) := by decide +kernel
theorem dX10_hasNext_5 : decode cX10_hasNext 5 = .ok (.getfield 9, 3) := by decide +kernel
theorem dX10_hasNext_8 : decode cX10_hasNext 8 = .ok (.invokevirtual 269, 3) := by decide +kernel
theorem dX10_hasNext_11 : decode cX10_hasNext 11 = .ok (.iconst (-1), 1) := by decide +kernel
theorem dX10_hasNext_12 : decode cX10_hasNext 12 = .ok (.if_icmp .eq 7, 3) := by decide +kernel
theorem dX10_hasNext_15 : decode cX10_hasNext 15 = .ok (.iconst 1, 1) := by decide +kernel
theorem dX10_hasNext_16 : decode cX10_hasNext 16 = .ok (.goto 4, 3) := by decide +kernel
theorem dX10_hasNext_19 : decode cX10_hasNext 19 = .ok (.iconst 0, 1) := by decide +kernel
theorem dX10_hasNext_20 : decode cX10_hasNext 20 = .ok (.ireturn, 1) := by decide +kernel
theorem dX10_next_0 : decode cX10_next 0 = .ok (.aload_n 0, 1) := by decide +kernel
theorem dX10_next_1 : decode cX10_next 1 = .ok (.getfield 58, 3) := by decide +kernel
theorem dX10_next_4 : decode cX10_next 4 = .ok (.getfield 272, 3) := by decide +kernel
theorem dX10_next_7 : decode cX10_next 7 = .ok (.ifCond .ne 11, 3) := by decide +kernel
theorem dX10_next_10 : decode cX10_next 10 = .ok (.new 95, 3) := by decide +kernel
theorem dX10_next_13 : decode cX10_next 13 = .ok (.dup, 1) := by decide +kernel
theorem dX10_next_14 : decode cX10_next 14 = .ok (.invokespecial 97, 3) := by decide +kernel
theorem dX10_next_17 : decode cX10_next 17 = .ok (.athrow, 1) := by decide +kernel
theorem dX10_next_18 : decode cX10_next 18 = .ok (.aload_n 0, 1) := by decide +kernel
theorem dX10_next_19 : decode cX10_next 19 = .ok (.getfield 58, 3) := by decide +kernel
theorem dX10_next_22 : decode cX10_next 22 = .ok (.aload_n 0, 1) := by decide +kernel
theorem dX10_next_23 : decode cX10_next 23 = .ok (.getfield 9, 3) := by decide +kernel
theorem dX10_next_26 : decode cX10_next 26 = .ok (.invokevirtual 269, 3) := by decide +kernel
theorem dX10_next_29 : decode cX10_next 29 = .ok (.istore_n 1, 1) := by decide +kernel
theorem dX10_next_30 : decode cX10_next 30 = .ok (.iload_n 1, 1) := by decide +kernel
theorem dX10_next_31 : decode cX10_next 31 = .ok (.iconst (-1), 1) := by decide +kernel
theorem dX10_next_32 : decode cX10_next 32 = .ok (.if_icmp .ne 11, 3) := by decide +kernel
theorem dX10_next_35 : decode cX10_next 35 = .ok (.new 154, 3) := by decide +kernel
theorem dX10_next_38 : decode cX10_next 38 = .ok (.dup, 1) := by decide +kernel
theorem dX10_next_39 : decode cX10_next 39 = .ok (.invokespecial 156, 3) := by decide +kernel
theorem dX10_next_42 : decode cX10_next 42 = .ok (.athrow, 1) := by decide +kernel
theorem dX10_next_43 : decode cX10_next 43 = .ok (.aload_n 0, 1) := by decide +kernel
theorem dX10_next_44 : decode cX10_next 44 = .ok (.getfield 58, 3) := by decide +kernel
theorem dX10_next_47 : decode cX10_next 47 = .ok (.iload_n 1, 1) := by decide +kernel
theorem dX10_next_48 : decode cX10_next 48 = .ok (.putfield 275, 3) := by decide +kernel
theorem dX10_next_51 : decode cX10_next 51 = .ok (.iload_n 1, 1) := by decide +kernel
theorem dX10_next_52 : decode cX10_next 52 = .ok (.ireturn, 1) := by decide +kernel
theorem dX10_device_0 : decode cX10_device 0 = .ok (.aload_n 0, 1) := by decide +kernel
theorem dX10_device_1 : decode cX10_device 1 = .ok (.getfield 38, 3) := by decide +kernel
theorem dX10_device_4 : decode cX10_device 4 = .ok (.ifCond .lt 11, 3) := by decide +kernel
theorem dX10_device_7 : decode cX10_device 7 = .ok (.aload_n 0, 1) := by decide +kernel
theorem dX10_device_8 : decode cX10_device 8 = .ok (.getfield 38, 3) := by decide +kernel
theorem dX10_device_11 : decode cX10_device 11 = .ok (.iconst 3, 1) := by decide +kernel
theorem dX10_device_12 : decode cX10_device 12 = .ok (.if_icmp .lt 11, 3) := by decide +kernel
theorem dX10_device_15 : decode cX10_device 15 = .ok (.new 95, 3) := by decide +kernel
theorem dX10_device_18 : decode cX10_device 18 = .ok (.dup, 1) := by decide +kernel
theorem dX10_device_19 : decode cX10_device 19 = .ok (.invokespecial 97, 3) := by decide +kernel
theorem dX10_device_22 : decode cX10_device 22 = .ok (.athrow, 1) := by decide +kernel
theorem dX10_device_23 : decode cX10_device 23 = .ok (.aload_n 0, 1) := by decide +kernel
theorem dX10_device_24 : decode cX10_device 24 = .ok (.getfield 34, 3) := by decide +kernel
theorem dX10_device_27 : decode cX10_device 27 = .ok (.aload_n 0, 1) := by decide +kernel
theorem dX10_device_28 : decode cX10_device 28 = .ok (.getfield 38, 3) := by decide +kernel
theorem dX10_device_31 : decode cX10_device 31 = .ok (.new 32, 3) := by decide +kernel
theorem dX10_device_34 : decode cX10_device 34 = .ok (.dup, 1) := by decide +kernel
theorem dX10_device_35 : decode cX10_device 35 = .ok (.invokespecial 278, 3) := by decide +kernel
theorem dX10_device_38 : decode cX10_device 38 = .ok (.aastore, 1) := by decide +kernel
theorem dX10_device_39 : decode cX10_device 39 = .ok (.aload_n 0, 1) := by decide +kernel
theorem dX10_device_40 : decode cX10_device 40 = .ok (.dup, 1) := by decide +kernel
theorem dX10_device_41 : decode cX10_device 41 = .ok (.getfield 38, 3) := by decide +kernel
theorem dX10_device_44 : decode cX10_device 44 = .ok (.iconst 1, 1) := by decide +kernel
theorem dX10_device_45 : decode cX10_device 45 = .ok (.iadd, 1) := by decide +kernel
theorem dX10_device_46 : decode cX10_device 46 = .ok (.putfield 38, 3) := by decide +kernel
theorem dX10_device_49 : decode cX10_device 49 = .ok (.aload_n 0, 1) := by decide +kernel
theorem dX10_device_50 : decode cX10_device 50 = .ok (.getfield 38, 3) := by decide +kernel
theorem dX10_device_53 : decode cX10_device 53 = .ok (.iconst 1, 1) := by decide +kernel
theorem dX10_device_54 : decode cX10_device 54 = .ok (.isub, 1) := by decide +kernel
theorem dX10_device_55 : decode cX10_device 55 = .ok (.ireturn, 1) := by decide +kernel
theorem dX10_note_0 : decode cX10_note 0 = .ok (.aload_n 0, 1) := by decide +kernel
theorem dX10_note_1 : decode cX10_note 1 = .ok (.iload_n 1, 1) := by decide +kernel
theorem dX10_note_2 : decode cX10_note 2 = .ok (.invokevirtual 279, 3) := by decide +kernel
theorem dX10_note_5 : decode cX10_note 5 = .ok (.astore 7, 2) := by decide +kernel
theorem dX10_note_7 : decode cX10_note 7 = .ok (.iload_n 2, 1) := by decide +kernel
theorem dX10_note_8 : decode cX10_note 8 = .ok (.sipush 9999, 3) := by decide +kernel
theorem dX10_note_11 : decode cX10_note 11 = .ok (.invokestatic 118, 3) := by decide +kernel
theorem dX10_note_14 : decode cX10_note 14 = .ok (.ifCond .eq 28, 3) := by decide +kernel
theorem dX10_note_17 : decode cX10_note 17 = .ok (.iload_n 3, 1) := by decide +kernel
theorem dX10_note_18 : decode cX10_note 18 = .ok (.iload 4, 2) := by decide +kernel
theorem dX10_note_20 : decode cX10_note 20 = .ok (.iload 5, 2) := by decide +kernel
theorem dX10_note_22 : decode cX10_note 22 = .ok (.invokestatic 114, 3) := by decide +kernel
theorem dX10_note_25 : decode cX10_note 25 = .ok (.ifCond .eq 17, 3) := by decide +kernel
theorem dX10_note_28 : decode cX10_note 28 = .ok (.iload 6, 2) := by decide +kernel
theorem dX10_note_30 : decode cX10_note 30 = .ok (.bipush 9, 2) := by decide +kernel
theorem dX10_note_32 : decode cX10_note 32 = .ok (.invokestatic 118, 3) := by decide +kernel
theorem dX10_note_35 : decode cX10_note 35 = .ok (.ifCond .eq 7, 3) := by decide +kernel
theorem dX10_note_38 : decode cX10_note 38 = .ok (.iconst 1, 1) := by decide +kernel
theorem dX10_note_39 : decode cX10_note 39 = .ok (.goto 4, 3) := by decide +kernel
theorem dX10_note_42 : decode cX10_note 42 = .ok (.iconst 0, 1) := by decide +kernel
theorem dX10_note_43 : decode cX10_note 43 = .ok (.invokestatic 81, 3) := by decide +kernel
theorem dX10_note_46 : decode cX10_note 46 = .ok (.aload 7, 2) := by decide +kernel
theorem dX10_note_48 : decode cX10_note 48 = .ok (.invokevirtual 283, 3) := by decide +kernel
theorem dX10_note_51 : decode cX10_note 51 = .ok (.ifCond .eq 11, 3) := by decide +kernel
theorem dX10_note_54 : decode cX10_note 54 = .ok (.new 95, 3) := by decide +kernel
theorem dX10_note_57 : decode cX10_note 57 = .ok (.dup, 1) := by decide +kernel
theorem dX10_note_58 : decode cX10_note 58 = .ok (.invokespecial 97, 3) := by decide +kernel
theorem dX10_note_61 : decode cX10_note 61 = .ok (.athrow, 1) := by decide +kernel
theorem dX10_note_62 : decode cX10_note 62 = .ok (.aload 7, 2) := by decide +kernel
theorem dX10_note_64 : decode cX10_note 64 = .ok (.iload_n 2, 1) := by decide +kernel
theorem dX10_note_65 : decode cX10_note 65 = .ok (.iload_n 3, 1) := by decide +kernel
theorem dX10_note_66 : decode cX10_note 66 = .ok (.bipush 8, 2) := by decide +kernel
theorem dX10_note_68 : decode cX10_note 68 = .ok (.iload 5, 2) := by decide +kernel
theorem dX10_note_70 : decode cX10_note 70 = .ok (.imul, 1) := by decide +kernel
theorem dX10_note_71 : decode cX10_note 71 = .ok (.iload 4, 2) := by decide +kernel
theorem dX10_note_73 : decode cX10_note 73 = .ok (.iadd, 1) := by decide +kernel
theorem dX10_note_74 : decode cX10_note 74 = .ok (.invokestatic 122, 3) := by decide +kernel
theorem dX10_note_77 : decode cX10_note 77 = .ok (.iload 6, 2) := by decide +kernel
theorem dX10_note_79 : decode cX10_note 79 = .ok (.invokevirtual 284, 3) := by decide +kernel
theorem dX10_note_82 : decode cX10_note 82 = .ok (.aload 7, 2) := by decide +kernel
theorem dX10_note_84 : decode cX10_note 84 = .ok (.getfield 287, 3) := by decide +kernel
theorem dX10_note_87 : decode cX10_note 87 = .ok (.ireturn, 1) := by decide +kernel
theorem dX10_home_0 : decode cX10_home 0 = .ok (.aload_n 0, 1) := by decide +kernel
theorem dX10_home_1 : decode cX10_home 1 = .ok (.iload_n 1, 1) := by decide +kernel
theorem dX10_home_2 : decode cX10_home 2 = .ok (.invokevirtual 279, 3) := by decide +kernel
theorem dX10_home_5 : decode cX10_home 5 = .ok (.astore 5, 2) := by decide +kernel
theorem dX10_home_7 : decode cX10_home 7 = .ok (.aload_n 0, 1) := by decide +kernel
theorem dX10_home_8 : decode cX10_home 8 = .ok (.iload_n 2, 1) := by decide +kernel
theorem dX10_home_9 : decode cX10_home 9 = .ok (.invokevirtual 106, 3) := by decide +kernel
theorem dX10_home_12 : decode cX10_home 12 = .ok (.astore 6, 2) := by decide +kernel
theorem dX10_home_14 : decode cX10_home 14 = .ok (.iload_n 3, 1) := by decide +kernel
theorem dX10_home_15 : decode cX10_home 15 = .ok (.sipush 9999, 3) := by decide +kernel
theorem dX10_home_18 : decode cX10_home 18 = .ok (.invokestatic 118, 3) := by decide +kernel
theorem dX10_home_21 : decode cX10_home 21 = .ok (.ifCond .eq 18, 3) := by decide +kernel
theorem dX10_home_24 : decode cX10_home 24 = .ok (.iload 4, 2) := by decide +kernel
theorem dX10_home_26 : decode cX10_home 26 = .ok (.sipush 9999, 3) := by decide +kernel
theorem dX10_home_29 : decode cX10_home 29 = .ok (.invokestatic 118, 3) := by decide +kernel
theorem dX10_home_32 : decode cX10_home 32 = .ok (.ifCond .eq 7, 3) := by decide +kernel
theorem dX10_home_35 : decode cX10_home 35 = .ok (.iconst 1, 1) := by decide +kernel
theorem dX10_home_36 : decode cX10_home 36 = .ok (.goto 4, 3) := by decide +kernel
theorem dX10_home_39 : decode cX10_home 39 = .ok (.iconst 0, 1) := by decide +kernel
theorem dX10_home_40 : decode cX10_home 40 = .ok (.invokestatic 81, 3) := by decide +kernel
theorem dX10_home_43 : decode cX10_home 43 = .ok (.aload 5, 2) := by decide +kernel
theorem dX10_home_45 : decode cX10_home 45 = .ok (.aload 6, 2) := by decide +kernel
theorem dX10_home_47 : decode cX10_home 47 = .ok (.iload_n 3, 1) := by decide +kernel
theorem dX10_home_48 : decode cX10_home 48 = .ok (.iload 4, 2) := by decide +kernel
theorem dX10_home_50 : decode cX10_home 50 = .ok (.isub, 1) := by decide +kernel
theorem dX10_home_51 : decode cX10_home 51 = .ok (.invokevirtual 290, 3) := by decide +kernel
theorem dX10_home_54 : decode cX10_home 54 = .ok (.ireturn, 1) := by decide +kernel
theorem dX10_ahead_0 : decode cX10_ahead 0 = .ok (.aload_n 0, 1) := by decide +kernel
theorem dX10_ahead_1 : decode cX10_ahead 1 = .ok (.iload_n 1, 1) := by decide +kernel
theorem dX10_ahead_2 : decode cX10_ahead 2 = .ok (.invokevirtual 279, 3) := by decide +kernel
theorem dX10_ahead_5 : decode cX10_ahead 5 = .ok (.getfield 294, 3) := by decide +kernel
theorem dX10_ahead_8 : decode cX10_ahead 8 = .ok (.ireturn, 1) := by decide +kernel
theorem dX10_knownDevice_0 : decode cX10_knownDevice 0 = .ok (.iload_n 1, 1) := by decide +kernel
theorem dX10_knownDevice_1 : decode cX10_knownDevice 1 = .ok (.ifCond .lt 8, 3) := by decide +kernel
theorem dX10_knownDevice_4 : decode cX10_knownDevice 4 = .ok (.iload_n 1, 1) := by decide +kernel
theorem dX10_knownDevice_5 : decode cX10_knownDevice 5 = .ok (.iconst 3, 1) := by decide +kernel
theorem dX10_knownDevice_6 : decode cX10_knownDevice 6 = .ok (.if_icmp .lt 11, 3) := by decide +kernel
theorem dX10_knownDevice_9 : decode cX10_knownDevice 9 = .ok (.new 167, 3) := by decide +kernel
theorem dX10_knownDevice_12 : decode cX10_knownDevice 12 = .ok (.dup, 1) := by decide +kernel
theorem dX10_knownDevice_13 : decode cX10_knownDevice 13 = .ok (.invokespecial 169, 3) := by decide +kernel
theorem dX10_knownDevice_16 : decode cX10_knownDevice 16 = .ok (.athrow, 1) := by decide +kernel
theorem dX10_knownDevice_17 : decode cX10_knownDevice 17 = .ok (.aload_n 0, 1) := by decide +kernel
theorem dX10_knownDevice_18 : decode cX10_knownDevice 18 = .ok (.getfield 34, 3) := by decide +kernel
theorem dX10_knownDevice_21 : decode cX10_knownDevice 21 = .ok (.iload_n 1, 1) := by decide +kernel
theorem dX10_knownDevice_22 : decode cX10_knownDevice 22 = .ok (.aaload, 1) := by decide +kernel
theorem dX10_knownDevice_23 : decode cX10_knownDevice 23 = .ok (.astore_n 2, 1) := by decide +kernel
theorem dX10_knownDevice_24 : decode cX10_knownDevice 24 = .ok (.aload_n 2, 1) := by decide +kernel
theorem dX10_knownDevice_25 : decode cX10_knownDevice 25 = .ok (.ifnonnull 11, 3) := by decide +kernel
theorem dX10_knownDevice_28 : decode cX10_knownDevice 28 = .ok (.new 167, 3) := by decide +kernel
theorem dX10_knownDevice_31 : decode cX10_knownDevice 31 = .ok (.dup, 1) := by decide +kernel
theorem dX10_knownDevice_32 : decode cX10_knownDevice 32 = .ok (.invokespecial 169, 3) := by decide +kernel
theorem dX10_knownDevice_35 : decode cX10_knownDevice 35 = .ok (.athrow, 1) := by decide +kernel
theorem dX10_knownDevice_36 : decode cX10_knownDevice 36 = .ok (.aload_n 2, 1) := by decide +kernel
theorem dX10_knownDevice_37 : decode cX10_knownDevice 37 = .ok (.areturn, 1) := by decide +kernel
theorem dX10_fullShare_0 : decode cX10_fullShare 0 = .ok (.iload_n 1, 1) := by decide +kernel
theorem dX10_fullShare_1 : decode cX10_fullShare 1 = .ok (.invokestatic 249, 3) := by decide +kernel
theorem dX10_fullShare_4 : decode cX10_fullShare 4 = .ok (.invokestatic 81, 3) := by decide +kernel
theorem dX10_fullShare_7 : decode cX10_fullShare 7 = .ok (.bipush 64, 2) := by decide +kernel
theorem dX10_fullShare_9 : decode cX10_fullShare 9 = .ok (.aload_n 0, 1) := by decide +kernel
theorem dX10_fullShare_10 : decode cX10_fullShare 10 = .ok (.getfield 9, 3) := by decide +kernel
theorem dX10_fullShare_13 : decode cX10_fullShare 13 = .ok (.iload_n 1, 1) := by decide +kernel
theorem dX10_fullShare_14 : decode cX10_fullShare 14 = .ok (.iconst 0, 1) := by decide +kernel
theorem dX10_fullShare_15 : decode cX10_fullShare 15 = .ok (.invokestatic 264, 3) := by decide +kernel
theorem dX10_fullShare_18 : decode cX10_fullShare 18 = .ok (.isub, 1) := by decide +kernel
theorem dX10_fullShare_19 : decode cX10_fullShare 19 = .ok (.i2f, 1) := by decide +kernel
theorem dX10_fullShare_20 : decode cX10_fullShare 20 = .ok (.ldc_w 297, 3) := by decide +kernel
theorem dX10_fullShare_23 : decode cX10_fullShare 23 = .ok (.fdiv, 1) := by decide +kernel
theorem dX10_fullShare_24 : decode cX10_fullShare 24 = .ok (.freturn, 1) := by decide +kernel
theorem dX10_meanSize_0 : decode cX10_meanSize 0 = .ok (.iload_n 1, 1) := by decide +kernel
theorem dX10_meanSize_1 : decode cX10_meanSize 1 = .ok (.invokestatic 249, 3) := by decide +kernel
theorem dX10_meanSize_4 : decode cX10_meanSize 4 = .ok (.invokestatic 81, 3) := by decide +kernel
theorem dX10_meanSize_7 : decode cX10_meanSize 7 = .ok (.iconst 0, 1) := by decide +kernel
theorem dX10_meanSize_8 : decode cX10_meanSize 8 = .ok (.istore_n 2, 1) := by decide +kernel
theorem dX10_meanSize_9 : decode cX10_meanSize 9 = .ok (.iconst 1, 1) := by decide +kernel
theorem dX10_meanSize_10 : decode cX10_meanSize 10 = .ok (.istore_n 3, 1) := by decide +kernel
theorem dX10_meanSize_11 : decode cX10_meanSize 11 = .ok (.iload_n 3, 1) := by decide +kernel
theorem dX10_meanSize_12 : decode cX10_meanSize 12 = .ok (.bipush 9, 2) := by decide +kernel
theorem dX10_meanSize_14 : decode cX10_meanSize 14 = .ok (.if_icmp .gt 24, 3) := by decide +kernel
theorem dX10_meanSize_17 : decode cX10_meanSize 17 = .ok (.aload_n 0, 1) := by decide +kernel
theorem dX10_meanSize_18 : decode cX10_meanSize 18 = .ok (.getfield 9, 3) := by decide +kernel
theorem dX10_meanSize_21 : decode cX10_meanSize 21 = .ok (.iload_n 1, 1) := by decide +kernel
theorem dX10_meanSize_22 : decode cX10_meanSize 22 = .ok (.iload_n 3, 1) := by decide +kernel
theorem dX10_meanSize_23 : decode cX10_meanSize 23 = .ok (.invokestatic 264, 3) := by decide +kernel
theorem dX10_meanSize_26 : decode cX10_meanSize 26 = .ok (.ifCond .le 6, 3) := by decide +kernel
theorem dX10_meanSize_29 : decode cX10_meanSize 29 = .ok (.iinc 2 1, 3) := by decide +kernel
theorem dX10_meanSize_32 : decode cX10_meanSize 32 = .ok (.iinc 3 1, 3) := by decide +kernel
theorem dX10_meanSize_35 : decode cX10_meanSize 35 = .ok (.goto (-24), 3) := by decide +kernel
theorem dX10_meanSize_38 : decode cX10_meanSize 38 = .ok (.iload_n 2, 1) := by decide +kernel
theorem dX10_meanSize_39 : decode cX10_meanSize 39 = .ok (.ifCond .ne 11, 3) := by decide +kernel
theorem dX10_meanSize_42 : decode cX10_meanSize 42 = .ok (.new 298, 3) := by decide +kernel
theorem dX10_meanSize_45 : decode cX10_meanSize 45 = .ok (.dup, 1) := by decide +kernel
theorem dX10_meanSize_46 : decode cX10_meanSize 46 = .ok (.invokespecial 300, 3) := by decide +kernel
theorem dX10_meanSize_49 : decode cX10_meanSize 49 = .ok (.athrow, 1) := by decide +kernel
theorem dX10_meanSize_50 : decode cX10_meanSize 50 = .ok (.bipush 64, 2) := by decide +kernel
theorem dX10_meanSize_52 : decode cX10_meanSize 52 = .ok (.aload_n 0, 1) := by decide +kernel
theorem dX10_meanSize_53 : decode cX10_meanSize 53 = .ok (.getfield 9, 3) := by decide +kernel
theorem dX10_meanSize_56 : decode cX10_meanSize 56 = .ok (.iload_n 1, 1) := by decide +kernel
theorem dX10_meanSize_57 : decode cX10_meanSize 57 = .ok (.iconst 0, 1) := by decide +kernel
theorem dX10_meanSize_58 : decode cX10_meanSize 58 = .ok (.invokestatic 264, 3) := by decide +kernel
theorem dX10_meanSize_61 : decode cX10_meanSize 61 = .ok (.isub, 1) := by decide +kernel
theorem dX10_meanSize_62 : decode cX10_meanSize 62 = .ok (.i2d, 1) := by decide +kernel
theorem dX10_meanSize_63 : decode cX10_meanSize 63 = .ok (.iload_n 2, 1) := by decide +kernel
theorem dX10_meanSize_64 : decode cX10_meanSize 64 = .ok (.i2d, 1) := by decide +kernel
theorem dX10_meanSize_65 : decode cX10_meanSize 65 = .ok (.ddiv, 1) := by decide +kernel
theorem dX10_meanSize_66 : decode cX10_meanSize 66 = .ok (.dreturn, 1) := by decide +kernel
theorem dX10_checksum_0 : decode cX10_checksum 0 = .ok (.ldc2_w 301, 3) := by decide +kernel
theorem dX10_checksum_3 : decode cX10_checksum 3 = .ok (.lstore_n 1, 1) := by decide +kernel
theorem dX10_checksum_4 : decode cX10_checksum 4 = .ok (.iconst 0, 1) := by decide +kernel
theorem dX10_checksum_5 : decode cX10_checksum 5 = .ok (.istore_n 3, 1) := by decide +kernel
theorem dX10_checksum_6 : decode cX10_checksum 6 = .ok (.iload_n 3, 1) := by decide +kernel
theorem dX10_checksum_7 : decode cX10_checksum 7 = .ok (.sipush 304, 3) := by decide +kernel
theorem dX10_checksum_10 : decode cX10_checksum 10 = .ok (.if_icmp .ge 23, 3) := by decide +kernel
theorem dX10_checksum_13 : decode cX10_checksum 13 = .ok (.ldc2_w 303, 3) := by decide +kernel
theorem dX10_checksum_16 : decode cX10_checksum 16 = .ok (.lload_n 1, 1) := by decide +kernel
theorem dX10_checksum_17 : decode cX10_checksum 17 = .ok (.lmul, 1) := by decide +kernel
theorem dX10_checksum_18 : decode cX10_checksum 18 = .ok (.aload_n 0, 1) := by decide +kernel
theorem dX10_checksum_19 : decode cX10_checksum 19 = .ok (.getfield 9, 3) := by decide +kernel
theorem dX10_checksum_22 : decode cX10_checksum 22 = .ok (.iload_n 3, 1) := by decide +kernel
theorem dX10_checksum_23 : decode cX10_checksum 23 = .ok (.iaload, 1) := by decide +kernel
theorem dX10_checksum_24 : decode cX10_checksum 24 = .ok (.i2l, 1) := by decide +kernel
theorem dX10_checksum_25 : decode cX10_checksum 25 = .ok (.ladd, 1) := by decide +kernel
theorem dX10_checksum_26 : decode cX10_checksum 26 = .ok (.lstore_n 1, 1) := by decide +kernel
theorem dX10_checksum_27 : decode cX10_checksum 27 = .ok (.iinc 3 1, 3) := by decide +kernel
theorem dX10_checksum_30 : decode cX10_checksum 30 = .ok (.goto (-24), 3) := by decide +kernel
theorem dX10_checksum_33 : decode cX10_checksum 33 = .ok (.ldc2_w 303, 3) := by decide +kernel
theorem dX10_checksum_36 : decode cX10_checksum 36 = .ok (.lload_n 1, 1) := by decide +kernel
theorem dX10_checksum_37 : decode cX10_checksum 37 = .ok (.lmul, 1) := by decide +kernel
theorem dX10_checksum_38 : decode cX10_checksum 38 = .ok (.aload_n 0, 1) := by decide +kernel
theorem dX10_checksum_39 : decode cX10_checksum 39 = .ok (.getfield 44, 3) := by decide +kernel
theorem dX10_checksum_42 : decode cX10_checksum 42 = .ok (.getfield 213, 3) := by decide +kernel
theorem dX10_checksum_45 : decode cX10_checksum 45 = .ok (.i2l, 1) := by decide +kernel
theorem dX10_checksum_46 : decode cX10_checksum 46 = .ok (.ladd, 1) := by decide +kernel
theorem dX10_checksum_47 : decode cX10_checksum 47 = .ok (.lreturn, 1) := by decide +kernel
theorem dX10_isSound_0 : decode cX10_isSound 0 = .ok (.aload_n 0, 1) := by decide +kernel
theorem dX10_isSound_1 : decode cX10_isSound 1 = .ok (.getfield 44, 3) := by decide +kernel
theorem dX10_isSound_4 : decode cX10_isSound 4 = .ok (.aload_n 0, 1) := by decide +kernel
theorem dX10_isSound_5 : decode cX10_isSound 5 = .ok (.getfield 44, 3) := by decide +kernel
theorem dX10_isSound_8 : decode cX10_isSound 8 = .ok (.getfield 213, 3) := by decide +kernel
theorem dX10_isSound_11 : decode cX10_isSound 11 = .ok (.aload_n 0, 1) := by decide +kernel
theorem dX10_isSound_12 : decode cX10_isSound 12 = .ok (.getfield 13, 3) := by decide +kernel
theorem dX10_isSound_15 : decode cX10_isSound 15 = .ok (.invokevirtual 194, 3) := by decide +kernel
theorem dX10_isSound_18 : decode cX10_isSound 18 = .ok (.aload_n 0, 1) := by decide +kernel
theorem dX10_isSound_19 : decode cX10_isSound 19 = .ok (.invokevirtual 305, 3) := by decide +kernel
theorem dX10_isSound_22 : decode cX10_isSound 22 = .ok (.ifCond .eq 42, 3) := by decide +kernel
theorem dX10_isSound_25 : decode cX10_isSound 25 = .ok (.aload_n 0, 1) := by decide +kernel
theorem dX10_isSound_26 : decode cX10_isSound 26 = .ok (.getfield 9, 3) := by decide +kernel
theorem dX10_isSound_29 : decode cX10_isSound 29 = .ok (.aload_n 0, 1) := by decide +kernel
theorem dX10_isSound_30 : decode cX10_isSound 30 = .ok (.getfield 13, 3) := by decide +kernel
theorem dX10_isSound_33 : decode cX10_isSound 33 = .ok (.invokestatic 177, 3) := by decide +kernel
theorem dX10_isSound_36 : decode cX10_isSound 36 = .ok (.ifCond .ne 28, 3) := by decide +kernel
theorem dX10_isSound_39 : decode cX10_isSound 39 = .ok (.aload_n 0, 1) := by decide +kernel
theorem dX10_isSound_40 : decode cX10_isSound 40 = .ok (.getfield 51, 3) := by decide +kernel
theorem dX10_isSound_43 : decode cX10_isSound 43 = .ok (.aload_n 0, 1) := by decide +kernel
theorem dX10_isSound_44 : decode cX10_isSound 44 = .ok (.getfield 9, 3) := by decide +kernel
theorem dX10_isSound_47 : decode cX10_isSound 47 = .ok (.invokevirtual 308, 3) := by decide +kernel
theorem dX10_isSound_50 : decode cX10_isSound 50 = .ok (.ifCond .eq 14, 3) := by decide +kernel
theorem dX10_isSound_53 : decode cX10_isSound 53 = .ok (.aload_n 0, 1) := by decide +kernel
theorem dX10_isSound_54 : decode cX10_isSound 54 = .ok (.invokevirtual 312, 3) := by decide +kernel
theorem dX10_isSound_57 : decode cX10_isSound 57 = .ok (.ifCond .eq 7, 3) := by decide +kernel
theorem dX10_isSound_60 : decode cX10_isSound 60 = .ok (.iconst 1, 1) := by decide +kernel
theorem dX10_isSound_61 : decode cX10_isSound 61 = .ok (.goto 4, 3) := by decide +kernel
theorem dX10_isSound_64 : decode cX10_isSound 64 = .ok (.iconst 0, 1) := by decide +kernel
theorem dX10_isSound_65 : decode cX10_isSound 65 = .ok (.ireturn, 1) := by decide +kernel
theorem dX10_rulesHoldByPairs_0 : decode cX10_rulesHoldByPairs 0 = .ok (.iconst 0, 1) := by decide +kernel
theorem dX10_rulesHoldByPairs_1 : decode cX10_rulesHoldByPairs 1 = .ok (.istore_n 1, 1) := by decide +kernel
theorem dX10_rulesHoldByPairs_2 : decode cX10_rulesHoldByPairs 2 = .ok (.iload_n 1, 1) := by decide +kernel
theorem dX10_rulesHoldByPairs_3 : decode cX10_rulesHoldByPairs 3 = .ok (.aload_n 0, 1) := by decide +kernel
theorem dX10_rulesHoldByPairs_4 : decode cX10_rulesHoldByPairs 4 = .ok (.getfield 22, 3) := by decide +kernel
theorem dX10_rulesHoldByPairs_7 : decode cX10_rulesHoldByPairs 7 = .ok (.if_icmp .ge 43, 3) := by decide +kernel
theorem dX10_rulesHoldByPairs_10 : decode cX10_rulesHoldByPairs 10 = .ok (.iload_n 1, 1) := by decide +kernel
theorem dX10_rulesHoldByPairs_11 : decode cX10_rulesHoldByPairs 11 = .ok (.bipush 6, 2) := by decide +kernel
theorem dX10_rulesHoldByPairs_13 : decode cX10_rulesHoldByPairs 13 = .ok (.if_icmp .ge 37, 3) := by decide +kernel
theorem dX10_rulesHoldByPairs_16 : decode cX10_rulesHoldByPairs 16 = .ok (.aload_n 0, 1) := by decide +kernel
theorem dX10_rulesHoldByPairs_17 : decode cX10_rulesHoldByPairs 17 = .ok (.getfield 18, 3) := by decide +kernel
theorem dX10_rulesHoldByPairs_20 : decode cX10_rulesHoldByPairs 20 = .ok (.iload_n 1, 1) := by decide +kernel
theorem dX10_rulesHoldByPairs_21 : decode cX10_rulesHoldByPairs 21 = .ok (.aaload, 1) := by decide +kernel
theorem dX10_rulesHoldByPairs_22 : decode cX10_rulesHoldByPairs 22 = .ok (.astore_n 2, 1) := by decide +kernel
theorem dX10_rulesHoldByPairs_23 : decode cX10_rulesHoldByPairs 23 = .ok (.aload_n 2, 1) := by decide +kernel
theorem dX10_rulesHoldByPairs_24 : decode cX10_rulesHoldByPairs 24 = .ok (.ifnull 20, 3) := by decide +kernel
theorem dX10_rulesHoldByPairs_27 : decode cX10_rulesHoldByPairs 27 = .ok (.aload_n 0, 1) := by decide +kernel
theorem dX10_rulesHoldByPairs_28 : decode cX10_rulesHoldByPairs 28 = .ok (.getfield 72, 3) := by decide +kernel
theorem dX10_rulesHoldByPairs_31 : decode cX10_rulesHoldByPairs 31 = .ok (.aload_n 2, 1) := by decide +kernel
theorem dX10_rulesHoldByPairs_32 : decode cX10_rulesHoldByPairs 32 = .ok (.aload_n 0, 1) := by decide +kernel
theorem dX10_rulesHoldByPairs_33 : decode cX10_rulesHoldByPairs 33 = .ok (.getfield 9, 3) := by decide +kernel
theorem dX10_rulesHoldByPairs_36 : decode cX10_rulesHoldByPairs 36 = .ok (.invokevirtual 315, 3) := by decide +kernel
theorem dX10_rulesHoldByPairs_39 : decode cX10_rulesHoldByPairs 39 = .ok (.ifCond .ne 5, 3) := by decide +kernel
theorem dX10_rulesHoldByPairs_42 : decode cX10_rulesHoldByPairs 42 = .ok (.iconst 0, 1) := by decide +kernel
theorem dX10_rulesHoldByPairs_43 : decode cX10_rulesHoldByPairs 43 = .ok (.ireturn, 1) := by decide +kernel
theorem dX10_rulesHoldByPairs_44 : decode cX10_rulesHoldByPairs 44 = .ok (.iinc 1 1, 3) := by decide +kernel
theorem dX10_rulesHoldByPairs_47 : decode cX10_rulesHoldByPairs 47 = .ok (.goto (-45), 3) := by decide +kernel
theorem dX10_rulesHoldByPairs_50 : decode cX10_rulesHoldByPairs 50 = .ok (.iconst 1, 1) := by decide +kernel
theorem dX10_rulesHoldByPairs_51 : decode cX10_rulesHoldByPairs 51 = .ok (.ireturn, 1) := by decide +kernel
theorem dX10_branchesAreSound_0 : decode cX10_branchesAreSound 0 = .ok (.iconst 0, 1) := by decide +kernel
theorem dX10_branchesAreSound_1 : decode cX10_branchesAreSound 1 = .ok (.istore_n 1, 1) := by decide +kernel
theorem dX10_branchesAreSound_2 : decode cX10_branchesAreSound 2 = .ok (.iload_n 1, 1) := by decide +kernel
theorem dX10_branchesAreSound_3 : decode cX10_branchesAreSound 3 = .ok (.iconst 4, 1) := by decide +kernel
theorem dX10_branchesAreSound_4 : decode cX10_branchesAreSound 4 = .ok (.if_icmp .ge 36, 3) := by decide +kernel
theorem dX10_branchesAreSound_7 : decode cX10_branchesAreSound 7 = .ok (.aload_n 0, 1) := by decide +kernel
theorem dX10_branchesAreSound_8 : decode cX10_branchesAreSound 8 = .ok (.getfield 28, 3) := by decide +kernel
theorem dX10_branchesAreSound_11 : decode cX10_branchesAreSound 11 = .ok (.iload_n 1, 1) := by decide +kernel
theorem dX10_branchesAreSound_12 : decode cX10_branchesAreSound 12 = .ok (.aaload, 1) := by decide +kernel
theorem dX10_branchesAreSound_13 : decode cX10_branchesAreSound 13 = .ok (.astore_n 2, 1) := by decide +kernel
theorem dX10_branchesAreSound_14 : decode cX10_branchesAreSound 14 = .ok (.aload_n 2, 1) := by decide +kernel
theorem dX10_branchesAreSound_15 : decode cX10_branchesAreSound 15 = .ok (.ifnull 19, 3) := by decide +kernel
theorem dX10_branchesAreSound_18 : decode cX10_branchesAreSound 18 = .ok (.aload_n 2, 1) := by decide +kernel
theorem dX10_branchesAreSound_19 : decode cX10_branchesAreSound 19 = .ok (.getfield 98, 3) := by decide +kernel
theorem dX10_branchesAreSound_22 : decode cX10_branchesAreSound 22 = .ok (.ifCond .eq 12, 3) := by decide +kernel
theorem dX10_branchesAreSound_25 : decode cX10_branchesAreSound 25 = .ok (.aload_n 2, 1) := by decide +kernel
theorem dX10_branchesAreSound_26 : decode cX10_branchesAreSound 26 = .ok (.invokevirtual 318, 3) := by decide +kernel
theorem dX10_branchesAreSound_29 : decode cX10_branchesAreSound 29 = .ok (.ifCond .eq 5, 3) := by decide +kernel
theorem dX10_branchesAreSound_32 : decode cX10_branchesAreSound 32 = .ok (.iconst 0, 1) := by decide +kernel
theorem dX10_branchesAreSound_33 : decode cX10_branchesAreSound 33 = .ok (.ireturn, 1) := by decide +kernel
theorem dX10_branchesAreSound_34 : decode cX10_branchesAreSound 34 = .ok (.iinc 1 1, 3) := by decide +kernel
theorem dX10_branchesAreSound_37 : decode cX10_branchesAreSound 37 = .ok (.goto (-35), 3) := by decide +kernel
theorem dX10_branchesAreSound_40 : decode cX10_branchesAreSound 40 = .ok (.iconst 1, 1) := by decide +kernel
theorem dX10_branchesAreSound_41 : decode cX10_branchesAreSound 41 = .ok (.ireturn, 1) := by decide +kernel
theorem dX10_need_0 : decode cX10_need 0 = .ok (.iload_n 0, 1) := by decide +kernel
theorem dX10_need_1 : decode cX10_need 1 = .ok (.ifCond .ne 11, 3) := by decide +kernel
theorem dX10_need_4 : decode cX10_need 4 = .ok (.new 321, 3) := by decide +kernel
theorem dX10_need_7 : decode cX10_need 7 = .ok (.dup, 1) := by decide +kernel
theorem dX10_need_8 : decode cX10_need 8 = .ok (.invokespecial 323, 3) := by decide +kernel
theorem dX10_need_11 : decode cX10_need 11 = .ok (.athrow, 1) := by decide +kernel
theorem dX10_need_12 : decode cX10_need 12 = .ok (.return_, 1) := by decide +kernel
theorem dX10_isWithin_0 : decode cX10_isWithin 0 = .ok (.iload_n 0, 1) := by decide +kernel
theorem dX10_isWithin_1 : decode cX10_isWithin 1 = .ok (.ifCond .lt 12, 3) := by decide +kernel
theorem dX10_isWithin_4 : decode cX10_isWithin 4 = .ok (.iload_n 0, 1) := by decide +kernel
theorem dX10_isWithin_5 : decode cX10_isWithin 5 = .ok (.iload_n 1, 1) := by decide +kernel
theorem dX10_isWithin_6 : decode cX10_isWithin 6 = .ok (.if_icmp .gt 7, 3) := by decide +kernel
theorem dX10_isWithin_9 : decode cX10_isWithin 9 = .ok (.iconst 1, 1) := by decide +kernel
theorem dX10_isWithin_10 : decode cX10_isWithin 10 = .ok (.goto 4, 3) := by decide +kernel
theorem dX10_isWithin_13 : decode cX10_isWithin 13 = .ok (.iconst 0, 1) := by decide +kernel
theorem dX10_isWithin_14 : decode cX10_isWithin 14 = .ok (.ireturn, 1) := by decide +kernel
theorem dX10_isLayer_0 : decode cX10_isLayer 0 = .ok (.iload_n 0, 1) := by decide +kernel
theorem dX10_isLayer_1 : decode cX10_isLayer 1 = .ok (.iconst 2, 1) := by decide +kernel
theorem dX10_isLayer_2 : decode cX10_isLayer 2 = .ok (.invokestatic 118, 3) := by decide +kernel
theorem dX10_isLayer_5 : decode cX10_isLayer 5 = .ok (.ireturn, 1) := by decide +kernel
theorem dX10_isPlace_0 : decode cX10_isPlace 0 = .ok (.iload_n 0, 1) := by decide +kernel
theorem dX10_isPlace_1 : decode cX10_isPlace 1 = .ok (.invokestatic 249, 3) := by decide +kernel
theorem dX10_isPlace_4 : decode cX10_isPlace 4 = .ok (.ifCond .eq 25, 3) := by decide +kernel
theorem dX10_isPlace_7 : decode cX10_isPlace 7 = .ok (.iload_n 1, 1) := by decide +kernel
theorem dX10_isPlace_8 : decode cX10_isPlace 8 = .ok (.bipush 7, 2) := by decide +kernel
theorem dX10_isPlace_10 : decode cX10_isPlace 10 = .ok (.invokestatic 118, 3) := by decide +kernel
theorem dX10_isPlace_13 : decode cX10_isPlace 13 = .ok (.ifCond .eq 16, 3) := by decide +kernel
theorem dX10_isPlace_16 : decode cX10_isPlace 16 = .ok (.iload_n 2, 1) := by decide +kernel
theorem dX10_isPlace_17 : decode cX10_isPlace 17 = .ok (.bipush 7, 2) := by decide +kernel
theorem dX10_isPlace_19 : decode cX10_isPlace 19 = .ok (.invokestatic 118, 3) := by decide +kernel
theorem dX10_isPlace_22 : decode cX10_isPlace 22 = .ok (.ifCond .eq 7, 3) := by decide +kernel
theorem dX10_isPlace_25 : decode cX10_isPlace 25 = .ok (.iconst 1, 1) := by decide +kernel
theorem dX10_isPlace_26 : decode cX10_isPlace 26 = .ok (.goto 4, 3) := by decide +kernel
theorem dX10_isPlace_29 : decode cX10_isPlace 29 = .ok (.iconst 0, 1) := by decide +kernel
theorem dX10_isPlace_30 : decode cX10_isPlace 30 = .ok (.ireturn, 1) := by decide +kernel
theorem dX10_isSpot_0 : decode cX10_isSpot 0 = .ok (.iload_n 0, 1) := by decide +kernel
theorem dX10_isSpot_1 : decode cX10_isSpot 1 = .ok (.sipush 303, 3) := by decide +kernel
theorem dX10_isSpot_4 : decode cX10_isSpot 4 = .ok (.invokestatic 118, 3) := by decide +kernel
theorem dX10_isSpot_7 : decode cX10_isSpot 7 = .ok (.ireturn, 1) := by decide +kernel
theorem dX10_isArea_0 : decode cX10_isArea 0 = .ok (.iload_n 0, 1) := by decide +kernel
theorem dX10_isArea_1 : decode cX10_isArea 1 = .ok (.iconst 1, 1) := by decide +kernel
theorem dX10_isArea_2 : decode cX10_isArea 2 = .ok (.if_icmp .lt 13, 3) := by decide +kernel
theorem dX10_isArea_5 : decode cX10_isArea 5 = .ok (.iload_n 0, 1) := by decide +kernel
theorem dX10_isArea_6 : decode cX10_isArea 6 = .ok (.bipush 9, 2) := by decide +kernel
theorem dX10_isArea_8 : decode cX10_isArea 8 = .ok (.if_icmp .gt 7, 3) := by decide +kernel
theorem dX10_isArea_11 : decode cX10_isArea 11 = .ok (.iconst 1, 1) := by decide +kernel
theorem dX10_isArea_12 : decode cX10_isArea 12 = .ok (.goto 4, 3) := by decide +kernel
theorem dX10_isArea_15 : decode cX10_isArea 15 = .ok (.iconst 0, 1) := by decide +kernel
theorem dX10_isArea_16 : decode cX10_isArea 16 = .ok (.ireturn, 1) := by decide +kernel
